def RX0 : String := "SeatsRound$Acts"
def TX0 : u_T := fun k => match k with
  | 0 => ("SeatsRound$Acts", "bodies", "[I", true)
  | 1 => ("SeatsRound$Acts", "ran", "I", false)
  | 2 => ("SeatsRound$Acts", "own", "I", false)
  | 3 => ("SeatsRound$Acts", "number", "I", false)
  | _ => ("SeatsRound$Acts", "strength", "I", false)
def tyX0 : Nat → FieldType := fun k => match k with
  | 0 => .array .int
  | 1 => .int
  | 2 => .int
  | 3 => .int
  | _ => .int
abbrev wsX00 : List Cond := u_ws RX0 TX0 5
theorem nmX0 : ∀ a, a < 5 → ∀ b, b < 5 → a ≠ b → (TX0 a).2.1 ≠ (TX0 b).2.1 := by decide +kernel
theorem tyX0_ok : ∀ k, k < 5 → parseFieldDescriptor (TX0 k).2.2.1 = some (tyX0 k) := by decide +kernel
abbrev cX0_init : ByteArray := prog_2_method_1_code
def yX0_init : MethodName := ⟨RX0, "<init>", "()V"⟩
abbrev cX0_run : ByteArray := prog_2_method_2_code
def yX0_run : MethodName := ⟨RX0, "run", "(IIIII)I"⟩
abbrev cX0_begin : ByteArray := prog_2_method_3_code
def yX0_begin : MethodName := ⟨RX0, "begin", "(I)V"⟩
abbrev cX0_findsFrom : ByteArray := prog_2_method_4_code
def yX0_findsFrom : MethodName := ⟨RX0, "findsFrom", "(II)I"⟩
abbrev cX0_keepsFrom : ByteArray := prog_2_method_5_code
def yX0_keepsFrom : MethodName := ⟨RX0, "keepsFrom", "(II)I"⟩
abbrev cX0_movesFrom : ByteArray := prog_2_method_6_code
def yX0_movesFrom : MethodName := ⟨RX0, "movesFrom", "(II)I"⟩
abbrev cX0_tellsFrom : ByteArray := prog_2_method_7_code
def yX0_tellsFrom : MethodName := ⟨RX0, "tellsFrom", "(II)I"⟩
def RX1 : String := "SeatsRound$Choice"
def TX1 : u_T := fun k => match k with
  | 0 => ("SeatsRound$Choice", "picks", "[I", true)
  | 1 => ("SeatsRound$Choice", "chosen", "[I", true)
  | 2 => ("SeatsRound$Choice", "pickCount", "I", false)
  | 3 => ("SeatsRound$Choice", "chosenCount", "I", false)
  | 4 => ("SeatsRound$Choice", "chosenBits", "I", false)
  | 5 => ("SeatsRound$Choice", "streetBits", "I", false)
  | 6 => ("SeatsRound$Choice", "pickBits", "I", false)
  | 7 => ("SeatsRound$Choice", "sums", "[I", true)
  | _ => ("SeatsRound$Choice", "keepers", "LSeatsRound$Keepers;", true)
def tyX1 : Nat → FieldType := fun k => match k with
  | 0 => .array .int
  | 1 => .array .int
  | 2 => .int
  | 3 => .int
  | 4 => .int
  | 5 => .int
  | 6 => .int
  | 7 => .array .int
  | _ => .object "SeatsRound$Keepers"
abbrev wsX10 : List Cond := u_ws RX1 TX1 9
theorem nmX1 : ∀ a, a < 9 → ∀ b, b < 9 → a ≠ b → (TX1 a).2.1 ≠ (TX1 b).2.1 := by decide +kernel
theorem tyX1_ok : ∀ k, k < 9 → parseFieldDescriptor (TX1 k).2.2.1 = some (tyX1 k) := by decide +kernel
abbrev cX1_init : ByteArray := prog_3_method_1_code
def yX1_init : MethodName := ⟨RX1, "<init>", "(LSeatsRound$Keepers;)V"⟩
abbrev cX1_pick : ByteArray := prog_3_method_2_code
def yX1_pick : MethodName := ⟨RX1, "pick", "(LSeatsRound$Table;I)V"⟩
abbrev cX1_pickRound : ByteArray := prog_3_method_3_code
def yX1_pickRound : MethodName := ⟨RX1, "pickRound", "(LSeatsRound$Table;I)V"⟩
abbrev cX1_pickByJumps : ByteArray := prog_3_method_4_code
def yX1_pickByJumps : MethodName := ⟨RX1, "pickByJumps", "(LSeatsRound$Table;I)V"⟩
abbrev cX1_pickFirstFrom : ByteArray := prog_3_method_5_code
def yX1_pickFirstFrom : MethodName := ⟨RX1, "pickFirstFrom", "(LSeatsRound$Table;I)V"⟩
abbrev cX1_pickBySums : ByteArray := prog_3_method_6_code
def yX1_pickBySums : MethodName := ⟨RX1, "pickBySums", "(LSeatsRound$Table;I)V"⟩
abbrev cX1_isPicked : ByteArray := prog_3_method_7_code
def yX1_isPicked : MethodName := ⟨RX1, "isPicked", "(I)Z"⟩
abbrev cX1_takePick : ByteArray := prog_3_method_8_code
def yX1_takePick : MethodName := ⟨RX1, "takePick", "(I)V"⟩
abbrev cX1_choose : ByteArray := prog_3_method_9_code
def yX1_choose : MethodName := ⟨RX1, "choose", "(LSeatsRound$Table;I)V"⟩
abbrev cX1_isChosen : ByteArray := prog_3_method_10_code
def yX1_isChosen : MethodName := ⟨RX1, "isChosen", "(I)Z"⟩
abbrev cX1_takeChosen : ByteArray := prog_3_method_11_code
def yX1_takeChosen : MethodName := ⟨RX1, "takeChosen", "(I)V"⟩
def RX2 : String := "SeatsRound$Keepers"
def TX2 : u_T := fun k => match k with
  | 0 => ("SeatsRound$Keepers", "kind", "[I", true)
  | 1 => ("SeatsRound$Keepers", "street", "[I", true)
  | 2 => ("SeatsRound$Keepers", "strength", "[I", true)
  | 3 => ("SeatsRound$Keepers", "table", "[I", true)
  | 4 => ("SeatsRound$Keepers", "fallen", "[Z", true)
  | _ => ("SeatsRound$Keepers", "count", "I", false)
def tyX2 : Nat → FieldType := fun k => match k with
  | 0 => .array .int
  | 1 => .array .int
  | 2 => .array .int
  | 3 => .array .int
  | 4 => .array .boolean
  | _ => .int
abbrev wsX20 : List Cond := u_ws RX2 TX2 6
theorem nmX2 : ∀ a, a < 6 → ∀ b, b < 6 → a ≠ b → (TX2 a).2.1 ≠ (TX2 b).2.1 := by decide +kernel
theorem tyX2_ok : ∀ k, k < 6 → parseFieldDescriptor (TX2 k).2.2.1 = some (tyX2 k) := by decide +kernel
abbrev cX2_init : ByteArray := prog_4_method_1_code
def yX2_init : MethodName := ⟨RX2, "<init>", "()V"⟩
abbrev cX2_has : ByteArray := prog_4_method_2_code
def yX2_has : MethodName := ⟨RX2, "has", "(I)Z"⟩
abbrev cX2_add : ByteArray := prog_4_method_3_code
def yX2_add : MethodName := ⟨RX2, "add", "(II)I"⟩
abbrev cX2_counting : ByteArray := prog_4_method_4_code
def yX2_counting : MethodName := ⟨RX2, "counting", "(I)I"⟩
abbrev cX2_isUp : ByteArray := prog_4_method_5_code
def yX2_isUp : MethodName := ⟨RX2, "isUp", "(I)Z"⟩
def RX3 : String := "SeatsRound$Law"
def TX3 : u_T := fun k => match k with
  | 0 => ("SeatsRound$Law", "text", "[B", false)
  | 1 => ("SeatsRound$Law", "length", "I", false)
  | 2 => ("SeatsRound$Law", "at", "I", false)
  | 3 => ("SeatsRound$Law", "fault", "I", false)
  | 4 => ("SeatsRound$Law", "members", "I", false)
  | 5 => ("SeatsRound$Law", "streetsIn", "I", false)
  | 6 => ("SeatsRound$Law", "weights", "I", false)
  | _ => ("SeatsRound$Law", "greatest", "I", false)
def tyX3 : Nat → FieldType := fun k => match k with
  | 0 => .array .byte
  | 1 => .int
  | 2 => .int
  | 3 => .int
  | 4 => .int
  | 5 => .int
  | 6 => .int
  | _ => .int
abbrev wsX30 : List Cond := u_ws RX3 TX3 8
theorem nmX3 : ∀ a, a < 8 → ∀ b, b < 8 → a ≠ b → (TX3 a).2.1 ≠ (TX3 b).2.1 := by decide +kernel
theorem tyX3_ok : ∀ k, k < 8 → parseFieldDescriptor (TX3 k).2.2.1 = some (tyX3 k) := by decide +kernel
abbrev cX3_init : ByteArray := prog_5_method_1_code
def yX3_init : MethodName := ⟨RX3, "<init>", "()V"⟩
abbrev cX3_workOut : ByteArray := prog_5_method_2_code
def yX3_workOut : MethodName := ⟨RX3, "workOut", "(LSeatsRound$Table;LSeatsRound$Keepers;)I"⟩
abbrev cX3_look : ByteArray := prog_5_method_3_code
def yX3_look : MethodName := ⟨RX3, "look", "(LSeatsRound$Table;LSeatsRound$Keepers;)V"⟩
abbrev cX3_readPart : ByteArray := prog_5_method_4_code
def yX3_readPart : MethodName := ⟨RX3, "readPart", "(LSeatsRound$Table;I)I"⟩
abbrev cX3_heldWithin : ByteArray := prog_5_method_5_code
def yX3_heldWithin : MethodName := ⟨RX3, "heldWithin", "(I)I"⟩
abbrev cX3_readWay : ByteArray := prog_5_method_6_code
def yX3_readWay : MethodName := ⟨RX3, "readWay", "()I"⟩
abbrev cX3_readSum : ByteArray := prog_5_method_7_code
def yX3_readSum : MethodName := ⟨RX3, "readSum", "(I)I"⟩
abbrev cX3_readProduct : ByteArray := prog_5_method_8_code
def yX3_readProduct : MethodName := ⟨RX3, "readProduct", "(I)I"⟩
abbrev cX3_readOperand : ByteArray := prog_5_method_9_code
def yX3_readOperand : MethodName := ⟨RX3, "readOperand", "(I)I"⟩
abbrev cX3_readBracket : ByteArray := prog_5_method_10_code
def yX3_readBracket : MethodName := ⟨RX3, "readBracket", "(I)I"⟩
abbrev cX3_readNumber : ByteArray := prog_5_method_11_code
def yX3_readNumber : MethodName := ⟨RX3, "readNumber", "()I"⟩
abbrev cX3_isDigit : ByteArray := prog_5_method_12_code
def yX3_isDigit : MethodName := ⟨RX3, "isDigit", "(I)Z"⟩
abbrev cX3_sign : ByteArray := prog_5_method_13_code
def yX3_sign : MethodName := ⟨RX3, "sign", "()I"⟩
def RX4 : String := "SeatsRound$NameList"
def TX4 : u_T := fun k => match k with
  | 0 => ("SeatsRound$NameList", "bytes", "[[B", true)
  | 1 => ("SeatsRound$NameList", "size", "[I", true)
  | 2 => ("SeatsRound$NameList", "read", "[B", true)
  | _ => ("SeatsRound$NameList", "count", "I", false)
def tyX4 : Nat → FieldType := fun k => match k with
  | 0 => .array (.array .byte)
  | 1 => .array .int
  | 2 => .array .byte
  | _ => .int
abbrev wsX40 : List Cond := u_ws RX4 TX4 4
theorem nmX4 : ∀ a, a < 4 → ∀ b, b < 4 → a ≠ b → (TX4 a).2.1 ≠ (TX4 b).2.1 := by decide +kernel
theorem tyX4_ok : ∀ k, k < 4 → parseFieldDescriptor (TX4 k).2.2.1 = some (tyX4 k) := by decide +kernel
abbrev cX4_init : ByteArray := prog_6_method_1_code
def yX4_init : MethodName := ⟨RX4, "<init>", "()V"⟩
abbrev cX4_has : ByteArray := prog_6_method_2_code
def yX4_has : MethodName := ⟨RX4, "has", "(I)Z"⟩
abbrev cX4_find : ByteArray := prog_6_method_3_code
def yX4_find : MethodName := ⟨RX4, "find", "([BII)I"⟩
abbrev cX4_isAlike : ByteArray := prog_6_method_4_code
def yX4_isAlike : MethodName := ⟨RX4, "isAlike", "([B[BII)Z"⟩
abbrev cX4_add : ByteArray := prog_6_method_5_code
def yX4_add : MethodName := ⟨RX4, "add", "([BII)I"⟩
abbrev cX4_placeOf : ByteArray := prog_6_method_6_code
def yX4_placeOf : MethodName := ⟨RX4, "placeOf", "(II)I"⟩
abbrev cX4_addFrom : ByteArray := prog_6_method_7_code
def yX4_addFrom : MethodName := ⟨RX4, "addFrom", "([JIII)I"⟩
def RX5 : String := "SeatsRound$Orders"
def TX5 : u_T := fun k => match k with
  | 0 => ("SeatsRound$Orders", "told", "[I", true)
  | 1 => ("SeatsRound$Orders", "toldCount", "I", false)
  | 2 => ("SeatsRound$Orders", "path", "[I", true)
  | 3 => ("SeatsRound$Orders", "pathLength", "I", false)
  | 4 => ("SeatsRound$Orders", "holders", "[[I", true)
  | 5 => ("SeatsRound$Orders", "least", "[I", true)
  | 6 => ("SeatsRound$Orders", "keepers", "LSeatsRound$Keepers;", true)
  | 7 => ("SeatsRound$Orders", "nameList", "LSeatsRound$NameList;", true)
  | 8 => ("SeatsRound$Orders", "choice", "LSeatsRound$Choice;", true)
  | _ => ("SeatsRound$Orders", "law", "LSeatsRound$Law;", true)
def tyX5 : Nat → FieldType := fun k => match k with
  | 0 => .array .int
  | 1 => .int
  | 2 => .array .int
  | 3 => .int
  | 4 => .array (.array .int)
  | 5 => .array .int
  | 6 => .object "SeatsRound$Keepers"
  | 7 => .object "SeatsRound$NameList"
  | 8 => .object "SeatsRound$Choice"
  | _ => .object "SeatsRound$Law"
abbrev wsX50 : List Cond := u_ws RX5 TX5 10
theorem nmX5 : ∀ a, a < 10 → ∀ b, b < 10 → a ≠ b → (TX5 a).2.1 ≠ (TX5 b).2.1 := by decide +kernel
theorem tyX5_ok : ∀ k, k < 10 → parseFieldDescriptor (TX5 k).2.2.1 = some (tyX5 k) := by decide +kernel
abbrev cX5_init : ByteArray := prog_7_method_1_code
def yX5_init : MethodName := ⟨RX5, "<init>", "(LSeatsRound$Keepers;LSeatsRound$NameList;LSeatsRound$Choice;LSeatsRound$Law;)V"⟩
abbrev cX5_isTold : ByteArray := prog_7_method_2_code
def yX5_isTold : MethodName := ⟨RX5, "isTold", "(I)Z"⟩
abbrev cX5_leastFrom : ByteArray := prog_7_method_3_code
def yX5_leastFrom : MethodName := ⟨RX5, "leastFrom", "(LSeatsRound$Table;LSeatsRound$Table;)I"⟩
abbrev cX5_seatSet : ByteArray := prog_7_method_4_code
def yX5_seatSet : MethodName := ⟨RX5, "seatSet", "(LSeatsRound$Table;LSeatsRound$Table;I)Z"⟩
abbrev cX5_leastOnward : ByteArray := prog_7_method_5_code
def yX5_leastOnward : MethodName := ⟨RX5, "leastOnward", "(I)I"⟩
abbrev cX5_sumOver : ByteArray := prog_7_method_6_code
def yX5_sumOver : MethodName := ⟨RX5, "sumOver", "(II)I"⟩
abbrev cX5_walk : ByteArray := prog_7_method_7_code
def yX5_walk : MethodName := ⟨RX5, "walk", "(I)V"⟩
abbrev cX5_nextOf : ByteArray := prog_7_method_8_code
def yX5_nextOf : MethodName := ⟨RX5, "nextOf", "(I)I"⟩
def RX6 : String := "SeatsRound$Parcels"
def TX6 : u_T := fun k => match k with
  | 0 => ("SeatsRound$Parcels", "version", "[[I", true)
  | 1 => ("SeatsRound$Parcels", "kept", "[[I", true)
  | 2 => ("SeatsRound$Parcels", "keptFor", "[[I", true)
  | 3 => ("SeatsRound$Parcels", "pieces", "[[I", true)
  | 4 => ("SeatsRound$Parcels", "pieceTo", "[[I", true)
  | 5 => ("SeatsRound$Parcels", "latest", "[I", true)
  | 6 => ("SeatsRound$Parcels", "oneTree", "[I", true)
  | 7 => ("SeatsRound$Parcels", "otherTree", "[I", true)
  | 8 => ("SeatsRound$Parcels", "writings", "I", false)
  | 9 => ("SeatsRound$Parcels", "keepers", "LSeatsRound$Keepers;", true)
  | 10 => ("SeatsRound$Parcels", "nameList", "LSeatsRound$NameList;", true)
  | _ => ("SeatsRound$Parcels", "choice", "LSeatsRound$Choice;", true)
def tyX6 : Nat → FieldType := fun k => match k with
  | 0 => .array (.array .int)
  | 1 => .array (.array .int)
  | 2 => .array (.array .int)
  | 3 => .array (.array .int)
  | 4 => .array (.array .int)
  | 5 => .array .int
  | 6 => .array .int
  | 7 => .array .int
  | 8 => .int
  | 9 => .object "SeatsRound$Keepers"
  | 10 => .object "SeatsRound$NameList"
  | _ => .object "SeatsRound$Choice"
abbrev wsX60 : List Cond := u_ws RX6 TX6 12
theorem nmX6 : ∀ a, a < 12 → ∀ b, b < 12 → a ≠ b → (TX6 a).2.1 ≠ (TX6 b).2.1 := by decide +kernel
theorem tyX6_ok : ∀ k, k < 12 → parseFieldDescriptor (TX6 k).2.2.1 = some (tyX6 k) := by decide +kernel
abbrev cX6_init : ByteArray := prog_8_method_1_code
def yX6_init : MethodName := ⟨RX6, "<init>", "(LSeatsRound$Keepers;LSeatsRound$NameList;LSeatsRound$Choice;)V"⟩
abbrev cX6_spread : ByteArray := prog_8_method_2_code
def yX6_spread : MethodName := ⟨RX6, "spread", "(LSeatsRound$Table;I)I"⟩
abbrev cX6_reaches : ByteArray := prog_8_method_3_code
def yX6_reaches : MethodName := ⟨RX6, "reaches", "(II)Z"⟩
abbrev cX6_receives : ByteArray := prog_8_method_4_code
def yX6_receives : MethodName := ⟨RX6, "receives", "(III)Z"⟩
abbrev cX6_takesGreater : ByteArray := prog_8_method_5_code
def yX6_takesGreater : MethodName := ⟨RX6, "takesGreater", "(III)Z"⟩
abbrev cX6_hasRoom : ByteArray := prog_8_method_6_code
def yX6_hasRoom : MethodName := ⟨RX6, "hasRoom", "(II)Z"⟩
abbrev cX6_isKeptFor : ByteArray := prog_8_method_7_code
def yX6_isKeptFor : MethodName := ⟨RX6, "isKeptFor", "(II)Z"⟩
abbrev cX6_handBack : ByteArray := prog_8_method_8_code
def yX6_handBack : MethodName := ⟨RX6, "handBack", "(I)V"⟩
abbrev cX6_empty : ByteArray := prog_8_method_9_code
def yX6_empty : MethodName := ⟨RX6, "empty", "(I)V"⟩
abbrev cX6_greatestFor : ByteArray := prog_8_method_10_code
def yX6_greatestFor : MethodName := ⟨RX6, "greatestFor", "(LSeatsRound$Table;I)I"⟩
abbrev cX6_movePiece : ByteArray := prog_8_method_11_code
def yX6_movePiece : MethodName := ⟨RX6, "movePiece", "(III)I"⟩
abbrev cX6_mendAll : ByteArray := prog_8_method_12_code
def yX6_mendAll : MethodName := ⟨RX6, "mendAll", "(LSeatsRound$Table;)I"⟩
abbrev cX6_greatestAnywhere : ByteArray := prog_8_method_13_code
def yX6_greatestAnywhere : MethodName := ⟨RX6, "greatestAnywhere", "(I)I"⟩
abbrev cX6_compare : ByteArray := prog_8_method_14_code
def yX6_compare : MethodName := ⟨RX6, "compare", "(II)V"⟩
abbrev cX6_grow : ByteArray := prog_8_method_15_code
def yX6_grow : MethodName := ⟨RX6, "grow", "([II)V"⟩
abbrev cX6_wordsAsked : ByteArray := prog_8_method_16_code
def yX6_wordsAsked : MethodName := ⟨RX6, "wordsAsked", "()I"⟩
abbrev cX6_unlikeLeaves : ByteArray := prog_8_method_17_code
def yX6_unlikeLeaves : MethodName := ⟨RX6, "unlikeLeaves", "()I"⟩
abbrev cX6_copiesOn : ByteArray := prog_8_method_18_code
def yX6_copiesOn : MethodName := ⟨RX6, "copiesOn", "(I)I"⟩
abbrev cX6_keptBy : ByteArray := prog_8_method_19_code
def yX6_keptBy : MethodName := ⟨RX6, "keptBy", "(I)I"⟩
abbrev cX6_allCopies : ByteArray := prog_8_method_20_code
def yX6_allCopies : MethodName := ⟨RX6, "allCopies", "()I"⟩
abbrev cX6_allKept : ByteArray := prog_8_method_21_code
def yX6_allKept : MethodName := ⟨RX6, "allKept", "()I"⟩
abbrev cX6_filled : ByteArray := prog_8_method_22_code
def yX6_filled : MethodName := ⟨RX6, "filled", "([I)I"⟩
def RX7 : String := "SeatsRound$Rows"
def TX7 : u_T := fun k => match k with
  | 0 => ("SeatsRound$Rows", "keeper", "[I", true)
  | 1 => ("SeatsRound$Rows", "sort", "[I", true)
  | 2 => ("SeatsRound$Rows", "length", "[I", true)
  | _ => ("SeatsRound$Rows", "elements", "[[J", true)
def tyX7 : Nat → FieldType := fun k => match k with
  | 0 => .array .int
  | 1 => .array .int
  | 2 => .array .int
  | _ => .array (.array .long)
abbrev wsX70 : List Cond := u_ws RX7 TX7 4
theorem nmX7 : ∀ a, a < 4 → ∀ b, b < 4 → a ≠ b → (TX7 a).2.1 ≠ (TX7 b).2.1 := by decide +kernel
theorem tyX7_ok : ∀ k, k < 4 → parseFieldDescriptor (TX7 k).2.2.1 = some (tyX7 k) := by decide +kernel
abbrev cX7_init : ByteArray := prog_9_method_1_code
def yX7_init : MethodName := ⟨RX7, "<init>", "()V"⟩
abbrev cX7_holdKeeper : ByteArray := prog_9_method_2_code
def yX7_holdKeeper : MethodName := ⟨RX7, "holdKeeper", "(II)V"⟩
abbrev cX7_holdRow : ByteArray := prog_9_method_3_code
def yX7_holdRow : MethodName := ⟨RX7, "holdRow", "(III)V"⟩
abbrev cX7_isRow : ByteArray := prog_9_method_4_code
def yX7_isRow : MethodName := ⟨RX7, "isRow", "(I)Z"⟩
abbrev cX7_isEmpty : ByteArray := prog_9_method_5_code
def yX7_isEmpty : MethodName := ⟨RX7, "isEmpty", "(I)Z"⟩
abbrev cX7_refusalAt : ByteArray := prog_9_method_6_code
def yX7_refusalAt : MethodName := ⟨RX7, "refusalAt", "(II)I"⟩
abbrev cX7_spans : ByteArray := prog_9_method_7_code
def yX7_spans : MethodName := ⟨RX7, "spans", "(III)Z"⟩
abbrev cX7_lowest : ByteArray := prog_9_method_8_code
def yX7_lowest : MethodName := ⟨RX7, "lowest", "(IJ)J"⟩
def RX8 : String := "SeatsRound$Table"
def TX8 : u_T := fun k => match k with
  | 0 => ("SeatsRound$Table", "members", "I", false)
  | 1 => ("SeatsRound$Table", "turn", "I", false)
  | 2 => ("SeatsRound$Table", "copies", "I", false)
  | 3 => ("SeatsRound$Table", "streets", "I", false)
  | 4 => ("SeatsRound$Table", "way", "I", false)
  | 5 => ("SeatsRound$Table", "seats", "I", false)
  | 6 => ("SeatsRound$Table", "lawLength", "I", false)
  | 7 => ("SeatsRound$Table", "oddsCounted", "Z", false)
  | 8 => ("SeatsRound$Table", "weight", "[I", true)
  | 9 => ("SeatsRound$Table", "odds", "[I", true)
  | 10 => ("SeatsRound$Table", "law", "[B", true)
  | 11 => ("SeatsRound$Table", "owner", "[B", true)
  | _ => ("SeatsRound$Table", "ahead", "[S", true)
def tyX8 : Nat → FieldType := fun k => match k with
  | 0 => .int
  | 1 => .int
  | 2 => .int
  | 3 => .int
  | 4 => .int
  | 5 => .int
  | 6 => .int
  | 7 => .boolean
  | 8 => .array .int
  | 9 => .array .int
  | 10 => .array .byte
  | 11 => .array .byte
  | _ => .array .short
abbrev wsX80 : List Cond := u_ws RX8 TX8 13
theorem nmX8 : ∀ a, a < 13 → ∀ b, b < 13 → a ≠ b → (TX8 a).2.1 ≠ (TX8 b).2.1 := by decide +kernel
theorem tyX8_ok : ∀ k, k < 13 → parseFieldDescriptor (TX8 k).2.2.1 = some (tyX8 k) := by decide +kernel
abbrev cX8_init : ByteArray := prog_10_method_1_code
def yX8_init : MethodName := ⟨RX8, "<init>", "()V"⟩
abbrev cX8_takeMembers : ByteArray := prog_10_method_2_code
def yX8_takeMembers : MethodName := ⟨RX8, "takeMembers", "(ILSeatsRound$Keepers;)V"⟩
abbrev cX8_takeLaw : ByteArray := prog_10_method_3_code
def yX8_takeLaw : MethodName := ⟨RX8, "takeLaw", "([BI)V"⟩
abbrev cX8_takeAll : ByteArray := prog_10_method_4_code
def yX8_takeAll : MethodName := ⟨RX8, "takeAll", "(LSeatsRound$Table;)V"⟩
abbrev cX8_seatAll : ByteArray := prog_10_method_5_code
def yX8_seatAll : MethodName := ⟨RX8, "seatAll", "(I)V"⟩
abbrev cX8_freeFrom : ByteArray := prog_10_method_6_code
def yX8_freeFrom : MethodName := ⟨RX8, "freeFrom", "(I)I"⟩
abbrev cX8_linkPlaces : ByteArray := prog_10_method_7_code
def yX8_linkPlaces : MethodName := ⟨RX8, "linkPlaces", "()V"⟩
abbrev cX8_sumOf : ByteArray := prog_10_method_8_code
def yX8_sumOf : MethodName := ⟨RX8, "sumOf", "(II)I"⟩
abbrev cX8_firstFor : ByteArray := prog_10_method_9_code
def yX8_firstFor : MethodName := ⟨RX8, "firstFor", "(I)I"⟩
abbrev cX8_countOdds : ByteArray := prog_10_method_10_code
def yX8_countOdds : MethodName := ⟨RX8, "countOdds", "()V"⟩
abbrev cX8_unevenness : ByteArray := prog_10_method_11_code
def yX8_unevenness : MethodName := ⟨RX8, "unevenness", "()I"⟩
abbrev cX8_alikeIn : ByteArray := prog_10_method_12_code
def yX8_alikeIn : MethodName := ⟨RX8, "alikeIn", "(LSeatsRound$Table;)I"⟩
def RX9 : String := "SeatsRound$Tape"
def TX9 : u_T := fun k => match k with
  | 0 => ("SeatsRound$Tape", "bytes", "[B", true)
  | _ => ("SeatsRound$Tape", "length", "I", false)
def tyX9 : Nat → FieldType := fun k => match k with
  | 0 => .array .byte
  | _ => .int
abbrev wsX90 : List Cond := u_ws RX9 TX9 2
theorem nmX9 : ∀ a, a < 2 → ∀ b, b < 2 → a ≠ b → (TX9 a).2.1 ≠ (TX9 b).2.1 := by decide +kernel
theorem tyX9_ok : ∀ k, k < 2 → parseFieldDescriptor (TX9 k).2.2.1 = some (tyX9 k) := by decide +kernel
abbrev cX9_init : ByteArray := prog_11_method_1_code
def yX9_init : MethodName := ⟨RX9, "<init>", "()V"⟩
abbrev cX9_append : ByteArray := prog_11_method_2_code
def yX9_append : MethodName := ⟨RX9, "append", "(II)V"⟩
def RX10 : String := "SeatsRound$Turnings"
def TX10 : u_T := fun k => match k with
  | 0 => ("SeatsRound$Turnings", "told", "[I", true)
  | 1 => ("SeatsRound$Turnings", "count", "I", false)
  | 2 => ("SeatsRound$Turnings", "greatest", "I", false)
  | 3 => ("SeatsRound$Turnings", "shares", "[I", true)
  | _ => ("SeatsRound$Turnings", "nameList", "LSeatsRound$NameList;", true)
def tyX10 : Nat → FieldType := fun k => match k with
  | 0 => .array .int
  | 1 => .int
  | 2 => .int
  | 3 => .array .int
  | _ => .object "SeatsRound$NameList"
abbrev wsX100 : List Cond := u_ws RX10 TX10 5
theorem nmX10 : ∀ a, a < 5 → ∀ b, b < 5 → a ≠ b → (TX10 a).2.1 ≠ (TX10 b).2.1 := by decide +kernel
theorem tyX10_ok : ∀ k, k < 5 → parseFieldDescriptor (TX10 k).2.2.1 = some (tyX10 k) := by decide +kernel
abbrev cX10_init : ByteArray := prog_12_method_1_code
def yX10_init : MethodName := ⟨RX10, "<init>", "(LSeatsRound$NameList;)V"⟩
abbrev cX10_leastHarm : ByteArray := prog_12_method_2_code
def yX10_leastHarm : MethodName := ⟨RX10, "leastHarm", "(LSeatsRound$Table;LSeatsRound$Table;)I"⟩
abbrev cX10_greatestShare : ByteArray := prog_12_method_3_code
def yX10_greatestShare : MethodName := ⟨RX10, "greatestShare", "(LSeatsRound$Table;)I"⟩
def RX11 : String := "SeatsRound"
def TX11 : u_T := fun k => match k with
  | 0 => ("SeatsRound", "tape", "LSeatsRound$Tape;", true)
  | 1 => ("SeatsRound", "nameList", "LSeatsRound$NameList;", true)
  | 2 => ("SeatsRound", "keepers", "LSeatsRound$Keepers;", true)
  | 3 => ("SeatsRound", "law", "LSeatsRound$Law;", true)
  | 4 => ("SeatsRound", "choice", "LSeatsRound$Choice;", true)
  | 5 => ("SeatsRound", "tables", "[LSeatsRound$Table;", true)
  | 6 => ("SeatsRound", "tableCount", "I", false)
  | 7 => ("SeatsRound", "draft", "LSeatsRound$Table;", true)
  | 8 => ("SeatsRound", "parcels", "LSeatsRound$Parcels;", true)
  | 9 => ("SeatsRound", "orders", "LSeatsRound$Orders;", true)
  | 10 => ("SeatsRound", "turnings", "LSeatsRound$Turnings;", true)
  | 11 => ("SeatsRound", "acts", "LSeatsRound$Acts;", true)
  | _ => ("SeatsRound", "rows", "LSeatsRound$Rows;", true)
def tyX11 : Nat → FieldType := fun k => match k with
  | 0 => .object "SeatsRound$Tape"
  | 1 => .object "SeatsRound$NameList"
  | 2 => .object "SeatsRound$Keepers"
  | 3 => .object "SeatsRound$Law"
  | 4 => .object "SeatsRound$Choice"
  | 5 => .array (.object "SeatsRound$Table")
  | 6 => .int
  | 7 => .object "SeatsRound$Table"
  | 8 => .object "SeatsRound$Parcels"
  | 9 => .object "SeatsRound$Orders"
  | 10 => .object "SeatsRound$Turnings"
  | 11 => .object "SeatsRound$Acts"
  | _ => .object "SeatsRound$Rows"
abbrev wsX110 : List Cond := u_ws RX11 TX11 13
theorem nmX11 : ∀ a, a < 13 → ∀ b, b < 13 → a ≠ b → (TX11 a).2.1 ≠ (TX11 b).2.1 := by decide +kernel
theorem tyX11_ok : ∀ k, k < 13 → parseFieldDescriptor (TX11 k).2.2.1 = some (tyX11 k) := by decide +kernel
abbrev cX11_init : ByteArray := prog_1_method_1_code
def yX11_init : MethodName := ⟨RX11, "<init>", "()V"⟩
abbrev cX11_feed : ByteArray := prog_1_method_2_code
def yX11_feed : MethodName := ⟨RX11, "feed", "(II)I"⟩
abbrev cX11_name : ByteArray := prog_1_method_3_code
def yX11_name : MethodName := ⟨RX11, "name", "()I"⟩
abbrev cX11_number : ByteArray := prog_1_method_4_code
def yX11_number : MethodName := ⟨RX11, "number", "(II)I"⟩
abbrev cX11_keeper : ByteArray := prog_1_method_5_code
def yX11_keeper : MethodName := ⟨RX11, "keeper", "(II)I"⟩
abbrev cX11_become : ByteArray := prog_1_method_6_code
def yX11_become : MethodName := ⟨RX11, "become", "(II)I"⟩
abbrev cX11_strength : ByteArray := prog_1_method_7_code
def yX11_strength : MethodName := ⟨RX11, "strength", "(II)I"⟩
abbrev cX11_ofKeeper : ByteArray := prog_1_method_8_code
def yX11_ofKeeper : MethodName := ⟨RX11, "ofKeeper", "(II)I"⟩
abbrev cX11_isKind : ByteArray := prog_1_method_9_code
def yX11_isKind : MethodName := ⟨RX11, "isKind", "(I)Z"⟩
abbrev cX11_isStrength : ByteArray := prog_1_method_10_code
def yX11_isStrength : MethodName := ⟨RX11, "isStrength", "(I)Z"⟩
abbrev cX11_table : ByteArray := prog_1_method_11_code
def yX11_table : MethodName := ⟨RX11, "table", "(II)I"⟩
abbrev cX11_ofTable : ByteArray := prog_1_method_12_code
def yX11_ofTable : MethodName := ⟨RX11, "ofTable", "(II)I"⟩
abbrev cX11_seat : ByteArray := prog_1_method_13_code
def yX11_seat : MethodName := ⟨RX11, "seat", "(II)I"⟩
abbrev cX11_picked : ByteArray := prog_1_method_14_code
def yX11_picked : MethodName := ⟨RX11, "picked", "(III)I"⟩
abbrev cX11_keeperOf : ByteArray := prog_1_method_15_code
def yX11_keeperOf : MethodName := ⟨RX11, "keeperOf", "(III)I"⟩
abbrev cX11_tooFew : ByteArray := prog_1_method_16_code
def yX11_tooFew : MethodName := ⟨RX11, "tooFew", "(I)I"⟩
abbrev cX11_share : ByteArray := prog_1_method_17_code
def yX11_share : MethodName := ⟨RX11, "share", "(III)I"⟩
abbrev cX11_moves : ByteArray := prog_1_method_18_code
def yX11_moves : MethodName := ⟨RX11, "moves", "(III)I"⟩
abbrev cX11_tableAt : ByteArray := prog_1_method_19_code
def yX11_tableAt : MethodName := ⟨RX11, "tableAt", "(I)LSeatsRound$Table;"⟩
abbrev cX11_isPlace : ByteArray := prog_1_method_20_code
def yX11_isPlace : MethodName := ⟨RX11, "isPlace", "(I)Z"⟩
abbrev cX11_knows : ByteArray := prog_1_method_21_code
def yX11_knows : MethodName := ⟨RX11, "knows", "(II)I"⟩
abbrev cX11_write : ByteArray := prog_1_method_22_code
def yX11_write : MethodName := ⟨RX11, "write", "(II)I"⟩
abbrev cX11_read : ByteArray := prog_1_method_23_code
def yX11_read : MethodName := ⟨RX11, "read", "(II)I"⟩
abbrev cX11_onShelf : ByteArray := prog_1_method_24_code
def yX11_onShelf : MethodName := ⟨RX11, "onShelf", "(III)I"⟩
abbrev cX11_fall : ByteArray := prog_1_method_25_code
def yX11_fall : MethodName := ⟨RX11, "fall", "(II)I"⟩
abbrev cX11_half : ByteArray := prog_1_method_26_code
def yX11_half : MethodName := ⟨RX11, "half", "(III)I"⟩
abbrev cX11_mend : ByteArray := prog_1_method_27_code
def yX11_mend : MethodName := ⟨RX11, "mend", "(I)I"⟩
abbrev cX11_trees : ByteArray := prog_1_method_28_code
def yX11_trees : MethodName := ⟨RX11, "trees", "(III)I"⟩
abbrev cX11_noon : ByteArray := prog_1_method_29_code
def yX11_noon : MethodName := ⟨RX11, "noon", "(III)I"⟩
abbrev cX11_lies : ByteArray := prog_1_method_30_code
def yX11_lies : MethodName := ⟨RX11, "lies", "(IIII)I"⟩
abbrev cX11_upward : ByteArray := prog_1_method_31_code
def yX11_upward : MethodName := ⟨RX11, "upward", "(II)I"⟩
abbrev cX11_comes : ByteArray := prog_1_method_32_code
def yX11_comes : MethodName := ⟨RX11, "comes", "(I)I"⟩
abbrev cX11_order : ByteArray := prog_1_method_33_code
def yX11_order : MethodName := ⟨RX11, "order", "(I)I"⟩
abbrev cX11_ordered : ByteArray := prog_1_method_34_code
def yX11_ordered : MethodName := ⟨RX11, "ordered", "(I)I"⟩
abbrev cX11_turning : ByteArray := prog_1_method_35_code
def yX11_turning : MethodName := ⟨RX11, "turning", "(I)I"⟩
abbrev cX11_harm : ByteArray := prog_1_method_36_code
def yX11_harm : MethodName := ⟨RX11, "harm", "(I)I"⟩
abbrev cX11_harmed : ByteArray := prog_1_method_37_code
def yX11_harmed : MethodName := ⟨RX11, "harmed", "()I"⟩
abbrev cX11_act : ByteArray := prog_1_method_38_code
def yX11_act : MethodName := ⟨RX11, "act", "(III)I"⟩
abbrev cX11_trace : ByteArray := prog_1_method_39_code
def yX11_trace : MethodName := ⟨RX11, "trace", "(I)I"⟩
abbrev cX11_keep : ByteArray := prog_1_method_40_code
def yX11_keep : MethodName := ⟨RX11, "keep", "(II)I"⟩
abbrev cX11_row : ByteArray := prog_1_method_41_code
def yX11_row : MethodName := ⟨RX11, "row", "(III)I"⟩
abbrev cX11_put : ByteArray := prog_1_method_42_code
def yX11_put : MethodName := ⟨RX11, "put", "(IIJ)I"⟩
abbrev cX11_element : ByteArray := prog_1_method_43_code
def yX11_element : MethodName := ⟨RX11, "element", "(II)J"⟩
abbrev cX11_shift : ByteArray := prog_1_method_44_code
def yX11_shift : MethodName := ⟨RX11, "shift", "(IIIII)I"⟩
abbrev cX11_taken : ByteArray := prog_1_method_45_code
def yX11_taken : MethodName := ⟨RX11, "taken", "(II)I"⟩
abbrev cX11_names : ByteArray := prog_1_method_46_code
def yX11_names : MethodName := ⟨RX11, "names", "(III)I"⟩
abbrev cX11_count : ByteArray := prog_1_method_47_code
def yX11_count : MethodName := ⟨RX11, "count", "(I)I"⟩
abbrev cX11_isShelf : ByteArray := prog_1_method_48_code
def yX11_isShelf : MethodName := ⟨RX11, "isShelf", "(I)Z"⟩
abbrev cX11_isUnder : ByteArray := prog_1_method_49_code
def yX11_isUnder : MethodName := ⟨RX11, "isUnder", "(II)Z"⟩
abbrev cX11_strewn : ByteArray := prog_1_method_50_code
def yX11_strewn : MethodName := ⟨RX11, "strewn", "(I)I"⟩
abbrev cX11_placeBehind : ByteArray := prog_1_method_51_code
def yX11_placeBehind : MethodName := ⟨RX11, "placeBehind", "(I)I"⟩
def RX12 : String := "SeatsRoundModel"
def TX12 : u_T := fun k => match k with
  | 0 => ("SeatsRoundModel", "names", "I", false)
  | 1 => ("SeatsRoundModel", "nameSize", "[I", true)
  | 2 => ("SeatsRoundModel", "nameByte", "[I", true)
  | 3 => ("SeatsRoundModel", "keepers", "I", false)
  | 4 => ("SeatsRoundModel", "street", "[I", true)
  | 5 => ("SeatsRoundModel", "strength", "[I", true)
  | 6 => ("SeatsRoundModel", "kind", "[I", true)
  | 7 => ("SeatsRoundModel", "known", "[I", true)
  | 8 => ("SeatsRoundModel", "isFallen", "[Z", true)
  | 9 => ("SeatsRoundModel", "tables", "I", false)
  | 10 => ("SeatsRoundModel", "tableOf", "[I", true)
  | 11 => ("SeatsRoundModel", "tableZ", "[I", true)
  | 12 => ("SeatsRoundModel", "copies", "[I", true)
  | 13 => ("SeatsRoundModel", "streets", "[I", true)
  | 14 => ("SeatsRoundModel", "picks", "[I", true)
  | 15 => ("SeatsRoundModel", "lawSize", "[I", true)
  | 16 => ("SeatsRoundModel", "lawByte", "[I", true)
  | 17 => ("SeatsRoundModel", "counts", "[I", true)
  | 18 => ("SeatsRoundModel", "streetIn", "[I", true)
  | 19 => ("SeatsRoundModel", "seatMany", "[I", true)
  | 20 => ("SeatsRoundModel", "seats", "[I", true)
  | 21 => ("SeatsRoundModel", "tape", "[I", true)
  | 22 => ("SeatsRoundModel", "taped", "I", false)
  | 23 => ("SeatsRoundModel", "version", "[I", true)
  | 24 => ("SeatsRoundModel", "kept", "[I", true)
  | 25 => ("SeatsRoundModel", "keptFor", "[I", true)
  | 26 => ("SeatsRoundModel", "pieces", "[I", true)
  | 27 => ("SeatsRoundModel", "piecesTo", "[I", true)
  | 28 => ("SeatsRoundModel", "written", "[I", true)
  | 29 => ("SeatsRoundModel", "writings", "I", false)
  | 30 => ("SeatsRoundModel", "comers", "I", false)
  | 31 => ("SeatsRoundModel", "comer", "[I", true)
  | 32 => ("SeatsRoundModel", "orderMany", "I", false)
  | 33 => ("SeatsRoundModel", "orderTold", "[I", true)
  | 34 => ("SeatsRoundModel", "turnings", "I", false)
  | 35 => ("SeatsRoundModel", "turning", "[I", true)
  | 36 => ("SeatsRoundModel", "harmShare", "I", false)
  | 37 => ("SeatsRoundModel", "trace", "[I", true)
  | 38 => ("SeatsRoundModel", "bodies", "I", false)
  | 39 => ("SeatsRoundModel", "shelfIs", "[I", true)
  | 40 => ("SeatsRoundModel", "shelfSort", "[I", true)
  | 41 => ("SeatsRoundModel", "shelfSize", "[I", true)
  | 42 => ("SeatsRoundModel", "elements", "[J", true)
  | 43 => ("SeatsRoundModel", "told", "[I", true)
  | 44 => ("SeatsRoundModel", "lawTable", "I", false)
  | 45 => ("SeatsRoundModel", "at", "I", false)
  | 46 => ("SeatsRoundModel", "opens", "I", false)
  | 47 => ("SeatsRoundModel", "isFaulty", "Z", false)
  | 48 => ("SeatsRoundModel", "nowN", "I", false)
  | 49 => ("SeatsRoundModel", "nowU", "I", false)
  | 50 => ("SeatsRoundModel", "nowT", "I", false)
  | 51 => ("SeatsRoundModel", "nowX", "I", false)
  | 52 => ("SeatsRoundModel", "picked", "[I", true)
  | 53 => ("SeatsRoundModel", "pickedMany", "I", false)
  | 54 => ("SeatsRoundModel", "chosen", "[I", true)
  | 55 => ("SeatsRoundModel", "chosenMany", "I", false)
  | 56 => ("SeatsRoundModel", "odds", "[I", true)
  | 57 => ("SeatsRoundModel", "keepsBy", "[I", true)
  | _ => ("SeatsRoundModel", "tried", "[I", true)
def tyX12 : Nat → FieldType := fun k => match k with
  | 0 => .int
  | 1 => .array .int
  | 2 => .array .int
  | 3 => .int
  | 4 => .array .int
  | 5 => .array .int
  | 6 => .array .int
  | 7 => .array .int
  | 8 => .array .boolean
  | 9 => .int
  | 10 => .array .int
  | 11 => .array .int
  | 12 => .array .int
  | 13 => .array .int
  | 14 => .array .int
  | 15 => .array .int
  | 16 => .array .int
  | 17 => .array .int
  | 18 => .array .int
  | 19 => .array .int
  | 20 => .array .int
  | 21 => .array .int
  | 22 => .int
  | 23 => .array .int
  | 24 => .array .int
  | 25 => .array .int
  | 26 => .array .int
  | 27 => .array .int
  | 28 => .array .int
  | 29 => .int
  | 30 => .int
  | 31 => .array .int
  | 32 => .int
  | 33 => .array .int
  | 34 => .int
  | 35 => .array .int
  | 36 => .int
  | 37 => .array .int
  | 38 => .int
  | 39 => .array .int
  | 40 => .array .int
  | 41 => .array .int
  | 42 => .array .long
  | 43 => .array .int
  | 44 => .int
  | 45 => .int
  | 46 => .int
  | 47 => .boolean
  | 48 => .int
  | 49 => .int
  | 50 => .int
  | 51 => .int
  | 52 => .array .int
  | 53 => .int
  | 54 => .array .int
  | 55 => .int
  | 56 => .array .int
  | 57 => .array .int
  | _ => .array .int
abbrev wsX120 : List Cond := u_ws RX12 TX12 59
theorem nmX12 : ∀ a, a < 59 → ∀ b, b < 59 → a ≠ b → (TX12 a).2.1 ≠ (TX12 b).2.1 := by decide +kernel
theorem tyX12_ok : ∀ k, k < 59 → parseFieldDescriptor (TX12 k).2.2.1 = some (tyX12 k) := by decide +kernel
abbrev cX12_init : ByteArray := prog_14_method_1_code
def yX12_init : MethodName := ⟨RX12, "<init>", "()V"⟩
abbrev cX12_in : ByteArray := prog_14_method_3_code
def yX12_in : MethodName := ⟨RX12, "in", "(III)Z"⟩
abbrev cX12_isName : ByteArray := prog_14_method_4_code
def yX12_isName : MethodName := ⟨RX12, "isName", "(I)Z"⟩
abbrev cX12_isKeeper : ByteArray := prog_14_method_5_code
def yX12_isKeeper : MethodName := ⟨RX12, "isKeeper", "(I)Z"⟩
abbrev cX12_isTable : ByteArray := prog_14_method_6_code
def yX12_isTable : MethodName := ⟨RX12, "isTable", "(I)Z"⟩
abbrev cX12_feed : ByteArray := prog_14_method_7_code
def yX12_feed : MethodName := ⟨RX12, "feed", "(II)I"⟩
abbrev cX12_found : ByteArray := prog_14_method_8_code
def yX12_found : MethodName := ⟨RX12, "found", "(I)I"⟩
abbrev cX12_comesName : ByteArray := prog_14_method_9_code
def yX12_comesName : MethodName := ⟨RX12, "comesName", "(I)V"⟩
abbrev cX12_name : ByteArray := prog_14_method_10_code
def yX12_name : MethodName := ⟨RX12, "name", "()I"⟩
abbrev cX12_numberOf : ByteArray := prog_14_method_11_code
def yX12_numberOf : MethodName := ⟨RX12, "numberOf", "(II)I"⟩
abbrev cX12_number : ByteArray := prog_14_method_12_code
def yX12_number : MethodName := ⟨RX12, "number", "(II)I"⟩
abbrev cX12_keeper : ByteArray := prog_14_method_13_code
def yX12_keeper : MethodName := ⟨RX12, "keeper", "(II)I"⟩
abbrev cX12_countsNow : ByteArray := prog_14_method_14_code
def yX12_countsNow : MethodName := ⟨RX12, "countsNow", "(I)I"⟩
abbrev cX12_become : ByteArray := prog_14_method_15_code
def yX12_become : MethodName := ⟨RX12, "become", "(II)I"⟩
abbrev cX12_strength : ByteArray := prog_14_method_16_code
def yX12_strength : MethodName := ⟨RX12, "strength", "(II)I"⟩
abbrev cX12_many : ByteArray := prog_14_method_17_code
def yX12_many : MethodName := ⟨RX12, "many", "(IZ)I"⟩
abbrev cX12_ofKeeper : ByteArray := prog_14_method_18_code
def yX12_ofKeeper : MethodName := ⟨RX12, "ofKeeper", "(II)I"⟩
abbrev cX12_here : ByteArray := prog_14_method_19_code
def yX12_here : MethodName := ⟨RX12, "here", "()I"⟩
abbrev cX12_eats : ByteArray := prog_14_method_20_code
def yX12_eats : MethodName := ⟨RX12, "eats", "(I)V"⟩
abbrev cX12_sum : ByteArray := prog_14_method_21_code
def yX12_sum : MethodName := ⟨RX12, "sum", "()I"⟩
abbrev cX12_product : ByteArray := prog_14_method_22_code
def yX12_product : MethodName := ⟨RX12, "product", "()I"⟩
abbrev cX12_one : ByteArray := prog_14_method_23_code
def yX12_one : MethodName := ⟨RX12, "one", "()I"⟩
abbrev cX12_held : ByteArray := prog_14_method_24_code
def yX12_held : MethodName := ⟨RX12, "held", "(I)I"⟩
abbrev cX12_reads : ByteArray := prog_14_method_25_code
def yX12_reads : MethodName := ⟨RX12, "reads", "(I)I"⟩
abbrev cX12_mixed : ByteArray := prog_14_method_26_code
def yX12_mixed : MethodName := ⟨RX12, "mixed", "(III)I"⟩
abbrev cX12_isIn : ByteArray := prog_14_method_27_code
def yX12_isIn : MethodName := ⟨RX12, "isIn", "(II)Z"⟩
abbrev cX12_numbers : ByteArray := prog_14_method_28_code
def yX12_numbers : MethodName := ⟨RX12, "numbers", "(I)V"⟩
abbrev cX12_sits : ByteArray := prog_14_method_29_code
def yX12_sits : MethodName := ⟨RX12, "sits", "(I)V"⟩
abbrev cX12_table : ByteArray := prog_14_method_30_code
def yX12_table : MethodName := ⟨RX12, "table", "(II)I"⟩
abbrev cX12_pickNext : ByteArray := prog_14_method_31_code
def yX12_pickNext : MethodName := ⟨RX12, "pickNext", "(III)V"⟩
abbrev cX12_pick : ByteArray := prog_14_method_32_code
def yX12_pick : MethodName := ⟨RX12, "pick", "(II)V"⟩
abbrev cX12_pickBest : ByteArray := prog_14_method_33_code
def yX12_pickBest : MethodName := ⟨RX12, "pickBest", "(III)V"⟩
abbrev cX12_streetsOf : ByteArray := prog_14_method_34_code
def yX12_streetsOf : MethodName := ⟨RX12, "streetsOf", "(I)I"⟩
abbrev cX12_isChosen : ByteArray := prog_14_method_35_code
def yX12_isChosen : MethodName := ⟨RX12, "isChosen", "(I)Z"⟩
abbrev cX12_choose : ByteArray := prog_14_method_36_code
def yX12_choose : MethodName := ⟨RX12, "choose", "(II)V"⟩
abbrev cX12_chooseName : ByteArray := prog_14_method_37_code
def yX12_chooseName : MethodName := ⟨RX12, "chooseName", "(II)V"⟩
abbrev cX12_bits : ByteArray := prog_14_method_38_code
def yX12_bits : MethodName := ⟨RX12, "bits", "()I"⟩
abbrev cX12_seat : ByteArray := prog_14_method_39_code
def yX12_seat : MethodName := ⟨RX12, "seat", "(II)I"⟩
abbrev cX12_picked : ByteArray := prog_14_method_40_code
def yX12_picked : MethodName := ⟨RX12, "picked", "(III)I"⟩
abbrev cX12_keeperOf : ByteArray := prog_14_method_41_code
def yX12_keeperOf : MethodName := ⟨RX12, "keeperOf", "(III)I"⟩
abbrev cX12_tooFew : ByteArray := prog_14_method_42_code
def yX12_tooFew : MethodName := ⟨RX12, "tooFew", "(I)I"⟩
abbrev cX12_shareOf : ByteArray := prog_14_method_43_code
def yX12_shareOf : MethodName := ⟨RX12, "shareOf", "(II)I"⟩
abbrev cX12_findOdds : ByteArray := prog_14_method_44_code
def yX12_findOdds : MethodName := ⟨RX12, "findOdds", "(I)V"⟩
abbrev cX12_share : ByteArray := prog_14_method_45_code
def yX12_share : MethodName := ⟨RX12, "share", "(III)I"⟩
abbrev cX12_even : ByteArray := prog_14_method_46_code
def yX12_even : MethodName := ⟨RX12, "even", "(I)I"⟩
abbrev cX12_ofTable : ByteArray := prog_14_method_47_code
def yX12_ofTable : MethodName := ⟨RX12, "ofTable", "(II)I"⟩
abbrev cX12_ones : ByteArray := prog_14_method_48_code
def yX12_ones : MethodName := ⟨RX12, "ones", "(I)I"⟩
abbrev cX12_moves : ByteArray := prog_14_method_49_code
def yX12_moves : MethodName := ⟨RX12, "moves", "(III)I"⟩
abbrev cX12_knows : ByteArray := prog_14_method_50_code
def yX12_knows : MethodName := ⟨RX12, "knows", "(II)I"⟩
abbrev cX12_isAwake : ByteArray := prog_14_method_51_code
def yX12_isAwake : MethodName := ⟨RX12, "isAwake", "(I)Z"⟩
abbrev cX12_hasRoom : ByteArray := prog_14_method_52_code
def yX12_hasRoom : MethodName := ⟨RX12, "hasRoom", "(II)Z"⟩
abbrev cX12_keeps : ByteArray := prog_14_method_53_code
def yX12_keeps : MethodName := ⟨RX12, "keeps", "(IIII)I"⟩
abbrev cX12_write : ByteArray := prog_14_method_54_code
def yX12_write : MethodName := ⟨RX12, "write", "(II)I"⟩
abbrev cX12_read : ByteArray := prog_14_method_55_code
def yX12_read : MethodName := ⟨RX12, "read", "(II)I"⟩
abbrev cX12_onShelf : ByteArray := prog_14_method_56_code
def yX12_onShelf : MethodName := ⟨RX12, "onShelf", "(III)I"⟩
abbrev cX12_fall : ByteArray := prog_14_method_57_code
def yX12_fall : MethodName := ⟨RX12, "fall", "(II)I"⟩
abbrev cX12_half : ByteArray := prog_14_method_58_code
def yX12_half : MethodName := ⟨RX12, "half", "(III)I"⟩
abbrev cX12_mend : ByteArray := prog_14_method_59_code
def yX12_mend : MethodName := ⟨RX12, "mend", "(I)I"⟩
abbrev cX12_leafOf : ByteArray := prog_14_method_60_code
def yX12_leafOf : MethodName := ⟨RX12, "leafOf", "(II)I"⟩
abbrev cX12_areUnlike : ByteArray := prog_14_method_61_code
def yX12_areUnlike : MethodName := ⟨RX12, "areUnlike", "(IIII)Z"⟩
abbrev cX12_wordsBelow : ByteArray := prog_14_method_62_code
def yX12_wordsBelow : MethodName := ⟨RX12, "wordsBelow", "(IIII)I"⟩
abbrev cX12_trees : ByteArray := prog_14_method_63_code
def yX12_trees : MethodName := ⟨RX12, "trees", "(III)I"⟩
abbrev cX12_noon : ByteArray := prog_14_method_64_code
def yX12_noon : MethodName := ⟨RX12, "noon", "(III)I"⟩
abbrev cX12_lies : ByteArray := prog_14_method_65_code
def yX12_lies : MethodName := ⟨RX12, "lies", "(IIII)I"⟩
abbrev cX12_isComing : ByteArray := prog_14_method_66_code
def yX12_isComing : MethodName := ⟨RX12, "isComing", "(I)Z"⟩
abbrev cX12_comes : ByteArray := prog_14_method_67_code
def yX12_comes : MethodName := ⟨RX12, "comes", "(I)I"⟩
abbrev cX12_tries : ByteArray := prog_14_method_68_code
def yX12_tries : MethodName := ⟨RX12, "tries", "(III)V"⟩
abbrev cX12_setBy : ByteArray := prog_14_method_69_code
def yX12_setBy : MethodName := ⟨RX12, "setBy", "(II)I"⟩
abbrev cX12_nextOrder : ByteArray := prog_14_method_70_code
def yX12_nextOrder : MethodName := ⟨RX12, "nextOrder", "(I)Z"⟩
abbrev cX12_movesBy : ByteArray := prog_14_method_71_code
def yX12_movesBy : MethodName := ⟨RX12, "movesBy", "(I)I"⟩
abbrev cX12_order : ByteArray := prog_14_method_72_code
def yX12_order : MethodName := ⟨RX12, "order", "(I)I"⟩
abbrev cX12_ordered : ByteArray := prog_14_method_73_code
def yX12_ordered : MethodName := ⟨RX12, "ordered", "(I)I"⟩
abbrev cX12_turning : ByteArray := prog_14_method_74_code
def yX12_turning : MethodName := ⟨RX12, "turning", "(I)I"⟩
abbrev cX12_harm : ByteArray := prog_14_method_75_code
def yX12_harm : MethodName := ⟨RX12, "harm", "(I)I"⟩
abbrev cX12_harmed : ByteArray := prog_14_method_76_code
def yX12_harmed : MethodName := ⟨RX12, "harmed", "()I"⟩
abbrev cX12_begins : ByteArray := prog_14_method_77_code
def yX12_begins : MethodName := ⟨RX12, "begins", "(I)V"⟩
abbrev cX12_aboveOf : ByteArray := prog_14_method_78_code
def yX12_aboveOf : MethodName := ⟨RX12, "aboveOf", "(I)I"⟩
abbrev cX12_findsFrom : ByteArray := prog_14_method_79_code
def yX12_findsFrom : MethodName := ⟨RX12, "findsFrom", "(III)I"⟩
abbrev cX12_keepsFrom : ByteArray := prog_14_method_80_code
def yX12_keepsFrom : MethodName := ⟨RX12, "keepsFrom", "(III)I"⟩
abbrev cX12_movesFrom : ByteArray := prog_14_method_81_code
def yX12_movesFrom : MethodName := ⟨RX12, "movesFrom", "(III)I"⟩
abbrev cX12_tellsFrom : ByteArray := prog_14_method_82_code
def yX12_tellsFrom : MethodName := ⟨RX12, "tellsFrom", "(III)I"⟩
abbrev cX12_act : ByteArray := prog_14_method_83_code
def yX12_act : MethodName := ⟨RX12, "act", "(III)I"⟩
abbrev cX12_trace : ByteArray := prog_14_method_84_code
def yX12_trace : MethodName := ⟨RX12, "trace", "(I)I"⟩
abbrev cX12_isShelf : ByteArray := prog_14_method_85_code
def yX12_isShelf : MethodName := ⟨RX12, "isShelf", "(I)Z"⟩
abbrev cX12_keep : ByteArray := prog_14_method_86_code
def yX12_keep : MethodName := ⟨RX12, "keep", "(II)I"⟩
abbrev cX12_row : ByteArray := prog_14_method_87_code
def yX12_row : MethodName := ⟨RX12, "row", "(III)I"⟩
abbrev cX12_barred : ByteArray := prog_14_method_88_code
def yX12_barred : MethodName := ⟨RX12, "barred", "(II)I"⟩
abbrev cX12_put : ByteArray := prog_14_method_89_code
def yX12_put : MethodName := ⟨RX12, "put", "(IIJ)I"⟩
abbrev cX12_element : ByteArray := prog_14_method_90_code
def yX12_element : MethodName := ⟨RX12, "element", "(II)J"⟩
abbrev cX12_shift : ByteArray := prog_14_method_91_code
def yX12_shift : MethodName := ⟨RX12, "shift", "(IIIII)I"⟩
abbrev cX12_taken : ByteArray := prog_14_method_92_code
def yX12_taken : MethodName := ⟨RX12, "taken", "(II)I"⟩
abbrev cX12_names : ByteArray := prog_14_method_93_code
def yX12_names : MethodName := ⟨RX12, "names", "(III)I"⟩
abbrev cX12_count : ByteArray := prog_14_method_94_code
def yX12_count : MethodName := ⟨RX12, "count", "(I)I"⟩
def RJ6 : String := "java/lang/Integer"
abbrev cJ6_bitCount_0f7a4 : ByteArray := prog_15_method_49_code
def yJ6_bitCount_0f7a4 : MethodName := ⟨RJ6, "bitCount", "(I)I"⟩
def RJ7 : String := "java/util/Arrays"
abbrev cJ7_fill_d0a16 : ByteArray := prog_18_method_101_code
def yJ7_fill_d0a16 : MethodName := ⟨RJ7, "fill", "([JJ)V"⟩
abbrev cJ7_fill_53178 : ByteArray := prog_18_method_103_code
def yJ7_fill_53178 : MethodName := ⟨RJ7, "fill", "([II)V"⟩
abbrev cJ7_fill_031fb : ByteArray := prog_18_method_109_code
def yJ7_fill_031fb : MethodName := ⟨RJ7, "fill", "([BB)V"⟩
def RL : String := "SeatsRoundLaw"
abbrev cL_law : ByteArray := code
def wsX0_init : List Cond := .code yX0_init cX0_init 1 none :: ([.methodLink RX0 3 objectInit, .instanceMethod objectInit, .code objectInit ⟨#[0xb1]⟩ 1 none, .arrayClass .int, .fieldLink RX0 9 "SeatsRound$Acts" "bodies" "[I", .fieldLink RX0 15 "SeatsRound$Acts" "ran" "I", .fieldLink RX0 19 "SeatsRound$Acts" "own" "I", .fieldLink RX0 22 "SeatsRound$Acts" "number" "I", .fieldLink RX0 25 "SeatsRound$Acts" "strength" "I"] ++ wsX00)
def wsX1_init : List Cond := .code yX1_init cX1_init 2 none :: ([.methodLink RX1 3 objectInit, .instanceMethod objectInit, .code objectInit ⟨#[0xb1]⟩ 1 none, .arrayClass .int, .fieldLink RX1 9 "SeatsRound$Choice" "picks" "[I", .fieldLink RX1 15 "SeatsRound$Choice" "chosen" "[I", .fieldLink RX1 18 "SeatsRound$Choice" "pickCount" "I", .fieldLink RX1 22 "SeatsRound$Choice" "chosenCount" "I", .fieldLink RX1 25 "SeatsRound$Choice" "chosenBits" "I", .fieldLink RX1 28 "SeatsRound$Choice" "streetBits" "I", .fieldLink RX1 31 "SeatsRound$Choice" "pickBits" "I", .fieldLink RX1 34 "SeatsRound$Choice" "sums" "[I", .fieldLink RX1 37 "SeatsRound$Choice" "keepers" "LSeatsRound$Keepers;"] ++ wsX10)
def wsX2_init : List Cond := .code yX2_init cX2_init 1 none :: ([.methodLink RX2 3 objectInit, .instanceMethod objectInit, .code objectInit ⟨#[0xb1]⟩ 1 none, .arrayClass .int, .fieldLink RX2 9 "SeatsRound$Keepers" "kind" "[I", .fieldLink RX2 15 "SeatsRound$Keepers" "street" "[I", .fieldLink RX2 18 "SeatsRound$Keepers" "strength" "[I", .fieldLink RX2 21 "SeatsRound$Keepers" "table" "[I", .arrayClass .boolean, .fieldLink RX2 24 "SeatsRound$Keepers" "fallen" "[Z", .fieldLink RX2 28 "SeatsRound$Keepers" "count" "I"] ++ wsX20)
def wsX2_has : List Cond := .code yX2_has cX2_has 2 (some .boolean) :: ([.fieldLink RX2 28 "SeatsRound$Keepers" "count" "I"] ++ wsX20)
def wsX2_add : List Cond := .code yX2_add cX2_add 3 (some .int) :: ([.fieldLink RX2 9 "SeatsRound$Keepers" "kind" "[I", .fieldLink RX2 28 "SeatsRound$Keepers" "count" "I", .fieldLink RX2 15 "SeatsRound$Keepers" "street" "[I", .fieldLink RX2 18 "SeatsRound$Keepers" "strength" "[I", .fieldLink RX2 21 "SeatsRound$Keepers" "table" "[I"] ++ wsX20)
def wsX3_init : List Cond := .code yX3_init cX3_init 1 none :: ([.methodLink RX3 3 objectInit, .instanceMethod objectInit, .code objectInit ⟨#[0xb1]⟩ 1 none, .arrayClass .byte, .fieldLink RX3 9 "SeatsRound$Law" "text" "[B", .fieldLink RX3 15 "SeatsRound$Law" "length" "I", .fieldLink RX3 19 "SeatsRound$Law" "at" "I", .fieldLink RX3 22 "SeatsRound$Law" "fault" "I", .fieldLink RX3 25 "SeatsRound$Law" "members" "I", .fieldLink RX3 28 "SeatsRound$Law" "streetsIn" "I", .fieldLink RX3 31 "SeatsRound$Law" "weights" "I", .fieldLink RX3 34 "SeatsRound$Law" "greatest" "I"] ++ wsX30)
def wsX4_init : List Cond := .code yX4_init cX4_init 1 none :: ([.methodLink RX4 3 objectInit, .instanceMethod objectInit, .code objectInit ⟨#[0xb1]⟩ 1 none, .classLink RX4 9 "[[B", .arrayClass .byte, .fieldLink RX4 11 "SeatsRound$NameList" "bytes" "[[B", .arrayClass .int, .fieldLink RX4 16 "SeatsRound$NameList" "size" "[I", .fieldLink RX4 20 "SeatsRound$NameList" "read" "[B", .fieldLink RX4 24 "SeatsRound$NameList" "count" "I"] ++ wsX40)
def wsX4_has : List Cond := .code yX4_has cX4_has 2 (some .boolean) :: ([.fieldLink RX4 24 "SeatsRound$NameList" "count" "I"] ++ wsX40)
def wsX5_init : List Cond := .code yX5_init cX5_init 5 none :: ([.methodLink RX5 3 objectInit, .instanceMethod objectInit, .code objectInit ⟨#[0xb1]⟩ 1 none, .arrayClass .int, .fieldLink RX5 9 "SeatsRound$Orders" "told" "[I", .fieldLink RX5 15 "SeatsRound$Orders" "toldCount" "I", .fieldLink RX5 19 "SeatsRound$Orders" "path" "[I", .fieldLink RX5 22 "SeatsRound$Orders" "pathLength" "I", .classLink RX5 25 "[[I", .fieldLink RX5 27 "SeatsRound$Orders" "holders" "[[I", .fieldLink RX5 30 "SeatsRound$Orders" "least" "[I", .fieldLink RX5 33 "SeatsRound$Orders" "keepers" "LSeatsRound$Keepers;", .fieldLink RX5 37 "SeatsRound$Orders" "nameList" "LSeatsRound$NameList;", .fieldLink RX5 41 "SeatsRound$Orders" "choice" "LSeatsRound$Choice;", .fieldLink RX5 45 "SeatsRound$Orders" "law" "LSeatsRound$Law;"] ++ wsX50)
def wsX6_init : List Cond := .code yX6_init cX6_init 4 none :: ([.methodLink RX6 3 objectInit, .instanceMethod objectInit, .code objectInit ⟨#[0xb1]⟩ 1 none, .classLink RX6 9 "[[I", .arrayClass .int, .fieldLink RX6 11 "SeatsRound$Parcels" "version" "[[I", .fieldLink RX6 16 "SeatsRound$Parcels" "kept" "[[I", .fieldLink RX6 19 "SeatsRound$Parcels" "keptFor" "[[I", .fieldLink RX6 22 "SeatsRound$Parcels" "pieces" "[[I", .fieldLink RX6 25 "SeatsRound$Parcels" "pieceTo" "[[I", .fieldLink RX6 28 "SeatsRound$Parcels" "latest" "[I", .fieldLink RX6 32 "SeatsRound$Parcels" "oneTree" "[I", .fieldLink RX6 35 "SeatsRound$Parcels" "otherTree" "[I", .fieldLink RX6 38 "SeatsRound$Parcels" "writings" "I", .fieldLink RX6 42 "SeatsRound$Parcels" "keepers" "LSeatsRound$Keepers;", .fieldLink RX6 46 "SeatsRound$Parcels" "nameList" "LSeatsRound$NameList;", .fieldLink RX6 50 "SeatsRound$Parcels" "choice" "LSeatsRound$Choice;"] ++ wsX60)
def wsJ7_fill_53178 : List Cond := .code yJ7_fill_53178 cJ7_fill_53178 4 none :: ([])
def wsX6_allCopies : List Cond := .code yX6_allCopies cX6_allCopies 3 (some .int) :: ([.fieldLink RX6 42 "SeatsRound$Parcels" "keepers" "LSeatsRound$Keepers;", .fieldLink RX6 120 "SeatsRound$Keepers" "count" "I", .methodLink RX6 103 yX6_copiesOn, .instanceMethod yX6_copiesOn, .selects RX6 yX6_copiesOn yX6_copiesOn, .initialized RX6, .code yX6_copiesOn cX6_copiesOn 2 (some .int), .fieldLink RX6 11 "SeatsRound$Parcels" "version" "[[I", .methodLink RX6 141 yX6_filled, .static yX6_filled, .code yX6_filled cX6_filled 6 (some .int)] ++ wsX60 ++ wsX20)
def wsX6_allKept : List Cond := .code yX6_allKept cX6_allKept 3 (some .int) :: ([.fieldLink RX6 42 "SeatsRound$Parcels" "keepers" "LSeatsRound$Keepers;", .fieldLink RX6 120 "SeatsRound$Keepers" "count" "I", .methodLink RX6 145 yX6_keptBy, .instanceMethod yX6_keptBy, .selects RX6 yX6_keptBy yX6_keptBy, .initialized RX6, .code yX6_keptBy cX6_keptBy 2 (some .int), .fieldLink RX6 16 "SeatsRound$Parcels" "kept" "[[I", .methodLink RX6 141 yX6_filled, .static yX6_filled, .code yX6_filled cX6_filled 6 (some .int)] ++ wsX60 ++ wsX20)
def wsX7_init : List Cond := .code yX7_init cX7_init 1 none :: ([.methodLink RX7 3 objectInit, .instanceMethod objectInit, .code objectInit ⟨#[0xb1]⟩ 1 none, .arrayClass .int, .fieldLink RX7 9 "SeatsRound$Rows" "keeper" "[I", .fieldLink RX7 15 "SeatsRound$Rows" "sort" "[I", .fieldLink RX7 18 "SeatsRound$Rows" "length" "[I", .classLink RX7 21 "[[J", .arrayClass .long, .fieldLink RX7 23 "SeatsRound$Rows" "elements" "[[J", .methodLink RX7 26 yJ7_fill_53178, .static yJ7_fill_53178, .initialized RJ7, .code yJ7_fill_53178 cJ7_fill_53178 4 none] ++ wsX70)
def wsX7_holdKeeper : List Cond := .code yX7_holdKeeper cX7_holdKeeper 3 none :: ([.fieldLink RX7 9 "SeatsRound$Rows" "keeper" "[I", .fieldLink RX7 15 "SeatsRound$Rows" "sort" "[I", .fieldLink RX7 18 "SeatsRound$Rows" "length" "[I"] ++ wsX70)
def wsJ7_fill_d0a16 : List Cond := .code yJ7_fill_d0a16 cJ7_fill_d0a16 5 none :: ([])
def wsX7_holdRow : List Cond := .code yX7_holdRow cX7_holdRow 4 none :: ([.fieldLink RX7 9 "SeatsRound$Rows" "keeper" "[I", .fieldLink RX7 15 "SeatsRound$Rows" "sort" "[I", .fieldLink RX7 18 "SeatsRound$Rows" "length" "[I", .fieldLink RX7 23 "SeatsRound$Rows" "elements" "[[J", .methodLink RX7 32 yJ7_fill_d0a16, .static yJ7_fill_d0a16, .initialized RJ7, .code yJ7_fill_d0a16 cJ7_fill_d0a16 5 none] ++ wsX70)
def wsX7_isEmpty : List Cond := .code yX7_isEmpty cX7_isEmpty 2 (some .boolean) :: ([.fieldLink RX7 15 "SeatsRound$Rows" "sort" "[I", .fieldLink RX7 9 "SeatsRound$Rows" "keeper" "[I"] ++ wsX70)
def wsX7_refusalAt : List Cond := .code yX7_refusalAt cX7_refusalAt 3 (some .int) :: ([.fieldLink RX7 18 "SeatsRound$Rows" "length" "[I", .methodLink RX7 35 yX7_isEmpty, .instanceMethod yX7_isEmpty, .selects RX7 yX7_isEmpty yX7_isEmpty, .initialized RX7, .code yX7_isEmpty cX7_isEmpty 2 (some .boolean), .fieldLink RX7 15 "SeatsRound$Rows" "sort" "[I", .fieldLink RX7 9 "SeatsRound$Rows" "keeper" "[I", .methodLink RX7 39 yX7_isRow, .instanceMethod yX7_isRow, .selects RX7 yX7_isRow yX7_isRow, .code yX7_isRow cX7_isRow 2 (some .boolean)] ++ wsX70)
def wsX8_init : List Cond := .code yX8_init cX8_init 1 none :: ([.methodLink RX8 3 objectInit, .instanceMethod objectInit, .code objectInit ⟨#[0xb1]⟩ 1 none, .fieldLink RX8 9 "SeatsRound$Table" "members" "I", .fieldLink RX8 15 "SeatsRound$Table" "turn" "I", .fieldLink RX8 18 "SeatsRound$Table" "copies" "I", .fieldLink RX8 21 "SeatsRound$Table" "streets" "I", .fieldLink RX8 24 "SeatsRound$Table" "way" "I", .fieldLink RX8 27 "SeatsRound$Table" "seats" "I", .fieldLink RX8 30 "SeatsRound$Table" "lawLength" "I", .fieldLink RX8 33 "SeatsRound$Table" "oddsCounted" "Z", .arrayClass .int, .fieldLink RX8 37 "SeatsRound$Table" "weight" "[I", .fieldLink RX8 41 "SeatsRound$Table" "odds" "[I", .arrayClass .byte, .fieldLink RX8 44 "SeatsRound$Table" "law" "[B", .fieldLink RX8 48 "SeatsRound$Table" "owner" "[B", .arrayClass .short, .fieldLink RX8 51 "SeatsRound$Table" "ahead" "[S"] ++ wsX80)
def wsX9_init : List Cond := .code yX9_init cX9_init 1 none :: ([.methodLink RX9 3 objectInit, .instanceMethod objectInit, .code objectInit ⟨#[0xb1]⟩ 1 none, .arrayClass .byte, .fieldLink RX9 9 "SeatsRound$Tape" "bytes" "[B", .fieldLink RX9 15 "SeatsRound$Tape" "length" "I"] ++ wsX90)
def wsX9_append : List Cond := .code yX9_append cX9_append 4 none :: ([.fieldLink RX9 15 "SeatsRound$Tape" "length" "I", .fieldLink RX9 9 "SeatsRound$Tape" "bytes" "[B"] ++ wsX90)
def wsX10_init : List Cond := .code yX10_init cX10_init 2 none :: ([.methodLink RX10 3 objectInit, .instanceMethod objectInit, .code objectInit ⟨#[0xb1]⟩ 1 none, .arrayClass .int, .fieldLink RX10 9 "SeatsRound$Turnings" "told" "[I", .fieldLink RX10 15 "SeatsRound$Turnings" "count" "I", .fieldLink RX10 19 "SeatsRound$Turnings" "greatest" "I", .fieldLink RX10 22 "SeatsRound$Turnings" "shares" "[I", .fieldLink RX10 25 "SeatsRound$Turnings" "nameList" "LSeatsRound$NameList;"] ++ wsX100)
def wsX11_init_r1 : List Cond := [Cond.methodLink RX11 1 objectInit, Cond.instanceMethod objectInit, Cond.code objectInit ⟨#[0xb1]⟩ 1 none, Cond.classLink RX11 7 RX9, Cond.instantiable RX9 2, Cond.initialized RX9, Cond.fieldLink RX11 10 "SeatsRound" "tape" "LSeatsRound$Tape;", Cond.classLink RX11 16 RX4, Cond.instantiable RX4 4, Cond.initialized RX4, Cond.fieldLink RX11 19 "SeatsRound" "nameList" "LSeatsRound$NameList;", Cond.classLink RX11 23 RX2, Cond.instantiable RX2 6, Cond.initialized RX2, Cond.fieldLink RX11 26 "SeatsRound" "keepers" "LSeatsRound$Keepers;", Cond.classLink RX11 30 RX3, Cond.instantiable RX3 8, Cond.initialized RX3, Cond.fieldLink RX11 33 "SeatsRound" "law" "LSeatsRound$Law;", Cond.classLink RX11 37 RX1, Cond.instantiable RX1 9, Cond.initialized RX1, Cond.fieldLink RX11 42 "SeatsRound" "choice" "LSeatsRound$Choice;", Cond.classLink RX11 46 RX8]
def wsX11_init_r2 : List Cond := [Cond.fieldLink RX11 48 "SeatsRound" "tables" "[LSeatsRound$Table;", Cond.fieldLink RX11 52 "SeatsRound" "tableCount" "I", Cond.instantiable RX8 13, Cond.initialized RX8, Cond.fieldLink RX11 57 "SeatsRound" "draft" "LSeatsRound$Table;", Cond.classLink RX11 61 RX6, Cond.instantiable RX6 12, Cond.initialized RX6, Cond.fieldLink RX11 66 "SeatsRound" "parcels" "LSeatsRound$Parcels;", Cond.classLink RX11 70 RX5, Cond.instantiable RX5 10, Cond.initialized RX5, Cond.fieldLink RX11 75 "SeatsRound" "orders" "LSeatsRound$Orders;", Cond.classLink RX11 79 RX10, Cond.instantiable RX10 5, Cond.initialized RX10, Cond.fieldLink RX11 84 "SeatsRound" "turnings" "LSeatsRound$Turnings;", Cond.classLink RX11 88 RX0, Cond.instantiable RX0 5, Cond.initialized RX0, Cond.fieldLink RX11 91 "SeatsRound" "acts" "LSeatsRound$Acts;", Cond.classLink RX11 95 RX7, Cond.instantiable RX7 4, Cond.initialized RX7]
def wsX11_init_r3 : List Cond := [Cond.fieldLink RX11 98 "SeatsRound" "rows" "LSeatsRound$Rows;", Cond.instanceMethod yX9_init, Cond.code yX9_init cX9_init 1 none, Cond.methodLink RX9 3 objectInit, Cond.arrayClass .byte, Cond.fieldLink RX9 9 "SeatsRound$Tape" "bytes" "[B", Cond.fieldLink RX9 15 "SeatsRound$Tape" "length" "I", Cond.instanceMethod yX4_init, Cond.code yX4_init cX4_init 1 none, Cond.methodLink RX4 3 objectInit, Cond.classLink RX4 9 "[[B", Cond.fieldLink RX4 11 "SeatsRound$NameList" "bytes" "[[B", Cond.arrayClass .int, Cond.fieldLink RX4 16 "SeatsRound$NameList" "size" "[I", Cond.fieldLink RX4 20 "SeatsRound$NameList" "read" "[B", Cond.fieldLink RX4 24 "SeatsRound$NameList" "count" "I", Cond.instanceMethod yX2_init, Cond.code yX2_init cX2_init 1 none, Cond.methodLink RX2 3 objectInit, Cond.fieldLink RX2 9 "SeatsRound$Keepers" "kind" "[I", Cond.fieldLink RX2 15 "SeatsRound$Keepers" "street" "[I", Cond.fieldLink RX2 18 "SeatsRound$Keepers" "strength" "[I", Cond.fieldLink RX2 21 "SeatsRound$Keepers" "table" "[I", Cond.arrayClass .boolean]
def wsX11_init_r4 : List Cond := [Cond.fieldLink RX2 24 "SeatsRound$Keepers" "fallen" "[Z", Cond.fieldLink RX2 28 "SeatsRound$Keepers" "count" "I", Cond.instanceMethod yX3_init, Cond.code yX3_init cX3_init 1 none, Cond.methodLink RX3 3 objectInit, Cond.fieldLink RX3 9 "SeatsRound$Law" "text" "[B", Cond.fieldLink RX3 15 "SeatsRound$Law" "length" "I", Cond.fieldLink RX3 19 "SeatsRound$Law" "at" "I", Cond.fieldLink RX3 22 "SeatsRound$Law" "fault" "I", Cond.fieldLink RX3 25 "SeatsRound$Law" "members" "I", Cond.fieldLink RX3 28 "SeatsRound$Law" "streetsIn" "I", Cond.fieldLink RX3 31 "SeatsRound$Law" "weights" "I", Cond.fieldLink RX3 34 "SeatsRound$Law" "greatest" "I", Cond.methodLink RX11 39 yX1_init, Cond.instanceMethod yX1_init, Cond.code yX1_init cX1_init 2 none, Cond.methodLink RX1 3 objectInit, Cond.fieldLink RX1 9 "SeatsRound$Choice" "picks" "[I", Cond.fieldLink RX1 15 "SeatsRound$Choice" "chosen" "[I", Cond.fieldLink RX1 18 "SeatsRound$Choice" "pickCount" "I", Cond.fieldLink RX1 22 "SeatsRound$Choice" "chosenCount" "I", Cond.fieldLink RX1 25 "SeatsRound$Choice" "chosenBits" "I", Cond.fieldLink RX1 28 "SeatsRound$Choice" "streetBits" "I", Cond.fieldLink RX1 31 "SeatsRound$Choice" "pickBits" "I"]
def wsX11_init_r5 : List Cond := [Cond.fieldLink RX1 34 "SeatsRound$Choice" "sums" "[I", Cond.fieldLink RX1 37 "SeatsRound$Choice" "keepers" "LSeatsRound$Keepers;", Cond.instanceMethod yX8_init, Cond.code yX8_init cX8_init 1 none, Cond.methodLink RX8 3 objectInit, Cond.fieldLink RX8 9 "SeatsRound$Table" "members" "I", Cond.fieldLink RX8 15 "SeatsRound$Table" "turn" "I", Cond.fieldLink RX8 18 "SeatsRound$Table" "copies" "I", Cond.fieldLink RX8 21 "SeatsRound$Table" "streets" "I", Cond.fieldLink RX8 24 "SeatsRound$Table" "way" "I", Cond.fieldLink RX8 27 "SeatsRound$Table" "seats" "I", Cond.fieldLink RX8 30 "SeatsRound$Table" "lawLength" "I", Cond.fieldLink RX8 33 "SeatsRound$Table" "oddsCounted" "Z", Cond.fieldLink RX8 37 "SeatsRound$Table" "weight" "[I", Cond.fieldLink RX8 41 "SeatsRound$Table" "odds" "[I", Cond.fieldLink RX8 44 "SeatsRound$Table" "law" "[B", Cond.fieldLink RX8 48 "SeatsRound$Table" "owner" "[B", Cond.arrayClass .short, Cond.fieldLink RX8 51 "SeatsRound$Table" "ahead" "[S", Cond.methodLink RX11 63 yX6_init, Cond.instanceMethod yX6_init, Cond.code yX6_init cX6_init 4 none, Cond.methodLink RX6 3 objectInit, Cond.classLink RX6 9 "[[I"]
def wsX11_init_r6 : List Cond := [Cond.fieldLink RX6 11 "SeatsRound$Parcels" "version" "[[I", Cond.fieldLink RX6 16 "SeatsRound$Parcels" "kept" "[[I", Cond.fieldLink RX6 19 "SeatsRound$Parcels" "keptFor" "[[I", Cond.fieldLink RX6 22 "SeatsRound$Parcels" "pieces" "[[I", Cond.fieldLink RX6 25 "SeatsRound$Parcels" "pieceTo" "[[I", Cond.fieldLink RX6 28 "SeatsRound$Parcels" "latest" "[I", Cond.fieldLink RX6 32 "SeatsRound$Parcels" "oneTree" "[I", Cond.fieldLink RX6 35 "SeatsRound$Parcels" "otherTree" "[I", Cond.fieldLink RX6 38 "SeatsRound$Parcels" "writings" "I", Cond.fieldLink RX6 42 "SeatsRound$Parcels" "keepers" "LSeatsRound$Keepers;", Cond.fieldLink RX6 46 "SeatsRound$Parcels" "nameList" "LSeatsRound$NameList;", Cond.fieldLink RX6 50 "SeatsRound$Parcels" "choice" "LSeatsRound$Choice;", Cond.methodLink RX11 72 yX5_init, Cond.instanceMethod yX5_init, Cond.code yX5_init cX5_init 5 none, Cond.methodLink RX5 3 objectInit, Cond.fieldLink RX5 9 "SeatsRound$Orders" "told" "[I", Cond.fieldLink RX5 15 "SeatsRound$Orders" "toldCount" "I", Cond.fieldLink RX5 19 "SeatsRound$Orders" "path" "[I", Cond.fieldLink RX5 22 "SeatsRound$Orders" "pathLength" "I", Cond.classLink RX5 25 "[[I", Cond.fieldLink RX5 27 "SeatsRound$Orders" "holders" "[[I", Cond.fieldLink RX5 30 "SeatsRound$Orders" "least" "[I", Cond.fieldLink RX5 33 "SeatsRound$Orders" "keepers" "LSeatsRound$Keepers;"]
def wsX11_init_r7 : List Cond := [Cond.fieldLink RX5 37 "SeatsRound$Orders" "nameList" "LSeatsRound$NameList;", Cond.fieldLink RX5 41 "SeatsRound$Orders" "choice" "LSeatsRound$Choice;", Cond.fieldLink RX5 45 "SeatsRound$Orders" "law" "LSeatsRound$Law;", Cond.methodLink RX11 81 yX10_init, Cond.instanceMethod yX10_init, Cond.code yX10_init cX10_init 2 none, Cond.methodLink RX10 3 objectInit, Cond.fieldLink RX10 9 "SeatsRound$Turnings" "told" "[I", Cond.fieldLink RX10 15 "SeatsRound$Turnings" "count" "I", Cond.fieldLink RX10 19 "SeatsRound$Turnings" "greatest" "I", Cond.fieldLink RX10 22 "SeatsRound$Turnings" "shares" "[I", Cond.fieldLink RX10 25 "SeatsRound$Turnings" "nameList" "LSeatsRound$NameList;", Cond.instanceMethod yX0_init, Cond.code yX0_init cX0_init 1 none, Cond.methodLink RX0 3 objectInit, Cond.fieldLink RX0 9 "SeatsRound$Acts" "bodies" "[I", Cond.fieldLink RX0 15 "SeatsRound$Acts" "ran" "I", Cond.fieldLink RX0 19 "SeatsRound$Acts" "own" "I", Cond.fieldLink RX0 22 "SeatsRound$Acts" "number" "I", Cond.fieldLink RX0 25 "SeatsRound$Acts" "strength" "I", Cond.methodLink RX11 97 yX7_init, Cond.instanceMethod yX7_init, Cond.code yX7_init cX7_init 1 none, Cond.methodLink RX7 3 objectInit]
def wsX11_init_r8 : List Cond := [Cond.fieldLink RX7 9 "SeatsRound$Rows" "keeper" "[I", Cond.fieldLink RX7 15 "SeatsRound$Rows" "sort" "[I", Cond.fieldLink RX7 18 "SeatsRound$Rows" "length" "[I", Cond.classLink RX7 21 "[[J", Cond.arrayClass .long, Cond.fieldLink RX7 23 "SeatsRound$Rows" "elements" "[[J", Cond.methodLink RX7 26 yJ7_fill_53178, Cond.static yJ7_fill_53178, Cond.initialized RJ7, Cond.code yJ7_fill_53178 cJ7_fill_53178 4 none]
def wsX11_init : List Cond := .code yX11_init cX11_init 1 none :: ((wsX11_init_r1 ++ (wsX11_init_r2 ++ (wsX11_init_r3 ++ (wsX11_init_r4 ++ (wsX11_init_r5 ++ (wsX11_init_r6 ++ (wsX11_init_r7 ++ wsX11_init_r8))))))) ++ wsX90 ++ wsX110 ++ wsX40 ++ wsX20 ++ wsX30 ++ wsX10 ++ wsX80 ++ wsX60 ++ wsX50 ++ wsX100 ++ wsX00 ++ wsX70)
def wsX11_feed : List Cond := .code yX11_feed cX11_feed 3 (some .int) :: ([.fieldLink RX11 10 "SeatsRound" "tape" "LSeatsRound$Tape;", .fieldLink RX11 102 "SeatsRound$Tape" "length" "I", .methodLink RX11 105 yX9_append, .instanceMethod yX9_append, .selects RX9 yX9_append yX9_append, .initialized RX9, .code yX9_append cX9_append 4 none, .fieldLink RX9 15 "SeatsRound$Tape" "length" "I", .fieldLink RX9 9 "SeatsRound$Tape" "bytes" "[B"] ++ wsX110 ++ wsX90)
def wsX11_name : List Cond := .code yX11_name cX11_name 2 (some .int) :: ([.fieldLink RX11 10 "SeatsRound" "tape" "LSeatsRound$Tape;", .fieldLink RX11 102 "SeatsRound$Tape" "length" "I", .fieldLink RX11 19 "SeatsRound" "nameList" "LSeatsRound$NameList;", .fieldLink RX11 109 "SeatsRound$Tape" "bytes" "[B", .fieldLink RX11 117 "SeatsRound$NameList" "count" "I", .methodLink RX11 113 yX4_find, .instanceMethod yX4_find, .selects RX4 yX4_find yX4_find, .initialized RX4, .code yX4_find cX4_find 5 (some .int), .fieldLink RX4 24 "SeatsRound$NameList" "count" "I", .fieldLink RX4 16 "SeatsRound$NameList" "size" "[I", .fieldLink RX4 11 "SeatsRound$NameList" "bytes" "[[B", .methodLink RX4 28 yX4_isAlike, .static yX4_isAlike, .code yX4_isAlike cX4_isAlike 5 (some .boolean), .methodLink RX11 120 yX4_add, .instanceMethod yX4_add, .selects RX4 yX4_add yX4_add, .code yX4_add cX4_add 4 (some .int), .methodLink RX4 32 arraycopyName, .native arraycopyName, .static arraycopyName, .initialized "java/lang/System"] ++ wsX110 ++ wsX90 ++ wsX40)
def wsX11_number : List Cond := .code yX11_number cX11_number 3 (some .int) :: ([.fieldLink RX11 19 "SeatsRound" "nameList" "LSeatsRound$NameList;", .methodLink RX11 123 yX4_has, .instanceMethod yX4_has, .selects RX4 yX4_has yX4_has, .initialized RX4, .code yX4_has cX4_has 2 (some .boolean), .fieldLink RX4 24 "SeatsRound$NameList" "count" "I", .methodLink RX11 127 yX4_placeOf, .instanceMethod yX4_placeOf, .selects RX4 yX4_placeOf yX4_placeOf, .code yX4_placeOf cX4_placeOf 5 (some .int), .fieldLink RX4 16 "SeatsRound$NameList" "size" "[I", .fieldLink RX4 11 "SeatsRound$NameList" "bytes" "[[B", .constant RX4 38 (16777619)] ++ wsX110 ++ wsX40)
def wsX11_isStrength : List Cond := .code yX11_isStrength cX11_isStrength 1 (some .boolean) :: ([])
def wsX11_keeper : List Cond := .code yX11_keeper cX11_keeper 3 (some .int) :: ([.fieldLink RX11 26 "SeatsRound" "keepers" "LSeatsRound$Keepers;", .fieldLink RX11 134 "SeatsRound$Keepers" "count" "I", .methodLink RX11 131 yX11_isStrength, .static yX11_isStrength, .initialized RX11, .code yX11_isStrength cX11_isStrength 1 (some .boolean), .methodLink RX11 135 yX2_add, .instanceMethod yX2_add, .selects RX2 yX2_add yX2_add, .initialized RX2, .code yX2_add cX2_add 3 (some .int), .fieldLink RX2 9 "SeatsRound$Keepers" "kind" "[I", .fieldLink RX2 28 "SeatsRound$Keepers" "count" "I", .fieldLink RX2 15 "SeatsRound$Keepers" "street" "[I", .fieldLink RX2 18 "SeatsRound$Keepers" "strength" "[I", .fieldLink RX2 21 "SeatsRound$Keepers" "table" "[I"] ++ wsX110 ++ wsX20)
def wsX11_isKind : List Cond := .code yX11_isKind cX11_isKind 1 (some .boolean) :: ([])
def wsX11_become_r1 : List Cond := [Cond.fieldLink RX11 26 "SeatsRound" "keepers" "LSeatsRound$Keepers;", Cond.fieldLink RX11 141 "SeatsRound$Keepers" "kind" "[I", Cond.fieldLink RX11 66 "SeatsRound" "parcels" "LSeatsRound$Parcels;", Cond.methodLink RX11 137 yX2_has, Cond.instanceMethod yX2_has, Cond.selects RX2 yX2_has yX2_has, Cond.initialized RX2, Cond.code yX2_has cX2_has 2 (some .boolean), Cond.fieldLink RX2 28 "SeatsRound$Keepers" "count" "I", Cond.methodLink RX11 138 yX11_isKind, Cond.static yX11_isKind, Cond.initialized RX11, Cond.code yX11_isKind cX11_isKind 1 (some .boolean), Cond.methodLink RX11 145 yX6_handBack, Cond.instanceMethod yX6_handBack, Cond.selects RX6 yX6_handBack yX6_handBack, Cond.initialized RX6, Cond.code yX6_handBack cX6_handBack 4 none, Cond.fieldLink RX6 42 "SeatsRound$Parcels" "keepers" "LSeatsRound$Keepers;", Cond.fieldLink RX6 120 "SeatsRound$Keepers" "count" "I", Cond.fieldLink RX6 46 "SeatsRound$Parcels" "nameList" "LSeatsRound$NameList;", Cond.fieldLink RX6 123 "SeatsRound$NameList" "count" "I", Cond.fieldLink RX6 16 "SeatsRound$Parcels" "kept" "[[I", Cond.fieldLink RX6 19 "SeatsRound$Parcels" "keptFor" "[[I"]
def wsX11_become_r2 : List Cond := [Cond.methodLink RX6 100 yX6_takesGreater, Cond.instanceMethod yX6_takesGreater, Cond.selects RX6 yX6_takesGreater yX6_takesGreater, Cond.code yX6_takesGreater cX6_takesGreater 4 (some .boolean), Cond.fieldLink RX6 11 "SeatsRound$Parcels" "version" "[[I"]
def wsX11_become : List Cond := .code yX11_become cX11_become 4 (some .int) :: ((wsX11_become_r1 ++ wsX11_become_r2) ++ wsX110 ++ wsX20 ++ wsX60 ++ wsX40)
def wsX11_strength : List Cond := .code yX11_strength cX11_strength 4 (some .int) :: ([.fieldLink RX11 26 "SeatsRound" "keepers" "LSeatsRound$Keepers;", .fieldLink RX11 149 "SeatsRound$Keepers" "strength" "[I", .methodLink RX11 137 yX2_has, .instanceMethod yX2_has, .selects RX2 yX2_has yX2_has, .initialized RX2, .code yX2_has cX2_has 2 (some .boolean), .fieldLink RX2 28 "SeatsRound$Keepers" "count" "I", .methodLink RX11 131 yX11_isStrength, .static yX11_isStrength, .initialized RX11, .code yX11_isStrength cX11_isStrength 1 (some .boolean)] ++ wsX110 ++ wsX20)
def wsX11_ofKeeper_r1 : List Cond := [Cond.fieldLink RX11 26 "SeatsRound" "keepers" "LSeatsRound$Keepers;", Cond.constant RX11 152 (-2000000000), Cond.fieldLink RX11 141 "SeatsRound$Keepers" "kind" "[I", Cond.fieldLink RX11 153 "SeatsRound$Keepers" "street" "[I", Cond.fieldLink RX11 149 "SeatsRound$Keepers" "strength" "[I", Cond.fieldLink RX11 160 "SeatsRound$Keepers" "table" "[I", Cond.fieldLink RX11 66 "SeatsRound" "parcels" "LSeatsRound$Parcels;", Cond.fieldLink RX11 169 "SeatsRound$Keepers" "fallen" "[Z", Cond.methodLink RX11 137 yX2_has, Cond.instanceMethod yX2_has, Cond.selects RX2 yX2_has yX2_has, Cond.initialized RX2, Cond.code yX2_has cX2_has 2 (some .boolean), Cond.fieldLink RX2 28 "SeatsRound$Keepers" "count" "I", Cond.methodLink RX11 156 yX2_counting, Cond.instanceMethod yX2_counting, Cond.selects RX2 yX2_counting yX2_counting, Cond.code yX2_counting cX2_counting 3 (some .int), Cond.fieldLink RX2 9 "SeatsRound$Keepers" "kind" "[I", Cond.fieldLink RX2 18 "SeatsRound$Keepers" "strength" "[I", Cond.methodLink RX11 163 yX6_copiesOn, Cond.instanceMethod yX6_copiesOn, Cond.selects RX6 yX6_copiesOn yX6_copiesOn, Cond.initialized RX6]
def wsX11_ofKeeper_r2 : List Cond := [Cond.code yX6_copiesOn cX6_copiesOn 2 (some .int), Cond.fieldLink RX6 11 "SeatsRound$Parcels" "version" "[[I", Cond.methodLink RX6 141 yX6_filled, Cond.static yX6_filled, Cond.code yX6_filled cX6_filled 6 (some .int), Cond.methodLink RX11 166 yX6_keptBy, Cond.instanceMethod yX6_keptBy, Cond.selects RX6 yX6_keptBy yX6_keptBy, Cond.code yX6_keptBy cX6_keptBy 2 (some .int), Cond.fieldLink RX6 16 "SeatsRound$Parcels" "kept" "[[I"]
def wsX11_ofKeeper : List Cond := .code yX11_ofKeeper cX11_ofKeeper 3 (some .int) :: ((wsX11_ofKeeper_r1 ++ wsX11_ofKeeper_r2) ++ wsX110 ++ wsX20 ++ wsX60)
def wsX11_table_r1 : List Cond := [Cond.fieldLink RX11 26 "SeatsRound" "keepers" "LSeatsRound$Keepers;", Cond.fieldLink RX11 134 "SeatsRound$Keepers" "count" "I", Cond.fieldLink RX11 52 "SeatsRound" "tableCount" "I", Cond.fieldLink RX11 57 "SeatsRound" "draft" "LSeatsRound$Table;", Cond.fieldLink RX11 10 "SeatsRound" "tape" "LSeatsRound$Tape;", Cond.fieldLink RX11 109 "SeatsRound$Tape" "bytes" "[B", Cond.fieldLink RX11 102 "SeatsRound$Tape" "length" "I", Cond.fieldLink RX11 33 "SeatsRound" "law" "LSeatsRound$Law;", Cond.classLink RX11 46 RX8, Cond.instantiable RX8 13, Cond.initialized RX8, Cond.fieldLink RX11 48 "SeatsRound" "tables" "[LSeatsRound$Table;", Cond.methodLink RX11 173 yX8_takeMembers, Cond.instanceMethod yX8_takeMembers, Cond.selects RX8 yX8_takeMembers yX8_takeMembers, Cond.code yX8_takeMembers cX8_takeMembers 4 none, Cond.fieldLink RX8 9 "SeatsRound$Table" "members" "I", Cond.fieldLink RX8 37 "SeatsRound$Table" "weight" "[I", Cond.methodLink RX8 55 yX2_counting, Cond.instanceMethod yX2_counting, Cond.selects RX2 yX2_counting yX2_counting, Cond.initialized RX2, Cond.code yX2_counting cX2_counting 3 (some .int), Cond.fieldLink RX2 9 "SeatsRound$Keepers" "kind" "[I"]
def wsX11_table_r2 : List Cond := [Cond.fieldLink RX2 18 "SeatsRound$Keepers" "strength" "[I", Cond.methodLink RX11 177 yX8_takeLaw, Cond.instanceMethod yX8_takeLaw, Cond.selects RX8 yX8_takeLaw yX8_takeLaw, Cond.code yX8_takeLaw cX8_takeLaw 3 none, Cond.methodLink RX8 61 Lib.Math.min.name, Cond.static Lib.Math.min.name, Cond.initialized "java/lang/Math", Cond.code Lib.Math.min.name Lib.Math.min.code 2 (some .int), Cond.methodLink RX8 67 Lib.Math.max.name, Cond.static Lib.Math.max.name, Cond.code Lib.Math.max.name Lib.Math.max.code 2 (some .int), Cond.fieldLink RX8 30 "SeatsRound$Table" "lawLength" "I", Cond.fieldLink RX8 44 "SeatsRound$Table" "law" "[B", Cond.methodLink RX8 70 arraycopyName, Cond.native arraycopyName, Cond.static arraycopyName, Cond.initialized "java/lang/System", Cond.methodLink RX11 181 yX3_workOut, Cond.instanceMethod yX3_workOut, Cond.selects RX3 yX3_workOut yX3_workOut, Cond.initialized RX3, Cond.code yX3_workOut cX3_workOut 5 (some .int), Cond.fieldLink RX3 37 "SeatsRound$Table" "law" "[B"]
def wsX11_table_r3 : List Cond := [Cond.fieldLink RX3 9 "SeatsRound$Law" "text" "[B", Cond.fieldLink RX3 42 "SeatsRound$Table" "lawLength" "I", Cond.fieldLink RX3 15 "SeatsRound$Law" "length" "I", Cond.fieldLink RX3 19 "SeatsRound$Law" "at" "I", Cond.fieldLink RX3 22 "SeatsRound$Law" "fault" "I", Cond.fieldLink RX3 49 "SeatsRound$Table" "copies" "I", Cond.fieldLink RX3 52 "SeatsRound$Table" "streets" "I", Cond.fieldLink RX3 55 "SeatsRound$Table" "way" "I", Cond.methodLink RX3 45 yX3_look, Cond.instanceMethod yX3_look, Cond.selects RX3 yX3_look yX3_look, Cond.code yX3_look cX3_look 5 none, Cond.fieldLink RX3 66 "SeatsRound$Table" "members" "I", Cond.fieldLink RX3 25 "SeatsRound$Law" "members" "I", Cond.fieldLink RX3 31 "SeatsRound$Law" "weights" "I", Cond.fieldLink RX3 34 "SeatsRound$Law" "greatest" "I", Cond.fieldLink RX3 73 "SeatsRound$Keepers" "street" "[I", Cond.fieldLink RX3 79 "SeatsRound$Table" "weight" "[I", Cond.methodLink RX3 82 Lib.Math.max.name, Cond.fieldLink RX3 28 "SeatsRound$Law" "streetsIn" "I", Cond.methodLink RX3 67 yJ6_bitCount_0f7a4, Cond.static yJ6_bitCount_0f7a4, Cond.initialized RJ6, Cond.code yJ6_bitCount_0f7a4 cJ6_bitCount_0f7a4 1 (some .int)]
def wsX11_table_r4 : List Cond := [Cond.constant RJ6 265 (1431655765), Cond.constant RJ6 266 (858993459), Cond.constant RJ6 267 (252645135), Cond.methodLink RX3 58 yX3_readPart, Cond.instanceMethod yX3_readPart, Cond.selects RX3 yX3_readPart yX3_readPart, Cond.code yX3_readPart cX3_readPart 5 (some .int), Cond.methodLink RX3 62 yX3_sign, Cond.instanceMethod yX3_sign, Cond.selects RX3 yX3_sign yX3_sign, Cond.code yX3_sign cX3_sign 1 (some .int), Cond.methodLink RX3 88 yX3_readSum, Cond.instanceMethod yX3_readSum, Cond.selects RX3 yX3_readSum yX3_readSum, Cond.code yX3_readSum cX3_readSum 6 (some .int), Cond.methodLink RX3 100 yX3_readProduct, Cond.instanceMethod yX3_readProduct, Cond.selects RX3 yX3_readProduct yX3_readProduct, Cond.code yX3_readBracket cX3_readBracket 3 (some .int), Cond.code yX3_readOperand cX3_readOperand 4 (some .int), Cond.methodLink RX3 106 yX3_isDigit, Cond.static yX3_isDigit, Cond.code yX3_isDigit cX3_isDigit 1 (some .boolean), Cond.methodLink RX3 110 yX3_readNumber]
def wsX11_table_r5 : List Cond := [Cond.instanceMethod yX3_readNumber, Cond.selects RX3 yX3_readNumber yX3_readNumber, Cond.code yX3_readNumber cX3_readNumber 3 (some .int), Cond.methodLink RX3 113 yX3_readBracket, Cond.instanceMethod yX3_readBracket, Cond.selects RX3 yX3_readBracket yX3_readBracket, Cond.code yX3_readProduct cX3_readProduct 6 (some .int), Cond.methodLink RX3 103 yX3_readOperand, Cond.instanceMethod yX3_readOperand, Cond.selects RX3 yX3_readOperand yX3_readOperand, Cond.methodLink RX3 91 yX3_heldWithin, Cond.static yX3_heldWithin, Cond.code yX3_heldWithin cX3_heldWithin 1 (some .int), Cond.methodLink RX3 97 Lib.Math.min.name, Cond.methodLink RX3 94 yX3_readWay, Cond.instanceMethod yX3_readWay, Cond.selects RX3 yX3_readWay yX3_readWay, Cond.code yX3_readWay cX3_readWay 2 (some .int), Cond.instanceMethod yX8_init, Cond.code yX8_init cX8_init 1 none, Cond.methodLink RX8 3 objectInit, Cond.instanceMethod objectInit, Cond.code objectInit ⟨#[0xb1]⟩ 1 none, Cond.fieldLink RX8 15 "SeatsRound$Table" "turn" "I"]
def wsX11_table_r6 : List Cond := [Cond.fieldLink RX8 18 "SeatsRound$Table" "copies" "I", Cond.fieldLink RX8 21 "SeatsRound$Table" "streets" "I", Cond.fieldLink RX8 24 "SeatsRound$Table" "way" "I", Cond.fieldLink RX8 27 "SeatsRound$Table" "seats" "I", Cond.fieldLink RX8 33 "SeatsRound$Table" "oddsCounted" "Z", Cond.arrayClass .int, Cond.fieldLink RX8 41 "SeatsRound$Table" "odds" "[I", Cond.arrayClass .byte, Cond.fieldLink RX8 48 "SeatsRound$Table" "owner" "[B", Cond.arrayClass .short, Cond.fieldLink RX8 51 "SeatsRound$Table" "ahead" "[S", Cond.methodLink RX11 185 yX8_takeAll, Cond.instanceMethod yX8_takeAll, Cond.selects RX8 yX8_takeAll yX8_takeAll, Cond.code yX8_takeAll cX8_takeAll 2 none, Cond.methodLink RX8 76 yX8_takeLaw, Cond.methodLink RX11 189 yX8_seatAll, Cond.instanceMethod yX8_seatAll, Cond.selects RX8 yX8_seatAll yX8_seatAll, Cond.code yX8_seatAll cX8_seatAll 4 none, Cond.constant RX8 86 (104729), Cond.methodLink RX8 80 yJ7_fill_031fb, Cond.static yJ7_fill_031fb, Cond.initialized RJ7]
def wsX11_table_r7 : List Cond := [Cond.code yJ7_fill_031fb cJ7_fill_031fb 4 none, Cond.static yX11_strewn, Cond.initialized RX11, Cond.code yX11_strewn cX11_strewn 1 (some .int), Cond.constant RX11 423 (1103515245), Cond.methodLink RX8 90 yX8_freeFrom, Cond.instanceMethod yX8_freeFrom, Cond.selects RX8 yX8_freeFrom yX8_freeFrom, Cond.code yX8_freeFrom cX8_freeFrom 4 (some .int), Cond.static yX11_placeBehind, Cond.code yX11_placeBehind cX11_placeBehind 1 (some .int), Cond.methodLink RX8 93 yX8_linkPlaces, Cond.instanceMethod yX8_linkPlaces, Cond.selects RX8 yX8_linkPlaces yX8_linkPlaces, Cond.code yX8_linkPlaces cX8_linkPlaces 4 none]
def wsX11_table : List Cond := .code yX11_table cX11_table 6 (some .int) :: ((wsX11_table_r1 ++ (wsX11_table_r2 ++ (wsX11_table_r3 ++ (wsX11_table_r4 ++ (wsX11_table_r5 ++ (wsX11_table_r6 ++ wsX11_table_r7)))))) ++ wsX110 ++ wsX20 ++ wsX90 ++ wsX80 ++ wsX30)
def wsX11_tableAt : List Cond := .code yX11_tableAt cX11_tableAt 2 (some (.object "SeatsRound$Table")) :: ([.fieldLink RX11 52 "SeatsRound" "tableCount" "I", .fieldLink RX11 48 "SeatsRound" "tables" "[LSeatsRound$Table;"] ++ wsX110)
def wsX11_ofTable_r1 : List Cond := [Cond.fieldLink RX11 196 "SeatsRound$Table" "members" "I", Cond.fieldLink RX11 199 "SeatsRound$Table" "seats" "I", Cond.fieldLink RX11 202 "SeatsRound$Table" "copies" "I", Cond.fieldLink RX11 205 "SeatsRound$Table" "streets" "I", Cond.fieldLink RX11 208 "SeatsRound$Table" "way" "I", Cond.methodLink RX11 192 yX11_tableAt, Cond.instanceMethod yX11_tableAt, Cond.selects RX11 yX11_tableAt yX11_tableAt, Cond.initialized RX11, Cond.code yX11_tableAt cX11_tableAt 2 (some (.object "SeatsRound$Table")), Cond.fieldLink RX11 52 "SeatsRound" "tableCount" "I", Cond.fieldLink RX11 48 "SeatsRound" "tables" "[LSeatsRound$Table;", Cond.methodLink RX11 211 yX8_unevenness, Cond.instanceMethod yX8_unevenness, Cond.selects RX8 yX8_unevenness yX8_unevenness, Cond.initialized RX8, Cond.code yX8_unevenness cX8_unevenness 4 (some .int), Cond.fieldLink RX8 9 "SeatsRound$Table" "members" "I", Cond.fieldLink RX8 41 "SeatsRound$Table" "odds" "[I", Cond.methodLink RX8 61 Lib.Math.min.name, Cond.static Lib.Math.min.name, Cond.initialized "java/lang/Math", Cond.code Lib.Math.min.name Lib.Math.min.code 2 (some .int), Cond.methodLink RX8 67 Lib.Math.max.name]
def wsX11_ofTable_r2 : List Cond := [Cond.static Lib.Math.max.name, Cond.code Lib.Math.max.name Lib.Math.max.code 2 (some .int), Cond.methodLink RX8 108 yX8_countOdds, Cond.instanceMethod yX8_countOdds, Cond.selects RX8 yX8_countOdds yX8_countOdds, Cond.code yX8_countOdds cX8_countOdds 3 none, Cond.fieldLink RX8 33 "SeatsRound$Table" "oddsCounted" "Z", Cond.methodLink RX8 102 yJ7_fill_53178, Cond.static yJ7_fill_53178, Cond.initialized RJ7, Cond.code yJ7_fill_53178 cJ7_fill_53178 4 none, Cond.methodLink RX8 105 yX8_firstFor, Cond.instanceMethod yX8_firstFor, Cond.selects RX8 yX8_firstFor yX8_firstFor, Cond.code yX8_firstFor cX8_firstFor 6 (some .int), Cond.fieldLink RX8 24 "SeatsRound$Table" "way" "I", Cond.fieldLink RX8 48 "SeatsRound$Table" "owner" "[B", Cond.fieldLink RX8 51 "SeatsRound$Table" "ahead" "[S", Cond.methodLink RX8 99 yX8_sumOf, Cond.instanceMethod yX8_sumOf, Cond.selects RX8 yX8_sumOf yX8_sumOf, Cond.code yX8_sumOf cX8_sumOf 3 (some .int), Cond.constant RX8 86 (104729), Cond.fieldLink RX8 15 "SeatsRound$Table" "turn" "I"]
def wsX11_ofTable_r3 : List Cond := [Cond.fieldLink RX8 37 "SeatsRound$Table" "weight" "[I", Cond.static yX11_strewn, Cond.code yX11_strewn cX11_strewn 1 (some .int), Cond.constant RX11 423 (1103515245)]
def wsX11_ofTable : List Cond := .code yX11_ofTable cX11_ofTable 4 (some .int) :: ((wsX11_ofTable_r1 ++ (wsX11_ofTable_r2 ++ wsX11_ofTable_r3)) ++ wsX80 ++ wsX110)
def wsX11_isPlace : List Cond := .code yX11_isPlace cX11_isPlace 1 (some .boolean) :: ([])
def wsX11_seat : List Cond := .code yX11_seat cX11_seat 4 (some .int) :: ([.fieldLink RX11 218 "SeatsRound$Table" "owner" "[B", .methodLink RX11 192 yX11_tableAt, .instanceMethod yX11_tableAt, .selects RX11 yX11_tableAt yX11_tableAt, .initialized RX11, .code yX11_tableAt cX11_tableAt 2 (some (.object "SeatsRound$Table")), .fieldLink RX11 52 "SeatsRound" "tableCount" "I", .fieldLink RX11 48 "SeatsRound" "tables" "[LSeatsRound$Table;", .methodLink RX11 215 yX11_isPlace, .static yX11_isPlace, .code yX11_isPlace cX11_isPlace 1 (some .boolean)] ++ wsX80 ++ wsX110)
def wsX11_picked_r1 : List Cond := [Cond.fieldLink RX11 42 "SeatsRound" "choice" "LSeatsRound$Choice;", Cond.fieldLink RX11 225 "SeatsRound$Choice" "pickCount" "I", Cond.fieldLink RX11 228 "SeatsRound$Choice" "picks" "[I", Cond.methodLink RX11 192 yX11_tableAt, Cond.instanceMethod yX11_tableAt, Cond.selects RX11 yX11_tableAt yX11_tableAt, Cond.initialized RX11, Cond.code yX11_tableAt cX11_tableAt 2 (some (.object "SeatsRound$Table")), Cond.fieldLink RX11 52 "SeatsRound" "tableCount" "I", Cond.fieldLink RX11 48 "SeatsRound" "tables" "[LSeatsRound$Table;", Cond.methodLink RX11 215 yX11_isPlace, Cond.static yX11_isPlace, Cond.code yX11_isPlace cX11_isPlace 1 (some .boolean), Cond.methodLink RX11 221 yX1_pick, Cond.instanceMethod yX1_pick, Cond.selects RX1 yX1_pick yX1_pick, Cond.initialized RX1, Cond.code yX1_pick cX1_pick 3 none, Cond.fieldLink RX1 18 "SeatsRound$Choice" "pickCount" "I", Cond.fieldLink RX1 31 "SeatsRound$Choice" "pickBits" "I", Cond.fieldLink RX1 41 "SeatsRound$Table" "way" "I", Cond.methodLink RX1 46 yX1_pickBySums, Cond.instanceMethod yX1_pickBySums, Cond.selects RX1 yX1_pickBySums yX1_pickBySums]
def wsX11_picked_r2 : List Cond := [Cond.code yX1_pickBySums cX1_pickBySums 7 none, Cond.fieldLink RX1 59 "SeatsRound$Table" "members" "I", Cond.fieldLink RX1 34 "SeatsRound$Choice" "sums" "[I", Cond.fieldLink RX1 9 "SeatsRound$Choice" "picks" "[I", Cond.methodLink RX1 85 yX8_sumOf, Cond.instanceMethod yX8_sumOf, Cond.selects RX8 yX8_sumOf yX8_sumOf, Cond.initialized RX8, Cond.code yX8_sumOf cX8_sumOf 3 (some .int), Cond.constant RX8 86 (104729), Cond.fieldLink RX8 15 "SeatsRound$Table" "turn" "I", Cond.fieldLink RX8 37 "SeatsRound$Table" "weight" "[I", Cond.static yX11_strewn, Cond.code yX11_strewn cX11_strewn 1 (some .int), Cond.constant RX11 423 (1103515245), Cond.methodLink RX1 50 yX1_pickByJumps, Cond.instanceMethod yX1_pickByJumps, Cond.selects RX1 yX1_pickByJumps yX1_pickByJumps, Cond.code yX1_pickByJumps cX1_pickByJumps 4 none, Cond.methodLink RX1 82 yX1_pickFirstFrom, Cond.instanceMethod yX1_pickFirstFrom, Cond.selects RX1 yX1_pickFirstFrom yX1_pickFirstFrom, Cond.code yX1_pickFirstFrom cX1_pickFirstFrom 5 none, Cond.fieldLink RX1 56 "SeatsRound$Table" "seats" "I"]
def wsX11_picked_r3 : List Cond := [Cond.fieldLink RX1 62 "SeatsRound$Table" "ahead" "[S", Cond.fieldLink RX1 66 "SeatsRound$Table" "owner" "[B", Cond.methodLink RX1 70 yX1_isPicked, Cond.instanceMethod yX1_isPicked, Cond.selects RX1 yX1_isPicked yX1_isPicked, Cond.code yX1_isPicked cX1_isPicked 2 (some .boolean), Cond.methodLink RX1 74 yX1_takePick, Cond.instanceMethod yX1_takePick, Cond.selects RX1 yX1_takePick yX1_takePick, Cond.code yX1_takePick cX1_takePick 2 none, Cond.static yX11_placeBehind, Cond.code yX11_placeBehind cX11_placeBehind 1 (some .int), Cond.methodLink RX1 53 yX1_pickRound, Cond.instanceMethod yX1_pickRound, Cond.selects RX1 yX1_pickRound yX1_pickRound, Cond.code yX1_pickRound cX1_pickRound 5 none]
def wsX11_picked : List Cond := .code yX11_picked cX11_picked 5 (some .int) :: ((wsX11_picked_r1 ++ (wsX11_picked_r2 ++ wsX11_picked_r3)) ++ wsX110 ++ wsX10 ++ wsX80)
def wsX11_keeperOf_r1 : List Cond := [Cond.fieldLink RX11 19 "SeatsRound" "nameList" "LSeatsRound$NameList;", Cond.fieldLink RX11 42 "SeatsRound" "choice" "LSeatsRound$Choice;", Cond.fieldLink RX11 231 "SeatsRound$Table" "turn" "I", Cond.fieldLink RX11 237 "SeatsRound$Choice" "chosenCount" "I", Cond.fieldLink RX11 240 "SeatsRound$Choice" "chosen" "[I", Cond.methodLink RX11 192 yX11_tableAt, Cond.instanceMethod yX11_tableAt, Cond.selects RX11 yX11_tableAt yX11_tableAt, Cond.initialized RX11, Cond.code yX11_tableAt cX11_tableAt 2 (some (.object "SeatsRound$Table")), Cond.fieldLink RX11 52 "SeatsRound" "tableCount" "I", Cond.fieldLink RX11 48 "SeatsRound" "tables" "[LSeatsRound$Table;", Cond.methodLink RX11 123 yX4_has, Cond.instanceMethod yX4_has, Cond.selects RX4 yX4_has yX4_has, Cond.initialized RX4, Cond.code yX4_has cX4_has 2 (some .boolean), Cond.fieldLink RX4 24 "SeatsRound$NameList" "count" "I", Cond.methodLink RX11 127 yX4_placeOf, Cond.instanceMethod yX4_placeOf, Cond.selects RX4 yX4_placeOf yX4_placeOf, Cond.code yX4_placeOf cX4_placeOf 5 (some .int), Cond.fieldLink RX4 16 "SeatsRound$NameList" "size" "[I", Cond.fieldLink RX4 11 "SeatsRound$NameList" "bytes" "[[B"]
def wsX11_keeperOf_r2 : List Cond := [Cond.constant RX4 38 (16777619), Cond.methodLink RX11 234 yX1_choose, Cond.instanceMethod yX1_choose, Cond.selects RX1 yX1_choose yX1_choose, Cond.initialized RX1, Cond.code yX1_choose cX1_choose 4 none, Cond.fieldLink RX1 22 "SeatsRound$Choice" "chosenCount" "I", Cond.fieldLink RX1 25 "SeatsRound$Choice" "chosenBits" "I", Cond.fieldLink RX1 28 "SeatsRound$Choice" "streetBits" "I", Cond.fieldLink RX1 18 "SeatsRound$Choice" "pickCount" "I", Cond.fieldLink RX1 92 "SeatsRound$Table" "copies" "I", Cond.fieldLink RX1 95 "SeatsRound$Table" "streets" "I", Cond.methodLink RX1 98 Lib.Math.min.name, Cond.static Lib.Math.min.name, Cond.initialized "java/lang/Math", Cond.code Lib.Math.min.name Lib.Math.min.code 2 (some .int), Cond.fieldLink RX1 37 "SeatsRound$Choice" "keepers" "LSeatsRound$Keepers;", Cond.fieldLink RX1 103 "SeatsRound$Keepers" "street" "[I", Cond.fieldLink RX1 9 "SeatsRound$Choice" "picks" "[I", Cond.methodLink RX1 89 yX1_pick, Cond.instanceMethod yX1_pick, Cond.selects RX1 yX1_pick yX1_pick, Cond.code yX1_pick cX1_pick 3 none, Cond.fieldLink RX1 31 "SeatsRound$Choice" "pickBits" "I"]
def wsX11_keeperOf_r3 : List Cond := [Cond.fieldLink RX1 41 "SeatsRound$Table" "way" "I", Cond.methodLink RX1 46 yX1_pickBySums, Cond.instanceMethod yX1_pickBySums, Cond.selects RX1 yX1_pickBySums yX1_pickBySums, Cond.code yX1_pickBySums cX1_pickBySums 7 none, Cond.fieldLink RX1 59 "SeatsRound$Table" "members" "I", Cond.fieldLink RX1 34 "SeatsRound$Choice" "sums" "[I", Cond.methodLink RX1 85 yX8_sumOf, Cond.instanceMethod yX8_sumOf, Cond.selects RX8 yX8_sumOf yX8_sumOf, Cond.initialized RX8, Cond.code yX8_sumOf cX8_sumOf 3 (some .int), Cond.constant RX8 86 (104729), Cond.fieldLink RX8 15 "SeatsRound$Table" "turn" "I", Cond.fieldLink RX8 37 "SeatsRound$Table" "weight" "[I", Cond.static yX11_strewn, Cond.code yX11_strewn cX11_strewn 1 (some .int), Cond.constant RX11 423 (1103515245), Cond.methodLink RX1 50 yX1_pickByJumps, Cond.instanceMethod yX1_pickByJumps, Cond.selects RX1 yX1_pickByJumps yX1_pickByJumps, Cond.code yX1_pickByJumps cX1_pickByJumps 4 none, Cond.methodLink RX1 82 yX1_pickFirstFrom, Cond.instanceMethod yX1_pickFirstFrom]
def wsX11_keeperOf_r4 : List Cond := [Cond.selects RX1 yX1_pickFirstFrom yX1_pickFirstFrom, Cond.code yX1_pickFirstFrom cX1_pickFirstFrom 5 none, Cond.fieldLink RX1 56 "SeatsRound$Table" "seats" "I", Cond.fieldLink RX1 62 "SeatsRound$Table" "ahead" "[S", Cond.fieldLink RX1 66 "SeatsRound$Table" "owner" "[B", Cond.methodLink RX1 70 yX1_isPicked, Cond.instanceMethod yX1_isPicked, Cond.selects RX1 yX1_isPicked yX1_isPicked, Cond.code yX1_isPicked cX1_isPicked 2 (some .boolean), Cond.methodLink RX1 74 yX1_takePick, Cond.instanceMethod yX1_takePick, Cond.selects RX1 yX1_takePick yX1_takePick, Cond.code yX1_takePick cX1_takePick 2 none, Cond.static yX11_placeBehind, Cond.code yX11_placeBehind cX11_placeBehind 1 (some .int), Cond.methodLink RX1 53 yX1_pickRound, Cond.instanceMethod yX1_pickRound, Cond.selects RX1 yX1_pickRound yX1_pickRound, Cond.code yX1_pickRound cX1_pickRound 5 none, Cond.methodLink RX1 108 yX1_takeChosen, Cond.instanceMethod yX1_takeChosen, Cond.selects RX1 yX1_takeChosen yX1_takeChosen, Cond.code yX1_takeChosen cX1_takeChosen 2 none, Cond.fieldLink RX1 15 "SeatsRound$Choice" "chosen" "[I"]
def wsX11_keeperOf_r5 : List Cond := [Cond.methodLink RX1 111 yX1_isChosen, Cond.instanceMethod yX1_isChosen, Cond.selects RX1 yX1_isChosen yX1_isChosen, Cond.code yX1_isChosen cX1_isChosen 2 (some .boolean)]
def wsX11_keeperOf : List Cond := .code yX11_keeperOf cX11_keeperOf 5 (some .int) :: ((wsX11_keeperOf_r1 ++ (wsX11_keeperOf_r2 ++ (wsX11_keeperOf_r3 ++ (wsX11_keeperOf_r4 ++ wsX11_keeperOf_r5)))) ++ wsX110 ++ wsX80 ++ wsX10 ++ wsX40 ++ wsX20)
def wsX11_tooFew_r1 : List Cond := [Cond.fieldLink RX11 19 "SeatsRound" "nameList" "LSeatsRound$NameList;", Cond.fieldLink RX11 117 "SeatsRound$NameList" "count" "I", Cond.fieldLink RX11 42 "SeatsRound" "choice" "LSeatsRound$Choice;", Cond.fieldLink RX11 231 "SeatsRound$Table" "turn" "I", Cond.fieldLink RX11 243 "SeatsRound$Choice" "streetBits" "I", Cond.fieldLink RX11 205 "SeatsRound$Table" "streets" "I", Cond.methodLink RX11 192 yX11_tableAt, Cond.instanceMethod yX11_tableAt, Cond.selects RX11 yX11_tableAt yX11_tableAt, Cond.initialized RX11, Cond.code yX11_tableAt cX11_tableAt 2 (some (.object "SeatsRound$Table")), Cond.fieldLink RX11 52 "SeatsRound" "tableCount" "I", Cond.fieldLink RX11 48 "SeatsRound" "tables" "[LSeatsRound$Table;", Cond.methodLink RX11 127 yX4_placeOf, Cond.instanceMethod yX4_placeOf, Cond.selects RX4 yX4_placeOf yX4_placeOf, Cond.initialized RX4, Cond.code yX4_placeOf cX4_placeOf 5 (some .int), Cond.fieldLink RX4 16 "SeatsRound$NameList" "size" "[I", Cond.fieldLink RX4 11 "SeatsRound$NameList" "bytes" "[[B", Cond.constant RX4 38 (16777619), Cond.methodLink RX11 234 yX1_choose, Cond.instanceMethod yX1_choose, Cond.selects RX1 yX1_choose yX1_choose]
def wsX11_tooFew_r2 : List Cond := [Cond.initialized RX1, Cond.code yX1_choose cX1_choose 4 none, Cond.fieldLink RX1 22 "SeatsRound$Choice" "chosenCount" "I", Cond.fieldLink RX1 25 "SeatsRound$Choice" "chosenBits" "I", Cond.fieldLink RX1 28 "SeatsRound$Choice" "streetBits" "I", Cond.fieldLink RX1 18 "SeatsRound$Choice" "pickCount" "I", Cond.fieldLink RX1 92 "SeatsRound$Table" "copies" "I", Cond.fieldLink RX1 95 "SeatsRound$Table" "streets" "I", Cond.methodLink RX1 98 Lib.Math.min.name, Cond.static Lib.Math.min.name, Cond.initialized "java/lang/Math", Cond.code Lib.Math.min.name Lib.Math.min.code 2 (some .int), Cond.fieldLink RX1 37 "SeatsRound$Choice" "keepers" "LSeatsRound$Keepers;", Cond.fieldLink RX1 103 "SeatsRound$Keepers" "street" "[I", Cond.fieldLink RX1 9 "SeatsRound$Choice" "picks" "[I", Cond.methodLink RX1 89 yX1_pick, Cond.instanceMethod yX1_pick, Cond.selects RX1 yX1_pick yX1_pick, Cond.code yX1_pick cX1_pick 3 none, Cond.fieldLink RX1 31 "SeatsRound$Choice" "pickBits" "I", Cond.fieldLink RX1 41 "SeatsRound$Table" "way" "I", Cond.methodLink RX1 46 yX1_pickBySums, Cond.instanceMethod yX1_pickBySums, Cond.selects RX1 yX1_pickBySums yX1_pickBySums]
def wsX11_tooFew_r3 : List Cond := [Cond.code yX1_pickBySums cX1_pickBySums 7 none, Cond.fieldLink RX1 59 "SeatsRound$Table" "members" "I", Cond.fieldLink RX1 34 "SeatsRound$Choice" "sums" "[I", Cond.methodLink RX1 85 yX8_sumOf, Cond.instanceMethod yX8_sumOf, Cond.selects RX8 yX8_sumOf yX8_sumOf, Cond.initialized RX8, Cond.code yX8_sumOf cX8_sumOf 3 (some .int), Cond.constant RX8 86 (104729), Cond.fieldLink RX8 15 "SeatsRound$Table" "turn" "I", Cond.fieldLink RX8 37 "SeatsRound$Table" "weight" "[I", Cond.static yX11_strewn, Cond.code yX11_strewn cX11_strewn 1 (some .int), Cond.constant RX11 423 (1103515245), Cond.methodLink RX1 50 yX1_pickByJumps, Cond.instanceMethod yX1_pickByJumps, Cond.selects RX1 yX1_pickByJumps yX1_pickByJumps, Cond.code yX1_pickByJumps cX1_pickByJumps 4 none, Cond.methodLink RX1 82 yX1_pickFirstFrom, Cond.instanceMethod yX1_pickFirstFrom, Cond.selects RX1 yX1_pickFirstFrom yX1_pickFirstFrom, Cond.code yX1_pickFirstFrom cX1_pickFirstFrom 5 none, Cond.fieldLink RX1 56 "SeatsRound$Table" "seats" "I", Cond.fieldLink RX1 62 "SeatsRound$Table" "ahead" "[S"]
def wsX11_tooFew_r4 : List Cond := [Cond.fieldLink RX1 66 "SeatsRound$Table" "owner" "[B", Cond.methodLink RX1 70 yX1_isPicked, Cond.instanceMethod yX1_isPicked, Cond.selects RX1 yX1_isPicked yX1_isPicked, Cond.code yX1_isPicked cX1_isPicked 2 (some .boolean), Cond.methodLink RX1 74 yX1_takePick, Cond.instanceMethod yX1_takePick, Cond.selects RX1 yX1_takePick yX1_takePick, Cond.code yX1_takePick cX1_takePick 2 none, Cond.static yX11_placeBehind, Cond.code yX11_placeBehind cX11_placeBehind 1 (some .int), Cond.methodLink RX1 53 yX1_pickRound, Cond.instanceMethod yX1_pickRound, Cond.selects RX1 yX1_pickRound yX1_pickRound, Cond.code yX1_pickRound cX1_pickRound 5 none, Cond.methodLink RX1 108 yX1_takeChosen, Cond.instanceMethod yX1_takeChosen, Cond.selects RX1 yX1_takeChosen yX1_takeChosen, Cond.code yX1_takeChosen cX1_takeChosen 2 none, Cond.fieldLink RX1 15 "SeatsRound$Choice" "chosen" "[I", Cond.methodLink RX1 111 yX1_isChosen, Cond.instanceMethod yX1_isChosen, Cond.selects RX1 yX1_isChosen yX1_isChosen, Cond.code yX1_isChosen cX1_isChosen 2 (some .boolean)]
def wsX11_tooFew_r5 : List Cond := [Cond.methodLink RX11 246 yJ6_bitCount_0f7a4, Cond.static yJ6_bitCount_0f7a4, Cond.initialized RJ6, Cond.code yJ6_bitCount_0f7a4 cJ6_bitCount_0f7a4 1 (some .int), Cond.constant RJ6 265 (1431655765), Cond.constant RJ6 266 (858993459), Cond.constant RJ6 267 (252645135)]
def wsX11_tooFew : List Cond := .code yX11_tooFew cX11_tooFew 5 (some .int) :: ((wsX11_tooFew_r1 ++ (wsX11_tooFew_r2 ++ (wsX11_tooFew_r3 ++ (wsX11_tooFew_r4 ++ wsX11_tooFew_r5)))) ++ wsX110 ++ wsX40 ++ wsX80 ++ wsX10 ++ wsX20)
def wsX11_share_r1 : List Cond := [Cond.fieldLink RX11 26 "SeatsRound" "keepers" "LSeatsRound$Keepers;", Cond.fieldLink RX11 254 "SeatsRound$Table" "odds" "[I", Cond.fieldLink RX11 19 "SeatsRound" "nameList" "LSeatsRound$NameList;", Cond.fieldLink RX11 117 "SeatsRound$NameList" "count" "I", Cond.fieldLink RX11 231 "SeatsRound$Table" "turn" "I", Cond.methodLink RX11 192 yX11_tableAt, Cond.instanceMethod yX11_tableAt, Cond.selects RX11 yX11_tableAt yX11_tableAt, Cond.initialized RX11, Cond.code yX11_tableAt cX11_tableAt 2 (some (.object "SeatsRound$Table")), Cond.fieldLink RX11 52 "SeatsRound" "tableCount" "I", Cond.fieldLink RX11 48 "SeatsRound" "tables" "[LSeatsRound$Table;", Cond.methodLink RX11 137 yX2_has, Cond.instanceMethod yX2_has, Cond.selects RX2 yX2_has yX2_has, Cond.initialized RX2, Cond.code yX2_has cX2_has 2 (some .boolean), Cond.fieldLink RX2 28 "SeatsRound$Keepers" "count" "I", Cond.methodLink RX11 251 yX8_countOdds, Cond.instanceMethod yX8_countOdds, Cond.selects RX8 yX8_countOdds yX8_countOdds, Cond.initialized RX8, Cond.code yX8_countOdds cX8_countOdds 3 none, Cond.fieldLink RX8 33 "SeatsRound$Table" "oddsCounted" "Z"]
def wsX11_share_r2 : List Cond := [Cond.fieldLink RX8 41 "SeatsRound$Table" "odds" "[I", Cond.methodLink RX8 102 yJ7_fill_53178, Cond.static yJ7_fill_53178, Cond.initialized RJ7, Cond.code yJ7_fill_53178 cJ7_fill_53178 4 none, Cond.methodLink RX8 105 yX8_firstFor, Cond.instanceMethod yX8_firstFor, Cond.selects RX8 yX8_firstFor yX8_firstFor, Cond.code yX8_firstFor cX8_firstFor 6 (some .int), Cond.fieldLink RX8 24 "SeatsRound$Table" "way" "I", Cond.fieldLink RX8 48 "SeatsRound$Table" "owner" "[B", Cond.fieldLink RX8 51 "SeatsRound$Table" "ahead" "[S", Cond.fieldLink RX8 9 "SeatsRound$Table" "members" "I", Cond.methodLink RX8 99 yX8_sumOf, Cond.instanceMethod yX8_sumOf, Cond.selects RX8 yX8_sumOf yX8_sumOf, Cond.code yX8_sumOf cX8_sumOf 3 (some .int), Cond.constant RX8 86 (104729), Cond.fieldLink RX8 15 "SeatsRound$Table" "turn" "I", Cond.fieldLink RX8 37 "SeatsRound$Table" "weight" "[I", Cond.static yX11_strewn, Cond.code yX11_strewn cX11_strewn 1 (some .int), Cond.constant RX11 423 (1103515245), Cond.methodLink RX11 127 yX4_placeOf]
def wsX11_share_r3 : List Cond := [Cond.instanceMethod yX4_placeOf, Cond.selects RX4 yX4_placeOf yX4_placeOf, Cond.initialized RX4, Cond.code yX4_placeOf cX4_placeOf 5 (some .int), Cond.fieldLink RX4 16 "SeatsRound$NameList" "size" "[I", Cond.fieldLink RX4 11 "SeatsRound$NameList" "bytes" "[[B", Cond.constant RX4 38 (16777619), Cond.methodLink RX11 257 yX8_firstFor]
def wsX11_share : List Cond := .code yX11_share cX11_share 7 (some .int) :: ((wsX11_share_r1 ++ (wsX11_share_r2 ++ wsX11_share_r3)) ++ wsX110 ++ wsX80 ++ wsX40 ++ wsX20)
def wsX11_moves_r1 : List Cond := [Cond.fieldLink RX11 19 "SeatsRound" "nameList" "LSeatsRound$NameList;", Cond.fieldLink RX11 117 "SeatsRound$NameList" "count" "I", Cond.fieldLink RX11 42 "SeatsRound" "choice" "LSeatsRound$Choice;", Cond.fieldLink RX11 231 "SeatsRound$Table" "turn" "I", Cond.fieldLink RX11 264 "SeatsRound$Choice" "chosenBits" "I", Cond.methodLink RX11 192 yX11_tableAt, Cond.instanceMethod yX11_tableAt, Cond.selects RX11 yX11_tableAt yX11_tableAt, Cond.initialized RX11, Cond.code yX11_tableAt cX11_tableAt 2 (some (.object "SeatsRound$Table")), Cond.fieldLink RX11 52 "SeatsRound" "tableCount" "I", Cond.fieldLink RX11 48 "SeatsRound" "tables" "[LSeatsRound$Table;", Cond.methodLink RX11 260 yX8_alikeIn, Cond.instanceMethod yX8_alikeIn, Cond.selects RX8 yX8_alikeIn yX8_alikeIn, Cond.initialized RX8, Cond.code yX8_alikeIn cX8_alikeIn 4 (some .int), Cond.fieldLink RX8 9 "SeatsRound$Table" "members" "I", Cond.fieldLink RX8 37 "SeatsRound$Table" "weight" "[I", Cond.methodLink RX11 127 yX4_placeOf, Cond.instanceMethod yX4_placeOf, Cond.selects RX4 yX4_placeOf yX4_placeOf, Cond.initialized RX4, Cond.code yX4_placeOf cX4_placeOf 5 (some .int)]
def wsX11_moves_r2 : List Cond := [Cond.fieldLink RX4 16 "SeatsRound$NameList" "size" "[I", Cond.fieldLink RX4 11 "SeatsRound$NameList" "bytes" "[[B", Cond.constant RX4 38 (16777619), Cond.methodLink RX11 234 yX1_choose, Cond.instanceMethod yX1_choose, Cond.selects RX1 yX1_choose yX1_choose, Cond.initialized RX1, Cond.code yX1_choose cX1_choose 4 none, Cond.fieldLink RX1 22 "SeatsRound$Choice" "chosenCount" "I", Cond.fieldLink RX1 25 "SeatsRound$Choice" "chosenBits" "I", Cond.fieldLink RX1 28 "SeatsRound$Choice" "streetBits" "I", Cond.fieldLink RX1 18 "SeatsRound$Choice" "pickCount" "I", Cond.fieldLink RX1 92 "SeatsRound$Table" "copies" "I", Cond.fieldLink RX1 95 "SeatsRound$Table" "streets" "I", Cond.methodLink RX1 98 Lib.Math.min.name, Cond.static Lib.Math.min.name, Cond.initialized "java/lang/Math", Cond.code Lib.Math.min.name Lib.Math.min.code 2 (some .int), Cond.fieldLink RX1 37 "SeatsRound$Choice" "keepers" "LSeatsRound$Keepers;", Cond.fieldLink RX1 103 "SeatsRound$Keepers" "street" "[I", Cond.fieldLink RX1 9 "SeatsRound$Choice" "picks" "[I", Cond.methodLink RX1 89 yX1_pick, Cond.instanceMethod yX1_pick, Cond.selects RX1 yX1_pick yX1_pick]
def wsX11_moves_r3 : List Cond := [Cond.code yX1_pick cX1_pick 3 none, Cond.fieldLink RX1 31 "SeatsRound$Choice" "pickBits" "I", Cond.fieldLink RX1 41 "SeatsRound$Table" "way" "I", Cond.methodLink RX1 46 yX1_pickBySums, Cond.instanceMethod yX1_pickBySums, Cond.selects RX1 yX1_pickBySums yX1_pickBySums, Cond.code yX1_pickBySums cX1_pickBySums 7 none, Cond.fieldLink RX1 59 "SeatsRound$Table" "members" "I", Cond.fieldLink RX1 34 "SeatsRound$Choice" "sums" "[I", Cond.methodLink RX1 85 yX8_sumOf, Cond.instanceMethod yX8_sumOf, Cond.selects RX8 yX8_sumOf yX8_sumOf, Cond.code yX8_sumOf cX8_sumOf 3 (some .int), Cond.constant RX8 86 (104729), Cond.fieldLink RX8 15 "SeatsRound$Table" "turn" "I", Cond.static yX11_strewn, Cond.code yX11_strewn cX11_strewn 1 (some .int), Cond.constant RX11 423 (1103515245), Cond.methodLink RX1 50 yX1_pickByJumps, Cond.instanceMethod yX1_pickByJumps, Cond.selects RX1 yX1_pickByJumps yX1_pickByJumps, Cond.code yX1_pickByJumps cX1_pickByJumps 4 none, Cond.methodLink RX1 82 yX1_pickFirstFrom, Cond.instanceMethod yX1_pickFirstFrom]
def wsX11_moves_r4 : List Cond := [Cond.selects RX1 yX1_pickFirstFrom yX1_pickFirstFrom, Cond.code yX1_pickFirstFrom cX1_pickFirstFrom 5 none, Cond.fieldLink RX1 56 "SeatsRound$Table" "seats" "I", Cond.fieldLink RX1 62 "SeatsRound$Table" "ahead" "[S", Cond.fieldLink RX1 66 "SeatsRound$Table" "owner" "[B", Cond.methodLink RX1 70 yX1_isPicked, Cond.instanceMethod yX1_isPicked, Cond.selects RX1 yX1_isPicked yX1_isPicked, Cond.code yX1_isPicked cX1_isPicked 2 (some .boolean), Cond.methodLink RX1 74 yX1_takePick, Cond.instanceMethod yX1_takePick, Cond.selects RX1 yX1_takePick yX1_takePick, Cond.code yX1_takePick cX1_takePick 2 none, Cond.static yX11_placeBehind, Cond.code yX11_placeBehind cX11_placeBehind 1 (some .int), Cond.methodLink RX1 53 yX1_pickRound, Cond.instanceMethod yX1_pickRound, Cond.selects RX1 yX1_pickRound yX1_pickRound, Cond.code yX1_pickRound cX1_pickRound 5 none, Cond.methodLink RX1 108 yX1_takeChosen, Cond.instanceMethod yX1_takeChosen, Cond.selects RX1 yX1_takeChosen yX1_takeChosen, Cond.code yX1_takeChosen cX1_takeChosen 2 none, Cond.fieldLink RX1 15 "SeatsRound$Choice" "chosen" "[I"]
def wsX11_moves_r5 : List Cond := [Cond.methodLink RX1 111 yX1_isChosen, Cond.instanceMethod yX1_isChosen, Cond.selects RX1 yX1_isChosen yX1_isChosen, Cond.code yX1_isChosen cX1_isChosen 2 (some .boolean), Cond.methodLink RX11 246 yJ6_bitCount_0f7a4, Cond.static yJ6_bitCount_0f7a4, Cond.initialized RJ6, Cond.code yJ6_bitCount_0f7a4 cJ6_bitCount_0f7a4 1 (some .int), Cond.constant RJ6 265 (1431655765), Cond.constant RJ6 266 (858993459), Cond.constant RJ6 267 (252645135)]
def wsX11_moves : List Cond := .code yX11_moves cX11_moves 11 (some .int) :: ((wsX11_moves_r1 ++ (wsX11_moves_r2 ++ (wsX11_moves_r3 ++ (wsX11_moves_r4 ++ wsX11_moves_r5)))) ++ wsX110 ++ wsX40 ++ wsX80 ++ wsX10 ++ wsX20)
def wsX11_knows : List Cond := .code yX11_knows cX11_knows 4 (some .int) :: ([.fieldLink RX11 26 "SeatsRound" "keepers" "LSeatsRound$Keepers;", .fieldLink RX11 52 "SeatsRound" "tableCount" "I", .constant RX11 152 (-2000000000), .fieldLink RX11 160 "SeatsRound$Keepers" "table" "[I", .methodLink RX11 137 yX2_has, .instanceMethod yX2_has, .selects RX2 yX2_has yX2_has, .initialized RX2, .code yX2_has cX2_has 2 (some .boolean), .fieldLink RX2 28 "SeatsRound$Keepers" "count" "I"] ++ wsX110 ++ wsX20)
def wsX11_write_r1 : List Cond := [Cond.fieldLink RX11 26 "SeatsRound" "keepers" "LSeatsRound$Keepers;", Cond.fieldLink RX11 19 "SeatsRound" "nameList" "LSeatsRound$NameList;", Cond.fieldLink RX11 160 "SeatsRound$Keepers" "table" "[I", Cond.fieldLink RX11 66 "SeatsRound" "parcels" "LSeatsRound$Parcels;", Cond.methodLink RX11 137 yX2_has, Cond.instanceMethod yX2_has, Cond.selects RX2 yX2_has yX2_has, Cond.initialized RX2, Cond.code yX2_has cX2_has 2 (some .boolean), Cond.fieldLink RX2 28 "SeatsRound$Keepers" "count" "I", Cond.methodLink RX11 123 yX4_has, Cond.instanceMethod yX4_has, Cond.selects RX4 yX4_has yX4_has, Cond.initialized RX4, Cond.code yX4_has cX4_has 2 (some .boolean), Cond.fieldLink RX4 24 "SeatsRound$NameList" "count" "I", Cond.methodLink RX11 192 yX11_tableAt, Cond.instanceMethod yX11_tableAt, Cond.selects RX11 yX11_tableAt yX11_tableAt, Cond.initialized RX11, Cond.code yX11_tableAt cX11_tableAt 2 (some (.object "SeatsRound$Table")), Cond.fieldLink RX11 52 "SeatsRound" "tableCount" "I", Cond.fieldLink RX11 48 "SeatsRound" "tables" "[LSeatsRound$Table;", Cond.methodLink RX11 267 yX2_isUp]
def wsX11_write_r2 : List Cond := [Cond.instanceMethod yX2_isUp, Cond.selects RX2 yX2_isUp yX2_isUp, Cond.code yX2_isUp cX2_isUp 2 (some .boolean), Cond.fieldLink RX2 24 "SeatsRound$Keepers" "fallen" "[Z", Cond.fieldLink RX2 9 "SeatsRound$Keepers" "kind" "[I", Cond.methodLink RX11 270 yX6_spread, Cond.instanceMethod yX6_spread, Cond.selects RX6 yX6_spread yX6_spread, Cond.initialized RX6, Cond.code yX6_spread cX6_spread 5 (some .int), Cond.fieldLink RX6 38 "SeatsRound$Parcels" "writings" "I", Cond.fieldLink RX6 28 "SeatsRound$Parcels" "latest" "[I", Cond.fieldLink RX6 50 "SeatsRound$Parcels" "choice" "LSeatsRound$Choice;", Cond.fieldLink RX6 46 "SeatsRound$Parcels" "nameList" "LSeatsRound$NameList;", Cond.fieldLink RX6 54 "SeatsRound$Table" "turn" "I", Cond.fieldLink RX6 71 "SeatsRound$Choice" "chosenCount" "I", Cond.fieldLink RX6 74 "SeatsRound$Choice" "chosen" "[I", Cond.methodLink RX6 59 yX4_placeOf, Cond.instanceMethod yX4_placeOf, Cond.selects RX4 yX4_placeOf yX4_placeOf, Cond.code yX4_placeOf cX4_placeOf 5 (some .int), Cond.fieldLink RX4 16 "SeatsRound$NameList" "size" "[I", Cond.fieldLink RX4 11 "SeatsRound$NameList" "bytes" "[[B", Cond.constant RX4 38 (16777619)]
def wsX11_write_r3 : List Cond := [Cond.methodLink RX6 65 yX1_choose, Cond.instanceMethod yX1_choose, Cond.selects RX1 yX1_choose yX1_choose, Cond.initialized RX1, Cond.code yX1_choose cX1_choose 4 none, Cond.fieldLink RX1 22 "SeatsRound$Choice" "chosenCount" "I", Cond.fieldLink RX1 25 "SeatsRound$Choice" "chosenBits" "I", Cond.fieldLink RX1 28 "SeatsRound$Choice" "streetBits" "I", Cond.fieldLink RX1 18 "SeatsRound$Choice" "pickCount" "I", Cond.fieldLink RX1 92 "SeatsRound$Table" "copies" "I", Cond.fieldLink RX1 95 "SeatsRound$Table" "streets" "I", Cond.methodLink RX1 98 Lib.Math.min.name, Cond.static Lib.Math.min.name, Cond.initialized "java/lang/Math", Cond.code Lib.Math.min.name Lib.Math.min.code 2 (some .int), Cond.fieldLink RX1 37 "SeatsRound$Choice" "keepers" "LSeatsRound$Keepers;", Cond.fieldLink RX1 103 "SeatsRound$Keepers" "street" "[I", Cond.fieldLink RX1 9 "SeatsRound$Choice" "picks" "[I", Cond.methodLink RX1 89 yX1_pick, Cond.instanceMethod yX1_pick, Cond.selects RX1 yX1_pick yX1_pick, Cond.code yX1_pick cX1_pick 3 none, Cond.fieldLink RX1 31 "SeatsRound$Choice" "pickBits" "I", Cond.fieldLink RX1 41 "SeatsRound$Table" "way" "I"]
def wsX11_write_r4 : List Cond := [Cond.methodLink RX1 46 yX1_pickBySums, Cond.instanceMethod yX1_pickBySums, Cond.selects RX1 yX1_pickBySums yX1_pickBySums, Cond.code yX1_pickBySums cX1_pickBySums 7 none, Cond.fieldLink RX1 59 "SeatsRound$Table" "members" "I", Cond.fieldLink RX1 34 "SeatsRound$Choice" "sums" "[I", Cond.methodLink RX1 85 yX8_sumOf, Cond.instanceMethod yX8_sumOf, Cond.selects RX8 yX8_sumOf yX8_sumOf, Cond.initialized RX8, Cond.code yX8_sumOf cX8_sumOf 3 (some .int), Cond.constant RX8 86 (104729), Cond.fieldLink RX8 15 "SeatsRound$Table" "turn" "I", Cond.fieldLink RX8 37 "SeatsRound$Table" "weight" "[I", Cond.static yX11_strewn, Cond.code yX11_strewn cX11_strewn 1 (some .int), Cond.constant RX11 423 (1103515245), Cond.methodLink RX1 50 yX1_pickByJumps, Cond.instanceMethod yX1_pickByJumps, Cond.selects RX1 yX1_pickByJumps yX1_pickByJumps, Cond.code yX1_pickByJumps cX1_pickByJumps 4 none, Cond.methodLink RX1 82 yX1_pickFirstFrom, Cond.instanceMethod yX1_pickFirstFrom, Cond.selects RX1 yX1_pickFirstFrom yX1_pickFirstFrom]
def wsX11_write_r5 : List Cond := [Cond.code yX1_pickFirstFrom cX1_pickFirstFrom 5 none, Cond.fieldLink RX1 56 "SeatsRound$Table" "seats" "I", Cond.fieldLink RX1 62 "SeatsRound$Table" "ahead" "[S", Cond.fieldLink RX1 66 "SeatsRound$Table" "owner" "[B", Cond.methodLink RX1 70 yX1_isPicked, Cond.instanceMethod yX1_isPicked, Cond.selects RX1 yX1_isPicked yX1_isPicked, Cond.code yX1_isPicked cX1_isPicked 2 (some .boolean), Cond.methodLink RX1 74 yX1_takePick, Cond.instanceMethod yX1_takePick, Cond.selects RX1 yX1_takePick yX1_takePick, Cond.code yX1_takePick cX1_takePick 2 none, Cond.static yX11_placeBehind, Cond.code yX11_placeBehind cX11_placeBehind 1 (some .int), Cond.methodLink RX1 53 yX1_pickRound, Cond.instanceMethod yX1_pickRound, Cond.selects RX1 yX1_pickRound yX1_pickRound, Cond.code yX1_pickRound cX1_pickRound 5 none, Cond.methodLink RX1 108 yX1_takeChosen, Cond.instanceMethod yX1_takeChosen, Cond.selects RX1 yX1_takeChosen yX1_takeChosen, Cond.code yX1_takeChosen cX1_takeChosen 2 none, Cond.fieldLink RX1 15 "SeatsRound$Choice" "chosen" "[I", Cond.methodLink RX1 111 yX1_isChosen]
def wsX11_write_r6 : List Cond := [Cond.instanceMethod yX1_isChosen, Cond.selects RX1 yX1_isChosen yX1_isChosen, Cond.code yX1_isChosen cX1_isChosen 2 (some .boolean), Cond.methodLink RX6 77 yX6_reaches, Cond.instanceMethod yX6_reaches, Cond.selects RX6 yX6_reaches yX6_reaches, Cond.code yX6_reaches cX6_reaches 3 (some .boolean), Cond.fieldLink RX6 42 "SeatsRound$Parcels" "keepers" "LSeatsRound$Keepers;", Cond.fieldLink RX6 81 "SeatsRound$Keepers" "fallen" "[Z", Cond.fieldLink RX6 87 "SeatsRound$Keepers" "kind" "[I", Cond.methodLink RX6 90 yX6_isKeptFor, Cond.instanceMethod yX6_isKeptFor, Cond.selects RX6 yX6_isKeptFor yX6_isKeptFor, Cond.code yX6_isKeptFor cX6_isKeptFor 5 (some .boolean), Cond.fieldLink RX6 107 "SeatsRound$Choice" "pickCount" "I", Cond.fieldLink RX6 110 "SeatsRound$Choice" "picks" "[I", Cond.fieldLink RX6 16 "SeatsRound$Parcels" "kept" "[[I", Cond.fieldLink RX6 19 "SeatsRound$Parcels" "keptFor" "[[I", Cond.methodLink RX6 113 yX1_isChosen, Cond.methodLink RX6 117 yX2_isUp, Cond.methodLink RX6 93 yX6_receives, Cond.instanceMethod yX6_receives, Cond.selects RX6 yX6_receives yX6_receives, Cond.code yX6_receives cX6_receives 4 (some .boolean)]
def wsX11_write_r7 : List Cond := [Cond.methodLink RX6 97 yX6_hasRoom, Cond.instanceMethod yX6_hasRoom, Cond.selects RX6 yX6_hasRoom yX6_hasRoom, Cond.code yX6_hasRoom cX6_hasRoom 3 (some .boolean), Cond.fieldLink RX6 11 "SeatsRound$Parcels" "version" "[[I", Cond.methodLink RX6 103 yX6_copiesOn, Cond.instanceMethod yX6_copiesOn, Cond.selects RX6 yX6_copiesOn yX6_copiesOn, Cond.code yX6_copiesOn cX6_copiesOn 2 (some .int), Cond.methodLink RX6 141 yX6_filled, Cond.static yX6_filled, Cond.code yX6_filled cX6_filled 6 (some .int), Cond.methodLink RX6 100 yX6_takesGreater, Cond.instanceMethod yX6_takesGreater, Cond.selects RX6 yX6_takesGreater yX6_takesGreater, Cond.code yX6_takesGreater cX6_takesGreater 4 (some .boolean)]
def wsX11_write : List Cond := .code yX11_write cX11_write 4 (some .int) :: ((wsX11_write_r1 ++ (wsX11_write_r2 ++ (wsX11_write_r3 ++ (wsX11_write_r4 ++ (wsX11_write_r5 ++ (wsX11_write_r6 ++ wsX11_write_r7)))))) ++ wsX110 ++ wsX20 ++ wsX40 ++ wsX60 ++ wsX80 ++ wsX10)
def wsX11_read_r1 : List Cond := [Cond.fieldLink RX11 26 "SeatsRound" "keepers" "LSeatsRound$Keepers;", Cond.fieldLink RX11 19 "SeatsRound" "nameList" "LSeatsRound$NameList;", Cond.fieldLink RX11 160 "SeatsRound$Keepers" "table" "[I", Cond.fieldLink RX11 66 "SeatsRound" "parcels" "LSeatsRound$Parcels;", Cond.methodLink RX11 137 yX2_has, Cond.instanceMethod yX2_has, Cond.selects RX2 yX2_has yX2_has, Cond.initialized RX2, Cond.code yX2_has cX2_has 2 (some .boolean), Cond.fieldLink RX2 28 "SeatsRound$Keepers" "count" "I", Cond.methodLink RX11 123 yX4_has, Cond.instanceMethod yX4_has, Cond.selects RX4 yX4_has yX4_has, Cond.initialized RX4, Cond.code yX4_has cX4_has 2 (some .boolean), Cond.fieldLink RX4 24 "SeatsRound$NameList" "count" "I", Cond.methodLink RX11 192 yX11_tableAt, Cond.instanceMethod yX11_tableAt, Cond.selects RX11 yX11_tableAt yX11_tableAt, Cond.initialized RX11, Cond.code yX11_tableAt cX11_tableAt 2 (some (.object "SeatsRound$Table")), Cond.fieldLink RX11 52 "SeatsRound" "tableCount" "I", Cond.fieldLink RX11 48 "SeatsRound" "tables" "[LSeatsRound$Table;", Cond.methodLink RX11 267 yX2_isUp]
def wsX11_read_r2 : List Cond := [Cond.instanceMethod yX2_isUp, Cond.selects RX2 yX2_isUp yX2_isUp, Cond.code yX2_isUp cX2_isUp 2 (some .boolean), Cond.fieldLink RX2 24 "SeatsRound$Keepers" "fallen" "[Z", Cond.fieldLink RX2 9 "SeatsRound$Keepers" "kind" "[I", Cond.methodLink RX11 274 yX6_greatestFor, Cond.instanceMethod yX6_greatestFor, Cond.selects RX6 yX6_greatestFor yX6_greatestFor, Cond.initialized RX6, Cond.code yX6_greatestFor cX6_greatestFor 6 (some .int), Cond.fieldLink RX6 50 "SeatsRound$Parcels" "choice" "LSeatsRound$Choice;", Cond.fieldLink RX6 46 "SeatsRound$Parcels" "nameList" "LSeatsRound$NameList;", Cond.fieldLink RX6 54 "SeatsRound$Table" "turn" "I", Cond.fieldLink RX6 71 "SeatsRound$Choice" "chosenCount" "I", Cond.fieldLink RX6 74 "SeatsRound$Choice" "chosen" "[I", Cond.fieldLink RX6 42 "SeatsRound$Parcels" "keepers" "LSeatsRound$Keepers;", Cond.fieldLink RX6 11 "SeatsRound$Parcels" "version" "[[I", Cond.methodLink RX6 130 Lib.Math.max.name, Cond.static Lib.Math.max.name, Cond.initialized "java/lang/Math", Cond.code Lib.Math.max.name Lib.Math.max.code 2 (some .int), Cond.methodLink RX6 59 yX4_placeOf, Cond.instanceMethod yX4_placeOf, Cond.selects RX4 yX4_placeOf yX4_placeOf]
def wsX11_read_r3 : List Cond := [Cond.code yX4_placeOf cX4_placeOf 5 (some .int), Cond.fieldLink RX4 16 "SeatsRound$NameList" "size" "[I", Cond.fieldLink RX4 11 "SeatsRound$NameList" "bytes" "[[B", Cond.constant RX4 38 (16777619), Cond.methodLink RX6 65 yX1_choose, Cond.instanceMethod yX1_choose, Cond.selects RX1 yX1_choose yX1_choose, Cond.initialized RX1, Cond.code yX1_choose cX1_choose 4 none, Cond.fieldLink RX1 22 "SeatsRound$Choice" "chosenCount" "I", Cond.fieldLink RX1 25 "SeatsRound$Choice" "chosenBits" "I", Cond.fieldLink RX1 28 "SeatsRound$Choice" "streetBits" "I", Cond.fieldLink RX1 18 "SeatsRound$Choice" "pickCount" "I", Cond.fieldLink RX1 92 "SeatsRound$Table" "copies" "I", Cond.fieldLink RX1 95 "SeatsRound$Table" "streets" "I", Cond.methodLink RX1 98 Lib.Math.min.name, Cond.static Lib.Math.min.name, Cond.code Lib.Math.min.name Lib.Math.min.code 2 (some .int), Cond.fieldLink RX1 37 "SeatsRound$Choice" "keepers" "LSeatsRound$Keepers;", Cond.fieldLink RX1 103 "SeatsRound$Keepers" "street" "[I", Cond.fieldLink RX1 9 "SeatsRound$Choice" "picks" "[I", Cond.methodLink RX1 89 yX1_pick, Cond.instanceMethod yX1_pick, Cond.selects RX1 yX1_pick yX1_pick]
def wsX11_read_r4 : List Cond := [Cond.code yX1_pick cX1_pick 3 none, Cond.fieldLink RX1 31 "SeatsRound$Choice" "pickBits" "I", Cond.fieldLink RX1 41 "SeatsRound$Table" "way" "I", Cond.methodLink RX1 46 yX1_pickBySums, Cond.instanceMethod yX1_pickBySums, Cond.selects RX1 yX1_pickBySums yX1_pickBySums, Cond.code yX1_pickBySums cX1_pickBySums 7 none, Cond.fieldLink RX1 59 "SeatsRound$Table" "members" "I", Cond.fieldLink RX1 34 "SeatsRound$Choice" "sums" "[I", Cond.methodLink RX1 85 yX8_sumOf, Cond.instanceMethod yX8_sumOf, Cond.selects RX8 yX8_sumOf yX8_sumOf, Cond.initialized RX8, Cond.code yX8_sumOf cX8_sumOf 3 (some .int), Cond.constant RX8 86 (104729), Cond.fieldLink RX8 15 "SeatsRound$Table" "turn" "I", Cond.fieldLink RX8 37 "SeatsRound$Table" "weight" "[I", Cond.static yX11_strewn, Cond.code yX11_strewn cX11_strewn 1 (some .int), Cond.constant RX11 423 (1103515245), Cond.methodLink RX1 50 yX1_pickByJumps, Cond.instanceMethod yX1_pickByJumps, Cond.selects RX1 yX1_pickByJumps yX1_pickByJumps, Cond.code yX1_pickByJumps cX1_pickByJumps 4 none]
def wsX11_read_r5 : List Cond := [Cond.methodLink RX1 82 yX1_pickFirstFrom, Cond.instanceMethod yX1_pickFirstFrom, Cond.selects RX1 yX1_pickFirstFrom yX1_pickFirstFrom, Cond.code yX1_pickFirstFrom cX1_pickFirstFrom 5 none, Cond.fieldLink RX1 56 "SeatsRound$Table" "seats" "I", Cond.fieldLink RX1 62 "SeatsRound$Table" "ahead" "[S", Cond.fieldLink RX1 66 "SeatsRound$Table" "owner" "[B", Cond.methodLink RX1 70 yX1_isPicked, Cond.instanceMethod yX1_isPicked, Cond.selects RX1 yX1_isPicked yX1_isPicked, Cond.code yX1_isPicked cX1_isPicked 2 (some .boolean), Cond.methodLink RX1 74 yX1_takePick, Cond.instanceMethod yX1_takePick, Cond.selects RX1 yX1_takePick yX1_takePick, Cond.code yX1_takePick cX1_takePick 2 none, Cond.static yX11_placeBehind, Cond.code yX11_placeBehind cX11_placeBehind 1 (some .int), Cond.methodLink RX1 53 yX1_pickRound, Cond.instanceMethod yX1_pickRound, Cond.selects RX1 yX1_pickRound yX1_pickRound, Cond.code yX1_pickRound cX1_pickRound 5 none, Cond.methodLink RX1 108 yX1_takeChosen, Cond.instanceMethod yX1_takeChosen, Cond.selects RX1 yX1_takeChosen yX1_takeChosen]
def wsX11_read_r6 : List Cond := [Cond.code yX1_takeChosen cX1_takeChosen 2 none, Cond.fieldLink RX1 15 "SeatsRound$Choice" "chosen" "[I", Cond.methodLink RX1 111 yX1_isChosen, Cond.instanceMethod yX1_isChosen, Cond.selects RX1 yX1_isChosen yX1_isChosen, Cond.code yX1_isChosen cX1_isChosen 2 (some .boolean), Cond.methodLink RX6 117 yX2_isUp]
def wsX11_read : List Cond := .code yX11_read cX11_read 4 (some .int) :: ((wsX11_read_r1 ++ (wsX11_read_r2 ++ (wsX11_read_r3 ++ (wsX11_read_r4 ++ (wsX11_read_r5 ++ wsX11_read_r6))))) ++ wsX110 ++ wsX20 ++ wsX40 ++ wsX60 ++ wsX80 ++ wsX10)
def wsX11_onShelf : List Cond := .code yX11_onShelf cX11_onShelf 4 (some .int) :: ([.fieldLink RX11 26 "SeatsRound" "keepers" "LSeatsRound$Keepers;", .fieldLink RX11 19 "SeatsRound" "nameList" "LSeatsRound$NameList;", .fieldLink RX11 66 "SeatsRound" "parcels" "LSeatsRound$Parcels;", .fieldLink RX11 277 "SeatsRound$Parcels" "version" "[[I", .fieldLink RX11 281 "SeatsRound$Parcels" "kept" "[[I", .fieldLink RX11 284 "SeatsRound$Parcels" "keptFor" "[[I", .fieldLink RX11 287 "SeatsRound$Parcels" "pieces" "[[I", .methodLink RX11 137 yX2_has, .instanceMethod yX2_has, .selects RX2 yX2_has yX2_has, .initialized RX2, .code yX2_has cX2_has 2 (some .boolean), .fieldLink RX2 28 "SeatsRound$Keepers" "count" "I", .methodLink RX11 123 yX4_has, .instanceMethod yX4_has, .selects RX4 yX4_has yX4_has, .initialized RX4, .code yX4_has cX4_has 2 (some .boolean), .fieldLink RX4 24 "SeatsRound$NameList" "count" "I"] ++ wsX110 ++ wsX60 ++ wsX20 ++ wsX40)
def wsX11_fall : List Cond := .code yX11_fall cX11_fall 4 (some .int) :: ([.fieldLink RX11 26 "SeatsRound" "keepers" "LSeatsRound$Keepers;", .fieldLink RX11 169 "SeatsRound$Keepers" "fallen" "[Z", .fieldLink RX11 66 "SeatsRound" "parcels" "LSeatsRound$Parcels;", .methodLink RX11 137 yX2_has, .instanceMethod yX2_has, .selects RX2 yX2_has yX2_has, .initialized RX2, .code yX2_has cX2_has 2 (some .boolean), .fieldLink RX2 28 "SeatsRound$Keepers" "count" "I", .methodLink RX11 290 yX6_empty, .instanceMethod yX6_empty, .selects RX6 yX6_empty yX6_empty, .initialized RX6, .code yX6_empty cX6_empty 2 none, .fieldLink RX6 11 "SeatsRound$Parcels" "version" "[[I", .fieldLink RX6 16 "SeatsRound$Parcels" "kept" "[[I", .methodLink RX6 124 yJ7_fill_53178, .static yJ7_fill_53178, .initialized RJ7, .code yJ7_fill_53178 cJ7_fill_53178 4 none] ++ wsX110 ++ wsX20 ++ wsX60)
def wsX11_half_r1 : List Cond := [Cond.fieldLink RX11 19 "SeatsRound" "nameList" "LSeatsRound$NameList;", Cond.fieldLink RX11 26 "SeatsRound" "keepers" "LSeatsRound$Keepers;", Cond.fieldLink RX11 66 "SeatsRound" "parcels" "LSeatsRound$Parcels;", Cond.fieldLink RX11 277 "SeatsRound$Parcels" "version" "[[I", Cond.methodLink RX11 123 yX4_has, Cond.instanceMethod yX4_has, Cond.selects RX4 yX4_has yX4_has, Cond.initialized RX4, Cond.code yX4_has cX4_has 2 (some .boolean), Cond.fieldLink RX4 24 "SeatsRound$NameList" "count" "I", Cond.methodLink RX11 137 yX2_has, Cond.instanceMethod yX2_has, Cond.selects RX2 yX2_has yX2_has, Cond.initialized RX2, Cond.code yX2_has cX2_has 2 (some .boolean), Cond.fieldLink RX2 28 "SeatsRound$Keepers" "count" "I", Cond.methodLink RX11 293 yX6_movePiece, Cond.instanceMethod yX6_movePiece, Cond.selects RX6 yX6_movePiece yX6_movePiece, Cond.initialized RX6, Cond.code yX6_movePiece cX6_movePiece 4 (some .int), Cond.fieldLink RX6 42 "SeatsRound$Parcels" "keepers" "LSeatsRound$Keepers;", Cond.fieldLink RX6 22 "SeatsRound$Parcels" "pieces" "[[I", Cond.fieldLink RX6 25 "SeatsRound$Parcels" "pieceTo" "[[I"]
def wsX11_half_r2 : List Cond := [Cond.fieldLink RX6 11 "SeatsRound$Parcels" "version" "[[I", Cond.methodLink RX6 117 yX2_isUp, Cond.instanceMethod yX2_isUp, Cond.selects RX2 yX2_isUp yX2_isUp, Cond.code yX2_isUp cX2_isUp 2 (some .boolean), Cond.fieldLink RX2 24 "SeatsRound$Keepers" "fallen" "[Z", Cond.fieldLink RX2 9 "SeatsRound$Keepers" "kind" "[I", Cond.methodLink RX6 100 yX6_takesGreater, Cond.instanceMethod yX6_takesGreater, Cond.selects RX6 yX6_takesGreater yX6_takesGreater, Cond.code yX6_takesGreater cX6_takesGreater 4 (some .boolean)]
def wsX11_half : List Cond := .code yX11_half cX11_half 4 (some .int) :: ((wsX11_half_r1 ++ wsX11_half_r2) ++ wsX110 ++ wsX60 ++ wsX40 ++ wsX20)
def wsX11_mend_r1 : List Cond := [Cond.fieldLink RX11 66 "SeatsRound" "parcels" "LSeatsRound$Parcels;", Cond.methodLink RX11 192 yX11_tableAt, Cond.instanceMethod yX11_tableAt, Cond.selects RX11 yX11_tableAt yX11_tableAt, Cond.initialized RX11, Cond.code yX11_tableAt cX11_tableAt 2 (some (.object "SeatsRound$Table")), Cond.fieldLink RX11 52 "SeatsRound" "tableCount" "I", Cond.fieldLink RX11 48 "SeatsRound" "tables" "[LSeatsRound$Table;", Cond.methodLink RX11 297 yX6_mendAll, Cond.instanceMethod yX6_mendAll, Cond.selects RX6 yX6_mendAll yX6_mendAll, Cond.initialized RX6, Cond.code yX6_mendAll cX6_mendAll 7 (some .int), Cond.fieldLink RX6 46 "SeatsRound$Parcels" "nameList" "LSeatsRound$NameList;", Cond.fieldLink RX6 123 "SeatsRound$NameList" "count" "I", Cond.fieldLink RX6 50 "SeatsRound$Parcels" "choice" "LSeatsRound$Choice;", Cond.fieldLink RX6 54 "SeatsRound$Table" "turn" "I", Cond.fieldLink RX6 71 "SeatsRound$Choice" "chosenCount" "I", Cond.fieldLink RX6 74 "SeatsRound$Choice" "chosen" "[I", Cond.fieldLink RX6 42 "SeatsRound$Parcels" "keepers" "LSeatsRound$Keepers;", Cond.methodLink RX6 135 yX6_greatestAnywhere, Cond.instanceMethod yX6_greatestAnywhere, Cond.selects RX6 yX6_greatestAnywhere yX6_greatestAnywhere, Cond.code yX6_greatestAnywhere cX6_greatestAnywhere 4 (some .int)]
def wsX11_mend_r2 : List Cond := [Cond.fieldLink RX6 120 "SeatsRound$Keepers" "count" "I", Cond.fieldLink RX6 81 "SeatsRound$Keepers" "fallen" "[Z", Cond.fieldLink RX6 11 "SeatsRound$Parcels" "version" "[[I", Cond.methodLink RX6 130 Lib.Math.max.name, Cond.static Lib.Math.max.name, Cond.initialized "java/lang/Math", Cond.code Lib.Math.max.name Lib.Math.max.code 2 (some .int), Cond.methodLink RX6 59 yX4_placeOf, Cond.instanceMethod yX4_placeOf, Cond.selects RX4 yX4_placeOf yX4_placeOf, Cond.initialized RX4, Cond.code yX4_placeOf cX4_placeOf 5 (some .int), Cond.fieldLink RX4 16 "SeatsRound$NameList" "size" "[I", Cond.fieldLink RX4 11 "SeatsRound$NameList" "bytes" "[[B", Cond.constant RX4 38 (16777619), Cond.methodLink RX6 65 yX1_choose, Cond.instanceMethod yX1_choose, Cond.selects RX1 yX1_choose yX1_choose, Cond.initialized RX1, Cond.code yX1_choose cX1_choose 4 none, Cond.fieldLink RX1 22 "SeatsRound$Choice" "chosenCount" "I", Cond.fieldLink RX1 25 "SeatsRound$Choice" "chosenBits" "I", Cond.fieldLink RX1 28 "SeatsRound$Choice" "streetBits" "I", Cond.fieldLink RX1 18 "SeatsRound$Choice" "pickCount" "I"]
def wsX11_mend_r3 : List Cond := [Cond.fieldLink RX1 92 "SeatsRound$Table" "copies" "I", Cond.fieldLink RX1 95 "SeatsRound$Table" "streets" "I", Cond.methodLink RX1 98 Lib.Math.min.name, Cond.static Lib.Math.min.name, Cond.code Lib.Math.min.name Lib.Math.min.code 2 (some .int), Cond.fieldLink RX1 37 "SeatsRound$Choice" "keepers" "LSeatsRound$Keepers;", Cond.fieldLink RX1 103 "SeatsRound$Keepers" "street" "[I", Cond.fieldLink RX1 9 "SeatsRound$Choice" "picks" "[I", Cond.methodLink RX1 89 yX1_pick, Cond.instanceMethod yX1_pick, Cond.selects RX1 yX1_pick yX1_pick, Cond.code yX1_pick cX1_pick 3 none, Cond.fieldLink RX1 31 "SeatsRound$Choice" "pickBits" "I", Cond.fieldLink RX1 41 "SeatsRound$Table" "way" "I", Cond.methodLink RX1 46 yX1_pickBySums, Cond.instanceMethod yX1_pickBySums, Cond.selects RX1 yX1_pickBySums yX1_pickBySums, Cond.code yX1_pickBySums cX1_pickBySums 7 none, Cond.fieldLink RX1 59 "SeatsRound$Table" "members" "I", Cond.fieldLink RX1 34 "SeatsRound$Choice" "sums" "[I", Cond.methodLink RX1 85 yX8_sumOf, Cond.instanceMethod yX8_sumOf, Cond.selects RX8 yX8_sumOf yX8_sumOf, Cond.initialized RX8]
def wsX11_mend_r4 : List Cond := [Cond.code yX8_sumOf cX8_sumOf 3 (some .int), Cond.constant RX8 86 (104729), Cond.fieldLink RX8 15 "SeatsRound$Table" "turn" "I", Cond.fieldLink RX8 37 "SeatsRound$Table" "weight" "[I", Cond.static yX11_strewn, Cond.code yX11_strewn cX11_strewn 1 (some .int), Cond.constant RX11 423 (1103515245), Cond.methodLink RX1 50 yX1_pickByJumps, Cond.instanceMethod yX1_pickByJumps, Cond.selects RX1 yX1_pickByJumps yX1_pickByJumps, Cond.code yX1_pickByJumps cX1_pickByJumps 4 none, Cond.methodLink RX1 82 yX1_pickFirstFrom, Cond.instanceMethod yX1_pickFirstFrom, Cond.selects RX1 yX1_pickFirstFrom yX1_pickFirstFrom, Cond.code yX1_pickFirstFrom cX1_pickFirstFrom 5 none, Cond.fieldLink RX1 56 "SeatsRound$Table" "seats" "I", Cond.fieldLink RX1 62 "SeatsRound$Table" "ahead" "[S", Cond.fieldLink RX1 66 "SeatsRound$Table" "owner" "[B", Cond.methodLink RX1 70 yX1_isPicked, Cond.instanceMethod yX1_isPicked, Cond.selects RX1 yX1_isPicked yX1_isPicked, Cond.code yX1_isPicked cX1_isPicked 2 (some .boolean), Cond.methodLink RX1 74 yX1_takePick, Cond.instanceMethod yX1_takePick]
def wsX11_mend_r5 : List Cond := [Cond.selects RX1 yX1_takePick yX1_takePick, Cond.code yX1_takePick cX1_takePick 2 none, Cond.static yX11_placeBehind, Cond.code yX11_placeBehind cX11_placeBehind 1 (some .int), Cond.methodLink RX1 53 yX1_pickRound, Cond.instanceMethod yX1_pickRound, Cond.selects RX1 yX1_pickRound yX1_pickRound, Cond.code yX1_pickRound cX1_pickRound 5 none, Cond.methodLink RX1 108 yX1_takeChosen, Cond.instanceMethod yX1_takeChosen, Cond.selects RX1 yX1_takeChosen yX1_takeChosen, Cond.code yX1_takeChosen cX1_takeChosen 2 none, Cond.fieldLink RX1 15 "SeatsRound$Choice" "chosen" "[I", Cond.methodLink RX1 111 yX1_isChosen, Cond.instanceMethod yX1_isChosen, Cond.selects RX1 yX1_isChosen yX1_isChosen, Cond.code yX1_isChosen cX1_isChosen 2 (some .boolean), Cond.methodLink RX6 117 yX2_isUp, Cond.instanceMethod yX2_isUp, Cond.selects RX2 yX2_isUp yX2_isUp, Cond.initialized RX2, Cond.code yX2_isUp cX2_isUp 2 (some .boolean), Cond.fieldLink RX2 24 "SeatsRound$Keepers" "fallen" "[Z", Cond.fieldLink RX2 9 "SeatsRound$Keepers" "kind" "[I"]
def wsX11_mend_r6 : List Cond := [Cond.methodLink RX6 93 yX6_receives, Cond.instanceMethod yX6_receives, Cond.selects RX6 yX6_receives yX6_receives, Cond.code yX6_receives cX6_receives 4 (some .boolean), Cond.methodLink RX6 97 yX6_hasRoom, Cond.instanceMethod yX6_hasRoom, Cond.selects RX6 yX6_hasRoom yX6_hasRoom, Cond.code yX6_hasRoom cX6_hasRoom 3 (some .boolean), Cond.fieldLink RX6 87 "SeatsRound$Keepers" "kind" "[I", Cond.methodLink RX6 103 yX6_copiesOn, Cond.instanceMethod yX6_copiesOn, Cond.selects RX6 yX6_copiesOn yX6_copiesOn, Cond.code yX6_copiesOn cX6_copiesOn 2 (some .int), Cond.methodLink RX6 141 yX6_filled, Cond.static yX6_filled, Cond.code yX6_filled cX6_filled 6 (some .int), Cond.methodLink RX6 100 yX6_takesGreater, Cond.instanceMethod yX6_takesGreater, Cond.selects RX6 yX6_takesGreater yX6_takesGreater, Cond.code yX6_takesGreater cX6_takesGreater 4 (some .boolean)]
def wsX11_mend : List Cond := .code yX11_mend cX11_mend 3 (some .int) :: ((wsX11_mend_r1 ++ (wsX11_mend_r2 ++ (wsX11_mend_r3 ++ (wsX11_mend_r4 ++ (wsX11_mend_r5 ++ wsX11_mend_r6))))) ++ wsX110 ++ wsX60 ++ wsX40 ++ wsX80 ++ wsX10 ++ wsX20)
def wsX11_trees_r1 : List Cond := [Cond.fieldLink RX11 26 "SeatsRound" "keepers" "LSeatsRound$Keepers;", Cond.fieldLink RX11 66 "SeatsRound" "parcels" "LSeatsRound$Parcels;", Cond.methodLink RX11 137 yX2_has, Cond.instanceMethod yX2_has, Cond.selects RX2 yX2_has yX2_has, Cond.initialized RX2, Cond.code yX2_has cX2_has 2 (some .boolean), Cond.fieldLink RX2 28 "SeatsRound$Keepers" "count" "I", Cond.methodLink RX11 300 yX6_compare, Cond.instanceMethod yX6_compare, Cond.selects RX6 yX6_compare yX6_compare, Cond.initialized RX6, Cond.code yX6_compare cX6_compare 3 none, Cond.fieldLink RX6 32 "SeatsRound$Parcels" "oneTree" "[I", Cond.fieldLink RX6 35 "SeatsRound$Parcels" "otherTree" "[I", Cond.methodLink RX6 138 yX6_grow, Cond.instanceMethod yX6_grow, Cond.selects RX6 yX6_grow yX6_grow, Cond.code yX6_grow cX6_grow 4 none, Cond.fieldLink RX6 46 "SeatsRound$Parcels" "nameList" "LSeatsRound$NameList;", Cond.fieldLink RX6 123 "SeatsRound$NameList" "count" "I", Cond.fieldLink RX6 11 "SeatsRound$Parcels" "version" "[[I", Cond.methodLink RX6 124 yJ7_fill_53178, Cond.static yJ7_fill_53178]
def wsX11_trees_r2 : List Cond := [Cond.initialized RJ7, Cond.code yJ7_fill_53178 cJ7_fill_53178 4 none, Cond.methodLink RX11 303 yX6_wordsAsked, Cond.instanceMethod yX6_wordsAsked, Cond.selects RX6 yX6_wordsAsked yX6_wordsAsked, Cond.code yX6_wordsAsked cX6_wordsAsked 4 (some .int), Cond.methodLink RX11 306 yX6_unlikeLeaves, Cond.instanceMethod yX6_unlikeLeaves, Cond.selects RX6 yX6_unlikeLeaves yX6_unlikeLeaves, Cond.code yX6_unlikeLeaves cX6_unlikeLeaves 3 (some .int)]
def wsX11_trees : List Cond := .code yX11_trees cX11_trees 4 (some .int) :: ((wsX11_trees_r1 ++ wsX11_trees_r2) ++ wsX110 ++ wsX20 ++ wsX60 ++ wsX40)
def wsX11_noon : List Cond := .code yX11_noon cX11_noon 7 (some .int) :: ([.fieldLink RX11 196 "SeatsRound$Table" "members" "I", .methodLink RX11 192 yX11_tableAt, .instanceMethod yX11_tableAt, .selects RX11 yX11_tableAt yX11_tableAt, .initialized RX11, .code yX11_tableAt cX11_tableAt 2 (some (.object "SeatsRound$Table")), .fieldLink RX11 52 "SeatsRound" "tableCount" "I", .fieldLink RX11 48 "SeatsRound" "tables" "[LSeatsRound$Table;", .methodLink RX11 246 yJ6_bitCount_0f7a4, .static yJ6_bitCount_0f7a4, .initialized RJ6, .code yJ6_bitCount_0f7a4 cJ6_bitCount_0f7a4 1 (some .int), .constant RJ6 265 (1431655765), .constant RJ6 266 (858993459), .constant RJ6 267 (252645135), .methodLink RX11 309 yX11_upward, .static yX11_upward, .code yX11_upward cX11_upward 2 (some .int)] ++ wsX80 ++ wsX110)
def wsX11_lies : List Cond := .code yX11_lies cX11_lies 7 (some .int) :: ([.fieldLink RX11 26 "SeatsRound" "keepers" "LSeatsRound$Keepers;", .fieldLink RX11 149 "SeatsRound$Keepers" "strength" "[I", .methodLink RX11 312 Lib.Math.max.name, .static Lib.Math.max.name, .initialized "java/lang/Math", .code Lib.Math.max.name Lib.Math.max.code 2 (some .int), .methodLink RX11 137 yX2_has, .instanceMethod yX2_has, .selects RX2 yX2_has yX2_has, .initialized RX2, .code yX2_has cX2_has 2 (some .boolean), .fieldLink RX2 28 "SeatsRound$Keepers" "count" "I", .methodLink RX11 309 yX11_upward, .static yX11_upward, .initialized RX11, .code yX11_upward cX11_upward 2 (some .int)] ++ wsX110 ++ wsX20)
def wsX11_comes : List Cond := .code yX11_comes cX11_comes 2 (some .int) :: ([.fieldLink RX11 26 "SeatsRound" "keepers" "LSeatsRound$Keepers;", .fieldLink RX11 75 "SeatsRound" "orders" "LSeatsRound$Orders;", .fieldLink RX11 320 "SeatsRound$Orders" "toldCount" "I", .fieldLink RX11 323 "SeatsRound$Orders" "told" "[I", .methodLink RX11 137 yX2_has, .instanceMethod yX2_has, .selects RX2 yX2_has yX2_has, .initialized RX2, .code yX2_has cX2_has 2 (some .boolean), .fieldLink RX2 28 "SeatsRound$Keepers" "count" "I", .methodLink RX11 317 yX5_isTold, .instanceMethod yX5_isTold, .selects RX5 yX5_isTold yX5_isTold, .initialized RX5, .code yX5_isTold cX5_isTold 3 (some .boolean), .fieldLink RX5 15 "SeatsRound$Orders" "toldCount" "I", .fieldLink RX5 9 "SeatsRound$Orders" "told" "[I"] ++ wsX110 ++ wsX50 ++ wsX20)
def wsX11_order_r1 : List Cond := [Cond.fieldLink RX11 75 "SeatsRound" "orders" "LSeatsRound$Orders;", Cond.fieldLink RX11 320 "SeatsRound$Orders" "toldCount" "I", Cond.fieldLink RX11 57 "SeatsRound" "draft" "LSeatsRound$Table;", Cond.methodLink RX11 192 yX11_tableAt, Cond.instanceMethod yX11_tableAt, Cond.selects RX11 yX11_tableAt yX11_tableAt, Cond.initialized RX11, Cond.code yX11_tableAt cX11_tableAt 2 (some (.object "SeatsRound$Table")), Cond.fieldLink RX11 52 "SeatsRound" "tableCount" "I", Cond.fieldLink RX11 48 "SeatsRound" "tables" "[LSeatsRound$Table;", Cond.methodLink RX11 326 yX5_leastFrom, Cond.instanceMethod yX5_leastFrom, Cond.selects RX5 yX5_leastFrom yX5_leastFrom, Cond.initialized RX5, Cond.code yX5_leastFrom cX5_leastFrom 5 (some .int), Cond.fieldLink RX5 15 "SeatsRound$Orders" "toldCount" "I", Cond.fieldLink RX5 30 "SeatsRound$Orders" "least" "[I", Cond.methodLink RX5 49 yX5_seatSet, Cond.instanceMethod yX5_seatSet, Cond.selects RX5 yX5_seatSet yX5_seatSet, Cond.code yX5_seatSet cX5_seatSet 6 (some .boolean), Cond.fieldLink RX5 9 "SeatsRound$Orders" "told" "[I", Cond.fieldLink RX5 67 "SeatsRound$Table" "members" "I", Cond.fieldLink RX5 70 "SeatsRound$Table" "weight" "[I"]
def wsX11_order_r2 : List Cond := [Cond.fieldLink RX5 33 "SeatsRound$Orders" "keepers" "LSeatsRound$Keepers;", Cond.fieldLink RX5 45 "SeatsRound$Orders" "law" "LSeatsRound$Law;", Cond.fieldLink RX5 84 "SeatsRound$Table" "turn" "I", Cond.fieldLink RX5 37 "SeatsRound$Orders" "nameList" "LSeatsRound$NameList;", Cond.fieldLink RX5 90 "SeatsRound$NameList" "count" "I", Cond.fieldLink RX5 41 "SeatsRound$Orders" "choice" "LSeatsRound$Choice;", Cond.fieldLink RX5 27 "SeatsRound$Orders" "holders" "[[I", Cond.fieldLink RX5 105 "SeatsRound$Choice" "chosenBits" "I", Cond.methodLink RX5 61 yX8_takeAll, Cond.instanceMethod yX8_takeAll, Cond.selects RX8 yX8_takeAll yX8_takeAll, Cond.initialized RX8, Cond.code yX8_takeAll cX8_takeAll 2 none, Cond.fieldLink RX8 9 "SeatsRound$Table" "members" "I", Cond.fieldLink RX8 37 "SeatsRound$Table" "weight" "[I", Cond.methodLink RX8 70 arraycopyName, Cond.native arraycopyName, Cond.static arraycopyName, Cond.initialized "java/lang/System", Cond.fieldLink RX8 44 "SeatsRound$Table" "law" "[B", Cond.fieldLink RX8 30 "SeatsRound$Table" "lawLength" "I", Cond.fieldLink RX8 18 "SeatsRound$Table" "copies" "I", Cond.fieldLink RX8 21 "SeatsRound$Table" "streets" "I", Cond.fieldLink RX8 24 "SeatsRound$Table" "way" "I"]
def wsX11_order_r3 : List Cond := [Cond.methodLink RX8 76 yX8_takeLaw, Cond.instanceMethod yX8_takeLaw, Cond.selects RX8 yX8_takeLaw yX8_takeLaw, Cond.code yX8_takeLaw cX8_takeLaw 3 none, Cond.methodLink RX8 61 Lib.Math.min.name, Cond.static Lib.Math.min.name, Cond.initialized "java/lang/Math", Cond.code Lib.Math.min.name Lib.Math.min.code 2 (some .int), Cond.methodLink RX8 67 Lib.Math.max.name, Cond.static Lib.Math.max.name, Cond.code Lib.Math.max.name Lib.Math.max.code 2 (some .int), Cond.methodLink RX5 73 yX2_counting, Cond.instanceMethod yX2_counting, Cond.selects RX2 yX2_counting yX2_counting, Cond.initialized RX2, Cond.code yX2_counting cX2_counting 3 (some .int), Cond.fieldLink RX2 9 "SeatsRound$Keepers" "kind" "[I", Cond.fieldLink RX2 18 "SeatsRound$Keepers" "strength" "[I", Cond.methodLink RX5 78 yX3_workOut, Cond.instanceMethod yX3_workOut, Cond.selects RX3 yX3_workOut yX3_workOut, Cond.initialized RX3, Cond.code yX3_workOut cX3_workOut 5 (some .int), Cond.fieldLink RX3 37 "SeatsRound$Table" "law" "[B"]
def wsX11_order_r4 : List Cond := [Cond.fieldLink RX3 9 "SeatsRound$Law" "text" "[B", Cond.fieldLink RX3 42 "SeatsRound$Table" "lawLength" "I", Cond.fieldLink RX3 15 "SeatsRound$Law" "length" "I", Cond.fieldLink RX3 19 "SeatsRound$Law" "at" "I", Cond.fieldLink RX3 22 "SeatsRound$Law" "fault" "I", Cond.fieldLink RX3 49 "SeatsRound$Table" "copies" "I", Cond.fieldLink RX3 52 "SeatsRound$Table" "streets" "I", Cond.fieldLink RX3 55 "SeatsRound$Table" "way" "I", Cond.methodLink RX3 45 yX3_look, Cond.instanceMethod yX3_look, Cond.selects RX3 yX3_look yX3_look, Cond.code yX3_look cX3_look 5 none, Cond.fieldLink RX3 66 "SeatsRound$Table" "members" "I", Cond.fieldLink RX3 25 "SeatsRound$Law" "members" "I", Cond.fieldLink RX3 31 "SeatsRound$Law" "weights" "I", Cond.fieldLink RX3 34 "SeatsRound$Law" "greatest" "I", Cond.fieldLink RX3 73 "SeatsRound$Keepers" "street" "[I", Cond.fieldLink RX3 79 "SeatsRound$Table" "weight" "[I", Cond.methodLink RX3 82 Lib.Math.max.name, Cond.fieldLink RX3 28 "SeatsRound$Law" "streetsIn" "I", Cond.methodLink RX3 67 yJ6_bitCount_0f7a4, Cond.static yJ6_bitCount_0f7a4, Cond.initialized RJ6, Cond.code yJ6_bitCount_0f7a4 cJ6_bitCount_0f7a4 1 (some .int)]
def wsX11_order_r5 : List Cond := [Cond.constant RJ6 265 (1431655765), Cond.constant RJ6 266 (858993459), Cond.constant RJ6 267 (252645135), Cond.methodLink RX3 58 yX3_readPart, Cond.instanceMethod yX3_readPart, Cond.selects RX3 yX3_readPart yX3_readPart, Cond.code yX3_readPart cX3_readPart 5 (some .int), Cond.methodLink RX3 62 yX3_sign, Cond.instanceMethod yX3_sign, Cond.selects RX3 yX3_sign yX3_sign, Cond.code yX3_sign cX3_sign 1 (some .int), Cond.methodLink RX3 88 yX3_readSum, Cond.instanceMethod yX3_readSum, Cond.selects RX3 yX3_readSum yX3_readSum, Cond.code yX3_readSum cX3_readSum 6 (some .int), Cond.methodLink RX3 100 yX3_readProduct, Cond.instanceMethod yX3_readProduct, Cond.selects RX3 yX3_readProduct yX3_readProduct, Cond.code yX3_readBracket cX3_readBracket 3 (some .int), Cond.code yX3_readOperand cX3_readOperand 4 (some .int), Cond.methodLink RX3 106 yX3_isDigit, Cond.static yX3_isDigit, Cond.code yX3_isDigit cX3_isDigit 1 (some .boolean), Cond.methodLink RX3 110 yX3_readNumber]
def wsX11_order_r6 : List Cond := [Cond.instanceMethod yX3_readNumber, Cond.selects RX3 yX3_readNumber yX3_readNumber, Cond.code yX3_readNumber cX3_readNumber 3 (some .int), Cond.methodLink RX3 113 yX3_readBracket, Cond.instanceMethod yX3_readBracket, Cond.selects RX3 yX3_readBracket yX3_readBracket, Cond.code yX3_readProduct cX3_readProduct 6 (some .int), Cond.methodLink RX3 103 yX3_readOperand, Cond.instanceMethod yX3_readOperand, Cond.selects RX3 yX3_readOperand yX3_readOperand, Cond.methodLink RX3 91 yX3_heldWithin, Cond.static yX3_heldWithin, Cond.code yX3_heldWithin cX3_heldWithin 1 (some .int), Cond.methodLink RX3 97 Lib.Math.min.name, Cond.methodLink RX3 94 yX3_readWay, Cond.instanceMethod yX3_readWay, Cond.selects RX3 yX3_readWay yX3_readWay, Cond.code yX3_readWay cX3_readWay 2 (some .int), Cond.methodLink RX5 87 yX8_seatAll, Cond.instanceMethod yX8_seatAll, Cond.selects RX8 yX8_seatAll yX8_seatAll, Cond.code yX8_seatAll cX8_seatAll 4 none, Cond.fieldLink RX8 15 "SeatsRound$Table" "turn" "I", Cond.fieldLink RX8 27 "SeatsRound$Table" "seats" "I"]
def wsX11_order_r7 : List Cond := [Cond.fieldLink RX8 33 "SeatsRound$Table" "oddsCounted" "Z", Cond.fieldLink RX8 48 "SeatsRound$Table" "owner" "[B", Cond.constant RX8 86 (104729), Cond.methodLink RX8 80 yJ7_fill_031fb, Cond.static yJ7_fill_031fb, Cond.initialized RJ7, Cond.code yJ7_fill_031fb cJ7_fill_031fb 4 none, Cond.static yX11_strewn, Cond.code yX11_strewn cX11_strewn 1 (some .int), Cond.constant RX11 423 (1103515245), Cond.methodLink RX8 90 yX8_freeFrom, Cond.instanceMethod yX8_freeFrom, Cond.selects RX8 yX8_freeFrom yX8_freeFrom, Cond.code yX8_freeFrom cX8_freeFrom 4 (some .int), Cond.static yX11_placeBehind, Cond.code yX11_placeBehind cX11_placeBehind 1 (some .int), Cond.methodLink RX8 93 yX8_linkPlaces, Cond.instanceMethod yX8_linkPlaces, Cond.selects RX8 yX8_linkPlaces yX8_linkPlaces, Cond.code yX8_linkPlaces cX8_linkPlaces 4 none, Cond.fieldLink RX8 51 "SeatsRound$Table" "ahead" "[S", Cond.methodLink RX5 95 yX4_placeOf, Cond.instanceMethod yX4_placeOf, Cond.selects RX4 yX4_placeOf yX4_placeOf]
def wsX11_order_r8 : List Cond := [Cond.initialized RX4, Cond.code yX4_placeOf cX4_placeOf 5 (some .int), Cond.fieldLink RX4 16 "SeatsRound$NameList" "size" "[I", Cond.fieldLink RX4 11 "SeatsRound$NameList" "bytes" "[[B", Cond.constant RX4 38 (16777619), Cond.methodLink RX5 99 yX1_choose, Cond.instanceMethod yX1_choose, Cond.selects RX1 yX1_choose yX1_choose, Cond.initialized RX1, Cond.code yX1_choose cX1_choose 4 none, Cond.fieldLink RX1 22 "SeatsRound$Choice" "chosenCount" "I", Cond.fieldLink RX1 25 "SeatsRound$Choice" "chosenBits" "I", Cond.fieldLink RX1 28 "SeatsRound$Choice" "streetBits" "I", Cond.fieldLink RX1 18 "SeatsRound$Choice" "pickCount" "I", Cond.fieldLink RX1 92 "SeatsRound$Table" "copies" "I", Cond.fieldLink RX1 95 "SeatsRound$Table" "streets" "I", Cond.methodLink RX1 98 Lib.Math.min.name, Cond.fieldLink RX1 37 "SeatsRound$Choice" "keepers" "LSeatsRound$Keepers;", Cond.fieldLink RX1 103 "SeatsRound$Keepers" "street" "[I", Cond.fieldLink RX1 9 "SeatsRound$Choice" "picks" "[I", Cond.methodLink RX1 89 yX1_pick, Cond.instanceMethod yX1_pick, Cond.selects RX1 yX1_pick yX1_pick, Cond.code yX1_pick cX1_pick 3 none]
def wsX11_order_r9 : List Cond := [Cond.fieldLink RX1 31 "SeatsRound$Choice" "pickBits" "I", Cond.fieldLink RX1 41 "SeatsRound$Table" "way" "I", Cond.methodLink RX1 46 yX1_pickBySums, Cond.instanceMethod yX1_pickBySums, Cond.selects RX1 yX1_pickBySums yX1_pickBySums, Cond.code yX1_pickBySums cX1_pickBySums 7 none, Cond.fieldLink RX1 59 "SeatsRound$Table" "members" "I", Cond.fieldLink RX1 34 "SeatsRound$Choice" "sums" "[I", Cond.methodLink RX1 85 yX8_sumOf, Cond.instanceMethod yX8_sumOf, Cond.selects RX8 yX8_sumOf yX8_sumOf, Cond.code yX8_sumOf cX8_sumOf 3 (some .int), Cond.methodLink RX1 50 yX1_pickByJumps, Cond.instanceMethod yX1_pickByJumps, Cond.selects RX1 yX1_pickByJumps yX1_pickByJumps, Cond.code yX1_pickByJumps cX1_pickByJumps 4 none, Cond.methodLink RX1 82 yX1_pickFirstFrom, Cond.instanceMethod yX1_pickFirstFrom, Cond.selects RX1 yX1_pickFirstFrom yX1_pickFirstFrom, Cond.code yX1_pickFirstFrom cX1_pickFirstFrom 5 none, Cond.fieldLink RX1 56 "SeatsRound$Table" "seats" "I", Cond.fieldLink RX1 62 "SeatsRound$Table" "ahead" "[S", Cond.fieldLink RX1 66 "SeatsRound$Table" "owner" "[B", Cond.methodLink RX1 70 yX1_isPicked]
def wsX11_order_r10 : List Cond := [Cond.instanceMethod yX1_isPicked, Cond.selects RX1 yX1_isPicked yX1_isPicked, Cond.code yX1_isPicked cX1_isPicked 2 (some .boolean), Cond.methodLink RX1 74 yX1_takePick, Cond.instanceMethod yX1_takePick, Cond.selects RX1 yX1_takePick yX1_takePick, Cond.code yX1_takePick cX1_takePick 2 none, Cond.methodLink RX1 53 yX1_pickRound, Cond.instanceMethod yX1_pickRound, Cond.selects RX1 yX1_pickRound yX1_pickRound, Cond.code yX1_pickRound cX1_pickRound 5 none, Cond.methodLink RX1 108 yX1_takeChosen, Cond.instanceMethod yX1_takeChosen, Cond.selects RX1 yX1_takeChosen yX1_takeChosen, Cond.code yX1_takeChosen cX1_takeChosen 2 none, Cond.fieldLink RX1 15 "SeatsRound$Choice" "chosen" "[I", Cond.methodLink RX1 111 yX1_isChosen, Cond.instanceMethod yX1_isChosen, Cond.selects RX1 yX1_isChosen yX1_isChosen, Cond.code yX1_isChosen cX1_isChosen 2 (some .boolean), Cond.methodLink RX5 53 yX5_leastOnward, Cond.instanceMethod yX5_leastOnward, Cond.selects RX5 yX5_leastOnward yX5_leastOnward, Cond.code yX5_leastOnward cX5_leastOnward 5 (some .int)]
def wsX11_order_r11 : List Cond := [Cond.methodLink RX5 108 yX5_sumOver, Cond.instanceMethod yX5_sumOver, Cond.selects RX5 yX5_sumOver yX5_sumOver, Cond.code yX5_sumOver cX5_sumOver 6 (some .int), Cond.methodLink RX5 111 yJ6_bitCount_0f7a4, Cond.methodLink RX5 57 yX5_walk, Cond.instanceMethod yX5_walk, Cond.selects RX5 yX5_walk yX5_walk, Cond.code yX5_walk cX5_walk 5 none, Cond.fieldLink RX5 22 "SeatsRound$Orders" "pathLength" "I", Cond.fieldLink RX5 19 "SeatsRound$Orders" "path" "[I", Cond.methodLink RX5 116 yX5_nextOf, Cond.instanceMethod yX5_nextOf, Cond.selects RX5 yX5_nextOf yX5_nextOf, Cond.code yX5_nextOf cX5_nextOf 3 (some .int)]
def wsX11_order : List Cond := .code yX11_order cX11_order 4 (some .int) :: ((wsX11_order_r1 ++ (wsX11_order_r2 ++ (wsX11_order_r3 ++ (wsX11_order_r4 ++ (wsX11_order_r5 ++ (wsX11_order_r6 ++ (wsX11_order_r7 ++ (wsX11_order_r8 ++ (wsX11_order_r9 ++ (wsX11_order_r10 ++ wsX11_order_r11)))))))))) ++ wsX110 ++ wsX50 ++ wsX80 ++ wsX40 ++ wsX10 ++ wsX20 ++ wsX30)
def wsX11_ordered : List Cond := .code yX11_ordered cX11_ordered 2 (some .int) :: ([.fieldLink RX11 75 "SeatsRound" "orders" "LSeatsRound$Orders;", .fieldLink RX11 330 "SeatsRound$Orders" "pathLength" "I", .fieldLink RX11 333 "SeatsRound$Orders" "path" "[I"] ++ wsX110 ++ wsX50)
def wsX11_turning : List Cond := .code yX11_turning cX11_turning 2 (some .int) :: ([.fieldLink RX11 84 "SeatsRound" "turnings" "LSeatsRound$Turnings;", .fieldLink RX11 336 "SeatsRound$Turnings" "count" "I", .fieldLink RX11 337 "SeatsRound$Turnings" "told" "[I"] ++ wsX110 ++ wsX100)
def wsX11_harm_r1 : List Cond := [Cond.fieldLink RX11 84 "SeatsRound" "turnings" "LSeatsRound$Turnings;", Cond.fieldLink RX11 336 "SeatsRound$Turnings" "count" "I", Cond.fieldLink RX11 57 "SeatsRound" "draft" "LSeatsRound$Table;", Cond.methodLink RX11 192 yX11_tableAt, Cond.instanceMethod yX11_tableAt, Cond.selects RX11 yX11_tableAt yX11_tableAt, Cond.initialized RX11, Cond.code yX11_tableAt cX11_tableAt 2 (some (.object "SeatsRound$Table")), Cond.fieldLink RX11 52 "SeatsRound" "tableCount" "I", Cond.fieldLink RX11 48 "SeatsRound" "tables" "[LSeatsRound$Table;", Cond.methodLink RX11 338 yX10_leastHarm, Cond.instanceMethod yX10_leastHarm, Cond.selects RX10 yX10_leastHarm yX10_leastHarm, Cond.initialized RX10, Cond.code yX10_leastHarm cX10_leastHarm 6 (some .int), Cond.fieldLink RX10 15 "SeatsRound$Turnings" "count" "I", Cond.fieldLink RX10 9 "SeatsRound$Turnings" "told" "[I", Cond.fieldLink RX10 19 "SeatsRound$Turnings" "greatest" "I", Cond.methodLink RX10 29 yX8_takeAll, Cond.instanceMethod yX8_takeAll, Cond.selects RX8 yX8_takeAll yX8_takeAll, Cond.initialized RX8, Cond.code yX8_takeAll cX8_takeAll 2 none, Cond.fieldLink RX8 9 "SeatsRound$Table" "members" "I"]
def wsX11_harm_r2 : List Cond := [Cond.fieldLink RX8 37 "SeatsRound$Table" "weight" "[I", Cond.methodLink RX8 70 arraycopyName, Cond.native arraycopyName, Cond.static arraycopyName, Cond.initialized "java/lang/System", Cond.fieldLink RX8 44 "SeatsRound$Table" "law" "[B", Cond.fieldLink RX8 30 "SeatsRound$Table" "lawLength" "I", Cond.fieldLink RX8 18 "SeatsRound$Table" "copies" "I", Cond.fieldLink RX8 21 "SeatsRound$Table" "streets" "I", Cond.fieldLink RX8 24 "SeatsRound$Table" "way" "I", Cond.methodLink RX8 76 yX8_takeLaw, Cond.instanceMethod yX8_takeLaw, Cond.selects RX8 yX8_takeLaw yX8_takeLaw, Cond.code yX8_takeLaw cX8_takeLaw 3 none, Cond.methodLink RX8 61 Lib.Math.min.name, Cond.static Lib.Math.min.name, Cond.initialized "java/lang/Math", Cond.code Lib.Math.min.name Lib.Math.min.code 2 (some .int), Cond.methodLink RX8 67 Lib.Math.max.name, Cond.static Lib.Math.max.name, Cond.code Lib.Math.max.name Lib.Math.max.code 2 (some .int), Cond.methodLink RX10 35 yX8_seatAll, Cond.instanceMethod yX8_seatAll, Cond.selects RX8 yX8_seatAll yX8_seatAll]
def wsX11_harm_r3 : List Cond := [Cond.code yX8_seatAll cX8_seatAll 4 none, Cond.fieldLink RX8 15 "SeatsRound$Table" "turn" "I", Cond.fieldLink RX8 27 "SeatsRound$Table" "seats" "I", Cond.fieldLink RX8 33 "SeatsRound$Table" "oddsCounted" "Z", Cond.fieldLink RX8 48 "SeatsRound$Table" "owner" "[B", Cond.constant RX8 86 (104729), Cond.methodLink RX8 80 yJ7_fill_031fb, Cond.static yJ7_fill_031fb, Cond.initialized RJ7, Cond.code yJ7_fill_031fb cJ7_fill_031fb 4 none, Cond.static yX11_strewn, Cond.code yX11_strewn cX11_strewn 1 (some .int), Cond.constant RX11 423 (1103515245), Cond.methodLink RX8 90 yX8_freeFrom, Cond.instanceMethod yX8_freeFrom, Cond.selects RX8 yX8_freeFrom yX8_freeFrom, Cond.code yX8_freeFrom cX8_freeFrom 4 (some .int), Cond.static yX11_placeBehind, Cond.code yX11_placeBehind cX11_placeBehind 1 (some .int), Cond.methodLink RX8 93 yX8_linkPlaces, Cond.instanceMethod yX8_linkPlaces, Cond.selects RX8 yX8_linkPlaces yX8_linkPlaces, Cond.code yX8_linkPlaces cX8_linkPlaces 4 none, Cond.fieldLink RX8 51 "SeatsRound$Table" "ahead" "[S"]
def wsX11_harm_r4 : List Cond := [Cond.methodLink RX10 39 yX10_greatestShare, Cond.instanceMethod yX10_greatestShare, Cond.selects RX10 yX10_greatestShare yX10_greatestShare, Cond.code yX10_greatestShare cX10_greatestShare 5 (some .int), Cond.fieldLink RX10 22 "SeatsRound$Turnings" "shares" "[I", Cond.fieldLink RX10 25 "SeatsRound$Turnings" "nameList" "LSeatsRound$NameList;", Cond.fieldLink RX10 49 "SeatsRound$NameList" "count" "I", Cond.fieldLink RX10 52 "SeatsRound$Table" "turn" "I", Cond.methodLink RX10 63 Lib.Math.max.name, Cond.methodLink RX10 43 yJ7_fill_53178, Cond.static yJ7_fill_53178, Cond.code yJ7_fill_53178 cJ7_fill_53178 4 none, Cond.methodLink RX10 55 yX4_placeOf, Cond.instanceMethod yX4_placeOf, Cond.selects RX4 yX4_placeOf yX4_placeOf, Cond.initialized RX4, Cond.code yX4_placeOf cX4_placeOf 5 (some .int), Cond.fieldLink RX4 16 "SeatsRound$NameList" "size" "[I", Cond.fieldLink RX4 11 "SeatsRound$NameList" "bytes" "[[B", Cond.constant RX4 38 (16777619), Cond.methodLink RX10 59 yX8_firstFor, Cond.instanceMethod yX8_firstFor, Cond.selects RX8 yX8_firstFor yX8_firstFor, Cond.code yX8_firstFor cX8_firstFor 6 (some .int)]
def wsX11_harm_r5 : List Cond := [Cond.methodLink RX8 99 yX8_sumOf, Cond.instanceMethod yX8_sumOf, Cond.selects RX8 yX8_sumOf yX8_sumOf, Cond.code yX8_sumOf cX8_sumOf 3 (some .int)]
def wsX11_harm : List Cond := .code yX11_harm cX11_harm 3 (some .int) :: ((wsX11_harm_r1 ++ (wsX11_harm_r2 ++ (wsX11_harm_r3 ++ (wsX11_harm_r4 ++ wsX11_harm_r5)))) ++ wsX110 ++ wsX100 ++ wsX80 ++ wsX40)
def wsX11_harmed : List Cond := .code yX11_harmed cX11_harmed 1 (some .int) :: ([.fieldLink RX11 84 "SeatsRound" "turnings" "LSeatsRound$Turnings;", .fieldLink RX11 341 "SeatsRound$Turnings" "greatest" "I"] ++ wsX110 ++ wsX100)
def wsX11_act_r1 : List Cond := [Cond.fieldLink RX11 91 "SeatsRound" "acts" "LSeatsRound$Acts;", Cond.fieldLink RX11 344 "SeatsRound$Acts" "ran" "I", Cond.fieldLink RX11 26 "SeatsRound" "keepers" "LSeatsRound$Keepers;", Cond.fieldLink RX11 149 "SeatsRound$Keepers" "strength" "[I", Cond.fieldLink RX11 141 "SeatsRound$Keepers" "kind" "[I", Cond.methodLink RX11 137 yX2_has, Cond.instanceMethod yX2_has, Cond.selects RX2 yX2_has yX2_has, Cond.initialized RX2, Cond.code yX2_has cX2_has 2 (some .boolean), Cond.fieldLink RX2 28 "SeatsRound$Keepers" "count" "I", Cond.methodLink RX11 347 yX0_run, Cond.instanceMethod yX0_run, Cond.selects RX0 yX0_run yX0_run, Cond.initialized RX0, Cond.code yX0_run cX0_run 6 (some .int), Cond.fieldLink RX0 22 "SeatsRound$Acts" "number" "I", Cond.fieldLink RX0 25 "SeatsRound$Acts" "strength" "I", Cond.fieldLink RX0 19 "SeatsRound$Acts" "own" "I", Cond.methodLink RX0 28 yX0_findsFrom, Cond.instanceMethod yX0_findsFrom, Cond.selects RX0 yX0_findsFrom yX0_findsFrom, Cond.code yX0_findsFrom cX0_findsFrom 3 (some .int), Cond.methodLink RX0 41 yX0_begin]
def wsX11_act_r2 : List Cond := [Cond.instanceMethod yX0_begin, Cond.selects RX0 yX0_begin yX0_begin, Cond.code yX0_begin cX0_begin 2 none, Cond.fieldLink RX0 15 "SeatsRound$Acts" "ran" "I", Cond.fieldLink RX0 9 "SeatsRound$Acts" "bodies" "[I", Cond.methodLink RX0 32 yX0_keepsFrom, Cond.instanceMethod yX0_keepsFrom, Cond.selects RX0 yX0_keepsFrom yX0_keepsFrom, Cond.code yX0_keepsFrom cX0_keepsFrom 4 (some .int), Cond.methodLink RX0 35 yX0_movesFrom, Cond.instanceMethod yX0_movesFrom, Cond.selects RX0 yX0_movesFrom yX0_movesFrom, Cond.code yX0_movesFrom cX0_movesFrom 4 (some .int), Cond.methodLink RX0 38 yX0_tellsFrom, Cond.instanceMethod yX0_tellsFrom, Cond.selects RX0 yX0_tellsFrom yX0_tellsFrom, Cond.code yX0_tellsFrom cX0_tellsFrom 4 (some .int)]
def wsX11_act : List Cond := .code yX11_act cX11_act 4 (some .int) :: ((wsX11_act_r1 ++ wsX11_act_r2) ++ wsX110 ++ wsX00 ++ wsX20)
def wsX11_trace : List Cond := .code yX11_trace cX11_trace 2 (some .int) :: ([.fieldLink RX11 91 "SeatsRound" "acts" "LSeatsRound$Acts;", .fieldLink RX11 344 "SeatsRound$Acts" "ran" "I", .fieldLink RX11 351 "SeatsRound$Acts" "bodies" "[I"] ++ wsX110 ++ wsX00)
def wsX11_isShelf : List Cond := .code yX11_isShelf cX11_isShelf 1 (some .boolean) :: ([])
def wsX11_keep : List Cond := .code yX11_keep cX11_keep 3 (some .int) :: ([.fieldLink RX11 26 "SeatsRound" "keepers" "LSeatsRound$Keepers;", .fieldLink RX11 98 "SeatsRound" "rows" "LSeatsRound$Rows;", .methodLink RX11 354 yX11_isShelf, .static yX11_isShelf, .initialized RX11, .code yX11_isShelf cX11_isShelf 1 (some .boolean), .methodLink RX11 137 yX2_has, .instanceMethod yX2_has, .selects RX2 yX2_has yX2_has, .initialized RX2, .code yX2_has cX2_has 2 (some .boolean), .fieldLink RX2 28 "SeatsRound$Keepers" "count" "I", .methodLink RX11 357 yX7_holdKeeper, .instanceMethod yX7_holdKeeper, .selects RX7 yX7_holdKeeper yX7_holdKeeper, .initialized RX7, .code yX7_holdKeeper cX7_holdKeeper 3 none, .fieldLink RX7 9 "SeatsRound$Rows" "keeper" "[I", .fieldLink RX7 15 "SeatsRound$Rows" "sort" "[I", .fieldLink RX7 18 "SeatsRound$Rows" "length" "[I"] ++ wsX110 ++ wsX20 ++ wsX70)
def wsX11_row : List Cond := .code yX11_row cX11_row 4 (some .int) :: ([.fieldLink RX11 98 "SeatsRound" "rows" "LSeatsRound$Rows;", .methodLink RX11 354 yX11_isShelf, .static yX11_isShelf, .initialized RX11, .code yX11_isShelf cX11_isShelf 1 (some .boolean), .methodLink RX11 360 yX7_holdRow, .instanceMethod yX7_holdRow, .selects RX7 yX7_holdRow yX7_holdRow, .initialized RX7, .code yX7_holdRow cX7_holdRow 4 none, .fieldLink RX7 9 "SeatsRound$Rows" "keeper" "[I", .fieldLink RX7 15 "SeatsRound$Rows" "sort" "[I", .fieldLink RX7 18 "SeatsRound$Rows" "length" "[I", .fieldLink RX7 23 "SeatsRound$Rows" "elements" "[[J", .methodLink RX7 32 yJ7_fill_d0a16, .static yJ7_fill_d0a16, .initialized RJ7, .code yJ7_fill_d0a16 cJ7_fill_d0a16 5 none] ++ wsX110 ++ wsX70)
def wsX11_put_r1 : List Cond := [Cond.fieldLink RX11 98 "SeatsRound" "rows" "LSeatsRound$Rows;", Cond.fieldLink RX11 367 "SeatsRound$Rows" "elements" "[[J", Cond.fieldLink RX11 371 "SeatsRound$Rows" "sort" "[I", Cond.methodLink RX11 354 yX11_isShelf, Cond.static yX11_isShelf, Cond.initialized RX11, Cond.code yX11_isShelf cX11_isShelf 1 (some .boolean), Cond.methodLink RX11 364 yX7_refusalAt, Cond.instanceMethod yX7_refusalAt, Cond.selects RX7 yX7_refusalAt yX7_refusalAt, Cond.initialized RX7, Cond.code yX7_refusalAt cX7_refusalAt 3 (some .int), Cond.fieldLink RX7 18 "SeatsRound$Rows" "length" "[I", Cond.methodLink RX7 35 yX7_isEmpty, Cond.instanceMethod yX7_isEmpty, Cond.selects RX7 yX7_isEmpty yX7_isEmpty, Cond.code yX7_isEmpty cX7_isEmpty 2 (some .boolean), Cond.fieldLink RX7 15 "SeatsRound$Rows" "sort" "[I", Cond.fieldLink RX7 9 "SeatsRound$Rows" "keeper" "[I", Cond.methodLink RX7 39 yX7_isRow, Cond.instanceMethod yX7_isRow, Cond.selects RX7 yX7_isRow yX7_isRow, Cond.code yX7_isRow cX7_isRow 2 (some .boolean), Cond.methodLink RX11 374 yX7_lowest]
def wsX11_put_r2 : List Cond := [Cond.static yX7_lowest, Cond.code yX7_lowest cX7_lowest 3 (some .long)]
def wsX11_put : List Cond := .code yX11_put cX11_put 6 (some .int) :: ((wsX11_put_r1 ++ wsX11_put_r2) ++ wsX110 ++ wsX70)
def wsX11_element : List Cond := .code yX11_element cX11_element 3 (some .long) :: ([.fieldLink RX11 98 "SeatsRound" "rows" "LSeatsRound$Rows;", .constantLong RX11 380 (-9223372036854775808), .fieldLink RX11 367 "SeatsRound$Rows" "elements" "[[J", .methodLink RX11 354 yX11_isShelf, .static yX11_isShelf, .initialized RX11, .code yX11_isShelf cX11_isShelf 1 (some .boolean), .methodLink RX11 364 yX7_refusalAt, .instanceMethod yX7_refusalAt, .selects RX7 yX7_refusalAt yX7_refusalAt, .initialized RX7, .code yX7_refusalAt cX7_refusalAt 3 (some .int), .fieldLink RX7 18 "SeatsRound$Rows" "length" "[I", .methodLink RX7 35 yX7_isEmpty, .instanceMethod yX7_isEmpty, .selects RX7 yX7_isEmpty yX7_isEmpty, .code yX7_isEmpty cX7_isEmpty 2 (some .boolean), .fieldLink RX7 15 "SeatsRound$Rows" "sort" "[I", .fieldLink RX7 9 "SeatsRound$Rows" "keeper" "[I", .methodLink RX7 39 yX7_isRow, .instanceMethod yX7_isRow, .selects RX7 yX7_isRow yX7_isRow, .code yX7_isRow cX7_isRow 2 (some .boolean)] ++ wsX110 ++ wsX70)
def wsX11_shift_r1 : List Cond := [Cond.fieldLink RX11 98 "SeatsRound" "rows" "LSeatsRound$Rows;", Cond.fieldLink RX11 371 "SeatsRound$Rows" "sort" "[I", Cond.fieldLink RX11 367 "SeatsRound$Rows" "elements" "[[J", Cond.methodLink RX11 392 arraycopyName, Cond.native arraycopyName, Cond.static arraycopyName, Cond.initialized "java/lang/System", Cond.methodLink RX11 354 yX11_isShelf, Cond.static yX11_isShelf, Cond.initialized RX11, Cond.code yX11_isShelf cX11_isShelf 1 (some .boolean), Cond.methodLink RX11 382 yX7_isEmpty, Cond.instanceMethod yX7_isEmpty, Cond.selects RX7 yX7_isEmpty yX7_isEmpty, Cond.initialized RX7, Cond.code yX7_isEmpty cX7_isEmpty 2 (some .boolean), Cond.fieldLink RX7 15 "SeatsRound$Rows" "sort" "[I", Cond.fieldLink RX7 9 "SeatsRound$Rows" "keeper" "[I", Cond.methodLink RX11 385 yX7_isRow, Cond.instanceMethod yX7_isRow, Cond.selects RX7 yX7_isRow yX7_isRow, Cond.code yX7_isRow cX7_isRow 2 (some .boolean), Cond.methodLink RX11 388 yX7_spans, Cond.instanceMethod yX7_spans]
def wsX11_shift_r2 : List Cond := [Cond.selects RX7 yX7_spans yX7_spans, Cond.code yX7_spans cX7_spans 4 (some .boolean), Cond.fieldLink RX7 18 "SeatsRound$Rows" "length" "[I"]
def wsX11_shift : List Cond := .code yX11_shift cX11_shift 6 (some .int) :: ((wsX11_shift_r1 ++ wsX11_shift_r2) ++ wsX110 ++ wsX70)
def wsX11_taken_r1 : List Cond := [Cond.fieldLink RX11 98 "SeatsRound" "rows" "LSeatsRound$Rows;", Cond.fieldLink RX11 398 "SeatsRound$Rows" "keeper" "[I", Cond.fieldLink RX11 26 "SeatsRound" "keepers" "LSeatsRound$Keepers;", Cond.fieldLink RX11 141 "SeatsRound$Keepers" "kind" "[I", Cond.methodLink RX11 354 yX11_isShelf, Cond.static yX11_isShelf, Cond.initialized RX11, Cond.code yX11_isShelf cX11_isShelf 1 (some .boolean), Cond.methodLink RX11 138 yX11_isKind, Cond.static yX11_isKind, Cond.code yX11_isKind cX11_isKind 1 (some .boolean), Cond.methodLink RX11 382 yX7_isEmpty, Cond.instanceMethod yX7_isEmpty, Cond.selects RX7 yX7_isEmpty yX7_isEmpty, Cond.initialized RX7, Cond.code yX7_isEmpty cX7_isEmpty 2 (some .boolean), Cond.fieldLink RX7 15 "SeatsRound$Rows" "sort" "[I", Cond.fieldLink RX7 9 "SeatsRound$Rows" "keeper" "[I", Cond.methodLink RX11 137 yX2_has, Cond.instanceMethod yX2_has, Cond.selects RX2 yX2_has yX2_has, Cond.initialized RX2, Cond.code yX2_has cX2_has 2 (some .boolean), Cond.fieldLink RX2 28 "SeatsRound$Keepers" "count" "I"]
def wsX11_taken_r2 : List Cond := [Cond.methodLink RX11 401 yX11_isUnder, Cond.static yX11_isUnder, Cond.code yX11_isUnder cX11_isUnder 4 (some .boolean), Cond.fieldLink RX11 420 "SeatsRound" "KIND_ABOVE" "[I"]
def wsX11_taken : List Cond := .code yX11_taken cX11_taken 5 (some .int) :: ((wsX11_taken_r1 ++ wsX11_taken_r2) ++ wsX110 ++ wsX70 ++ wsX20)
def wsX11_names_r1 : List Cond := [Cond.fieldLink RX11 98 "SeatsRound" "rows" "LSeatsRound$Rows;", Cond.fieldLink RX11 371 "SeatsRound$Rows" "sort" "[I", Cond.fieldLink RX11 19 "SeatsRound" "nameList" "LSeatsRound$NameList;", Cond.fieldLink RX11 367 "SeatsRound$Rows" "elements" "[[J", Cond.fieldLink RX11 405 "SeatsRound$Rows" "length" "[I", Cond.methodLink RX11 354 yX11_isShelf, Cond.static yX11_isShelf, Cond.initialized RX11, Cond.code yX11_isShelf cX11_isShelf 1 (some .boolean), Cond.methodLink RX11 382 yX7_isEmpty, Cond.instanceMethod yX7_isEmpty, Cond.selects RX7 yX7_isEmpty yX7_isEmpty, Cond.initialized RX7, Cond.code yX7_isEmpty cX7_isEmpty 2 (some .boolean), Cond.fieldLink RX7 15 "SeatsRound$Rows" "sort" "[I", Cond.fieldLink RX7 9 "SeatsRound$Rows" "keeper" "[I", Cond.methodLink RX11 385 yX7_isRow, Cond.instanceMethod yX7_isRow, Cond.selects RX7 yX7_isRow yX7_isRow, Cond.code yX7_isRow cX7_isRow 2 (some .boolean), Cond.methodLink RX11 407 yX4_addFrom, Cond.instanceMethod yX4_addFrom, Cond.selects RX4 yX4_addFrom yX4_addFrom, Cond.initialized RX4]
def wsX11_names_r2 : List Cond := [Cond.code yX4_addFrom cX4_addFrom 12 (some .int), Cond.constantLong RX4 39 (6), Cond.fieldLink RX4 20 "SeatsRound$NameList" "read" "[B", Cond.methodLink RX4 41 yX4_find, Cond.instanceMethod yX4_find, Cond.selects RX4 yX4_find yX4_find, Cond.code yX4_find cX4_find 5 (some .int), Cond.fieldLink RX4 24 "SeatsRound$NameList" "count" "I", Cond.fieldLink RX4 16 "SeatsRound$NameList" "size" "[I", Cond.fieldLink RX4 11 "SeatsRound$NameList" "bytes" "[[B", Cond.methodLink RX4 28 yX4_isAlike, Cond.static yX4_isAlike, Cond.code yX4_isAlike cX4_isAlike 5 (some .boolean), Cond.methodLink RX4 45 yX4_add, Cond.instanceMethod yX4_add, Cond.selects RX4 yX4_add yX4_add, Cond.code yX4_add cX4_add 4 (some .int), Cond.methodLink RX4 32 arraycopyName, Cond.native arraycopyName, Cond.static arraycopyName, Cond.initialized "java/lang/System"]
def wsX11_names : List Cond := .code yX11_names cX11_names 4 (some .int) :: ((wsX11_names_r1 ++ wsX11_names_r2) ++ wsX110 ++ wsX70 ++ wsX40)
def wsX11_count_r1 : List Cond := [Cond.fieldLink RX11 19 "SeatsRound" "nameList" "LSeatsRound$NameList;", Cond.fieldLink RX11 117 "SeatsRound$NameList" "count" "I", Cond.fieldLink RX11 26 "SeatsRound" "keepers" "LSeatsRound$Keepers;", Cond.fieldLink RX11 134 "SeatsRound$Keepers" "count" "I", Cond.fieldLink RX11 52 "SeatsRound" "tableCount" "I", Cond.fieldLink RX11 10 "SeatsRound" "tape" "LSeatsRound$Tape;", Cond.fieldLink RX11 102 "SeatsRound$Tape" "length" "I", Cond.fieldLink RX11 66 "SeatsRound" "parcels" "LSeatsRound$Parcels;", Cond.fieldLink RX11 417 "SeatsRound$Parcels" "writings" "I", Cond.fieldLink RX11 91 "SeatsRound" "acts" "LSeatsRound$Acts;", Cond.fieldLink RX11 344 "SeatsRound$Acts" "ran" "I", Cond.methodLink RX11 411 yX6_allCopies, Cond.instanceMethod yX6_allCopies, Cond.selects RX6 yX6_allCopies yX6_allCopies, Cond.initialized RX6, Cond.code yX6_allCopies cX6_allCopies 3 (some .int), Cond.fieldLink RX6 42 "SeatsRound$Parcels" "keepers" "LSeatsRound$Keepers;", Cond.fieldLink RX6 120 "SeatsRound$Keepers" "count" "I", Cond.methodLink RX6 103 yX6_copiesOn, Cond.instanceMethod yX6_copiesOn, Cond.selects RX6 yX6_copiesOn yX6_copiesOn, Cond.code yX6_copiesOn cX6_copiesOn 2 (some .int), Cond.fieldLink RX6 11 "SeatsRound$Parcels" "version" "[[I", Cond.methodLink RX6 141 yX6_filled]
def wsX11_count_r2 : List Cond := [Cond.static yX6_filled, Cond.code yX6_filled cX6_filled 6 (some .int), Cond.methodLink RX11 414 yX6_allKept, Cond.instanceMethod yX6_allKept, Cond.selects RX6 yX6_allKept yX6_allKept, Cond.code yX6_allKept cX6_allKept 3 (some .int), Cond.methodLink RX6 145 yX6_keptBy, Cond.instanceMethod yX6_keptBy, Cond.selects RX6 yX6_keptBy yX6_keptBy, Cond.code yX6_keptBy cX6_keptBy 2 (some .int), Cond.fieldLink RX6 16 "SeatsRound$Parcels" "kept" "[[I"]
def wsX11_count : List Cond := .code yX11_count cX11_count 2 (some .int) :: ((wsX11_count_r1 ++ wsX11_count_r2) ++ wsX110 ++ wsX40 ++ wsX20 ++ wsX90 ++ wsX60 ++ wsX00)
def wsX12_init_r1 : List Cond := [Cond.methodLink RX12 1 objectInit, Cond.instanceMethod objectInit, Cond.code objectInit ⟨#[0xb1]⟩ 1 none, Cond.arrayClass .int, Cond.fieldLink RX12 7 "SeatsRoundModel" "nameSize" "[I", Cond.fieldLink RX12 13 "SeatsRoundModel" "nameByte" "[I", Cond.fieldLink RX12 16 "SeatsRoundModel" "street" "[I", Cond.fieldLink RX12 19 "SeatsRoundModel" "strength" "[I", Cond.fieldLink RX12 22 "SeatsRoundModel" "kind" "[I", Cond.fieldLink RX12 25 "SeatsRoundModel" "known" "[I", Cond.arrayClass .boolean, Cond.fieldLink RX12 28 "SeatsRoundModel" "isFallen" "[Z", Cond.fieldLink RX12 32 "SeatsRoundModel" "tableOf" "[I", Cond.fieldLink RX12 35 "SeatsRoundModel" "tableZ" "[I", Cond.fieldLink RX12 38 "SeatsRoundModel" "copies" "[I", Cond.fieldLink RX12 41 "SeatsRoundModel" "streets" "[I", Cond.fieldLink RX12 44 "SeatsRoundModel" "picks" "[I", Cond.fieldLink RX12 47 "SeatsRoundModel" "lawSize" "[I", Cond.fieldLink RX12 50 "SeatsRoundModel" "lawByte" "[I", Cond.fieldLink RX12 53 "SeatsRoundModel" "counts" "[I", Cond.fieldLink RX12 56 "SeatsRoundModel" "streetIn" "[I", Cond.fieldLink RX12 59 "SeatsRoundModel" "seatMany" "[I", Cond.fieldLink RX12 62 "SeatsRoundModel" "seats" "[I", Cond.fieldLink RX12 65 "SeatsRoundModel" "tape" "[I"]
def wsX12_init_r2 : List Cond := [Cond.fieldLink RX12 68 "SeatsRoundModel" "version" "[I", Cond.fieldLink RX12 71 "SeatsRoundModel" "kept" "[I", Cond.fieldLink RX12 74 "SeatsRoundModel" "keptFor" "[I", Cond.fieldLink RX12 77 "SeatsRoundModel" "pieces" "[I", Cond.fieldLink RX12 80 "SeatsRoundModel" "piecesTo" "[I", Cond.fieldLink RX12 83 "SeatsRoundModel" "written" "[I", Cond.fieldLink RX12 86 "SeatsRoundModel" "comer" "[I", Cond.fieldLink RX12 89 "SeatsRoundModel" "orderTold" "[I", Cond.fieldLink RX12 92 "SeatsRoundModel" "turning" "[I", Cond.fieldLink RX12 95 "SeatsRoundModel" "harmShare" "I", Cond.fieldLink RX12 99 "SeatsRoundModel" "trace" "[I", Cond.fieldLink RX12 102 "SeatsRoundModel" "shelfIs" "[I", Cond.fieldLink RX12 105 "SeatsRoundModel" "shelfSort" "[I", Cond.fieldLink RX12 108 "SeatsRoundModel" "shelfSize" "[I", Cond.arrayClass .long, Cond.fieldLink RX12 111 "SeatsRoundModel" "elements" "[J", Cond.fieldLink RX12 115 "SeatsRoundModel" "told" "[I", Cond.fieldLink RX12 118 "SeatsRoundModel" "picked" "[I", Cond.fieldLink RX12 121 "SeatsRoundModel" "chosen" "[I", Cond.fieldLink RX12 124 "SeatsRoundModel" "odds" "[I", Cond.fieldLink RX12 127 "SeatsRoundModel" "keepsBy" "[I", Cond.fieldLink RX12 130 "SeatsRoundModel" "tried" "[I"]
def wsX12_init : List Cond := .code yX12_init cX12_init 2 none :: ((wsX12_init_r1 ++ wsX12_init_r2) ++ wsX120)
def wsX12_in : List Cond := .code yX12_in cX12_in 3 (some .boolean) :: ([])
def wsX12_isName : List Cond := .code yX12_isName cX12_isName 2 (some .boolean) :: ([.fieldLink RX12 133 "SeatsRoundModel" "names" "I", .methodLink RX12 136 yX12_in, .static yX12_in, .initialized RX12, .code yX12_in cX12_in 3 (some .boolean)] ++ wsX120)
def wsX12_isKeeper : List Cond := .code yX12_isKeeper cX12_isKeeper 2 (some .boolean) :: ([.fieldLink RX12 140 "SeatsRoundModel" "keepers" "I", .methodLink RX12 136 yX12_in, .static yX12_in, .initialized RX12, .code yX12_in cX12_in 3 (some .boolean)] ++ wsX120)
def wsX12_isTable : List Cond := .code yX12_isTable cX12_isTable 2 (some .boolean) :: ([.fieldLink RX12 143 "SeatsRoundModel" "tables" "I", .methodLink RX12 136 yX12_in, .static yX12_in, .initialized RX12, .code yX12_in cX12_in 3 (some .boolean)] ++ wsX120)
def wsX12_feed : List Cond := .code yX12_feed cX12_feed 4 (some .int) :: ([.fieldLink RX12 146 "SeatsRoundModel" "taped" "I", .fieldLink RX12 65 "SeatsRoundModel" "tape" "[I", .methodLink RX12 136 yX12_in, .static yX12_in, .initialized RX12, .code yX12_in cX12_in 3 (some .boolean)] ++ wsX120)
def wsX12_name : List Cond := .code yX12_name cX12_name 2 (some .int) :: ([.fieldLink RX12 146 "SeatsRoundModel" "taped" "I", .fieldLink RX12 115 "SeatsRoundModel" "told" "[I", .fieldLink RX12 65 "SeatsRoundModel" "tape" "[I", .fieldLink RX12 133 "SeatsRoundModel" "names" "I", .methodLink RX12 136 yX12_in, .static yX12_in, .initialized RX12, .code yX12_in cX12_in 3 (some .boolean), .methodLink RX12 149 yX12_found, .instanceMethod yX12_found, .selects RX12 yX12_found yX12_found, .code yX12_found cX12_found 5 (some .int), .fieldLink RX12 7 "SeatsRoundModel" "nameSize" "[I", .fieldLink RX12 13 "SeatsRoundModel" "nameByte" "[I", .methodLink RX12 153 yX12_comesName, .instanceMethod yX12_comesName, .selects RX12 yX12_comesName yX12_comesName, .code yX12_comesName cX12_comesName 3 none] ++ wsX120)
def wsX12_number : List Cond := .code yX12_number cX12_number 3 (some .int) :: ([.methodLink RX12 158 yX12_isName, .instanceMethod yX12_isName, .selects RX12 yX12_isName yX12_isName, .initialized RX12, .code yX12_isName cX12_isName 2 (some .boolean), .fieldLink RX12 133 "SeatsRoundModel" "names" "I", .methodLink RX12 136 yX12_in, .static yX12_in, .code yX12_in cX12_in 3 (some .boolean), .methodLink RX12 162 yX12_numberOf, .instanceMethod yX12_numberOf, .selects RX12 yX12_numberOf yX12_numberOf, .code yX12_numberOf cX12_numberOf 5 (some .int), .fieldLink RX12 7 "SeatsRoundModel" "nameSize" "[I", .fieldLink RX12 13 "SeatsRoundModel" "nameByte" "[I", .constant RX12 157 (16777619)] ++ wsX120)
def wsX12_keeper : List Cond := .code yX12_keeper cX12_keeper 3 (some .int) :: ([.fieldLink RX12 140 "SeatsRoundModel" "keepers" "I", .fieldLink RX12 16 "SeatsRoundModel" "street" "[I", .fieldLink RX12 19 "SeatsRoundModel" "strength" "[I", .methodLink RX12 136 yX12_in, .static yX12_in, .initialized RX12, .code yX12_in cX12_in 3 (some .boolean)] ++ wsX120)
def wsX12_become : List Cond := .code yX12_become cX12_become 6 (some .int) :: ([.fieldLink RX12 22 "SeatsRoundModel" "kind" "[I", .fieldLink RX12 74 "SeatsRoundModel" "keptFor" "[I", .fieldLink RX12 68 "SeatsRoundModel" "version" "[I", .fieldLink RX12 71 "SeatsRoundModel" "kept" "[I", .methodLink RX12 166 yX12_isKeeper, .instanceMethod yX12_isKeeper, .selects RX12 yX12_isKeeper yX12_isKeeper, .initialized RX12, .code yX12_isKeeper cX12_isKeeper 2 (some .boolean), .fieldLink RX12 140 "SeatsRoundModel" "keepers" "I", .methodLink RX12 136 yX12_in, .static yX12_in, .code yX12_in cX12_in 3 (some .boolean)] ++ wsX120)
def wsX12_strength : List Cond := .code yX12_strength cX12_strength 4 (some .int) :: ([.fieldLink RX12 19 "SeatsRoundModel" "strength" "[I", .methodLink RX12 166 yX12_isKeeper, .instanceMethod yX12_isKeeper, .selects RX12 yX12_isKeeper yX12_isKeeper, .initialized RX12, .code yX12_isKeeper cX12_isKeeper 2 (some .boolean), .fieldLink RX12 140 "SeatsRoundModel" "keepers" "I", .methodLink RX12 136 yX12_in, .static yX12_in, .code yX12_in cX12_in 3 (some .boolean)] ++ wsX120)
def wsX12_ofKeeper_r1 : List Cond := [Cond.constant RX12 169 (-2000000000), Cond.fieldLink RX12 22 "SeatsRoundModel" "kind" "[I", Cond.fieldLink RX12 16 "SeatsRoundModel" "street" "[I", Cond.fieldLink RX12 19 "SeatsRoundModel" "strength" "[I", Cond.fieldLink RX12 25 "SeatsRoundModel" "known" "[I", Cond.fieldLink RX12 28 "SeatsRoundModel" "isFallen" "[Z", Cond.methodLink RX12 166 yX12_isKeeper, Cond.instanceMethod yX12_isKeeper, Cond.selects RX12 yX12_isKeeper yX12_isKeeper, Cond.initialized RX12, Cond.code yX12_isKeeper cX12_isKeeper 2 (some .boolean), Cond.fieldLink RX12 140 "SeatsRoundModel" "keepers" "I", Cond.methodLink RX12 136 yX12_in, Cond.static yX12_in, Cond.code yX12_in cX12_in 3 (some .boolean), Cond.methodLink RX12 170 yX12_countsNow, Cond.instanceMethod yX12_countsNow, Cond.selects RX12 yX12_countsNow yX12_countsNow, Cond.code yX12_countsNow cX12_countsNow 2 (some .int), Cond.methodLink RX12 173 yX12_many, Cond.instanceMethod yX12_many, Cond.selects RX12 yX12_many yX12_many, Cond.code yX12_many cX12_many 5 (some .int), Cond.fieldLink RX12 68 "SeatsRoundModel" "version" "[I"]
def wsX12_ofKeeper_r2 : List Cond := [Cond.fieldLink RX12 71 "SeatsRoundModel" "kept" "[I"]
def wsX12_ofKeeper : List Cond := .code yX12_ofKeeper cX12_ofKeeper 3 (some .int) :: ((wsX12_ofKeeper_r1 ++ wsX12_ofKeeper_r2) ++ wsX120)
def wsX12_table_r1 : List Cond := [Cond.fieldLink RX12 140 "SeatsRoundModel" "keepers" "I", Cond.fieldLink RX12 143 "SeatsRoundModel" "tables" "I", Cond.fieldLink RX12 32 "SeatsRoundModel" "tableOf" "[I", Cond.fieldLink RX12 35 "SeatsRoundModel" "tableZ" "[I", Cond.fieldLink RX12 53 "SeatsRoundModel" "counts" "[I", Cond.fieldLink RX12 56 "SeatsRoundModel" "streetIn" "[I", Cond.fieldLink RX12 16 "SeatsRoundModel" "street" "[I", Cond.fieldLink RX12 47 "SeatsRoundModel" "lawSize" "[I", Cond.fieldLink RX12 146 "SeatsRoundModel" "taped" "I", Cond.fieldLink RX12 50 "SeatsRoundModel" "lawByte" "[I", Cond.fieldLink RX12 65 "SeatsRoundModel" "tape" "[I", Cond.methodLink RX12 170 yX12_countsNow, Cond.instanceMethod yX12_countsNow, Cond.selects RX12 yX12_countsNow yX12_countsNow, Cond.initialized RX12, Cond.code yX12_countsNow cX12_countsNow 2 (some .int), Cond.fieldLink RX12 22 "SeatsRoundModel" "kind" "[I", Cond.fieldLink RX12 19 "SeatsRoundModel" "strength" "[I", Cond.methodLink RX12 231 yX12_numbers, Cond.instanceMethod yX12_numbers, Cond.selects RX12 yX12_numbers yX12_numbers, Cond.code yX12_numbers cX12_numbers 5 none, Cond.fieldLink RX12 206 "SeatsRoundModel" "nowN" "I", Cond.fieldLink RX12 209 "SeatsRoundModel" "nowU" "I"]
def wsX12_table_r2 : List Cond := [Cond.fieldLink RX12 212 "SeatsRoundModel" "nowT" "I", Cond.fieldLink RX12 215 "SeatsRoundModel" "nowX" "I", Cond.methodLink RX12 223 yX12_isIn, Cond.instanceMethod yX12_isIn, Cond.selects RX12 yX12_isIn yX12_isIn, Cond.code yX12_isIn cX12_isIn 3 (some .boolean), Cond.methodLink RX12 234 yX12_reads, Cond.instanceMethod yX12_reads, Cond.selects RX12 yX12_reads yX12_reads, Cond.code yX12_reads cX12_reads 7 (some .int), Cond.fieldLink RX12 180 "SeatsRoundModel" "lawTable" "I", Cond.fieldLink RX12 177 "SeatsRoundModel" "at" "I", Cond.fieldLink RX12 197 "SeatsRoundModel" "opens" "I", Cond.fieldLink RX12 183 "SeatsRoundModel" "isFaulty" "Z", Cond.fieldLink RX12 38 "SeatsRoundModel" "copies" "[I", Cond.fieldLink RX12 41 "SeatsRoundModel" "streets" "[I", Cond.fieldLink RX12 44 "SeatsRoundModel" "picks" "[I", Cond.methodLink RX12 187 yX12_here, Cond.instanceMethod yX12_here, Cond.selects RX12 yX12_here yX12_here, Cond.code yX12_here cX12_here 1 (some .int), Cond.methodLink RX12 203 yX12_eats, Cond.instanceMethod yX12_eats, Cond.selects RX12 yX12_eats yX12_eats]
def wsX12_table_r3 : List Cond := [Cond.code yX12_eats cX12_eats 2 none, Cond.methodLink RX12 136 yX12_in, Cond.static yX12_in, Cond.code yX12_in cX12_in 3 (some .boolean), Cond.methodLink RX12 200 yX12_sum, Cond.instanceMethod yX12_sum, Cond.selects RX12 yX12_sum yX12_sum, Cond.code yX12_sum cX12_sum 4 (some .int), Cond.methodLink RX12 191 yX12_product, Cond.instanceMethod yX12_product, Cond.selects RX12 yX12_product yX12_product, Cond.code yX12_one cX12_one 4 (some .int), Cond.code yX12_product cX12_product 4 (some .int), Cond.methodLink RX12 194 yX12_one, Cond.instanceMethod yX12_one, Cond.selects RX12 yX12_one yX12_one, Cond.methodLink RX12 218 yX12_held, Cond.static yX12_held, Cond.code yX12_held cX12_held 1 (some .int), Cond.methodLink RX12 237 yX12_sits, Cond.instanceMethod yX12_sits, Cond.selects RX12 yX12_sits yX12_sits, Cond.code yX12_sits cX12_sits 6 none, Cond.fieldLink RX12 62 "SeatsRoundModel" "seats" "[I"]
def wsX12_table_r4 : List Cond := [Cond.fieldLink RX12 59 "SeatsRoundModel" "seatMany" "[I", Cond.methodLink RX12 227 yX12_mixed, Cond.static yX12_mixed, Cond.code yX12_mixed cX12_mixed 3 (some .int), Cond.constant RX12 221 (104729), Cond.constant RX12 222 (1103515245)]
def wsX12_table : List Cond := .code yX12_table cX12_table 5 (some .int) :: ((wsX12_table_r1 ++ (wsX12_table_r2 ++ (wsX12_table_r3 ++ wsX12_table_r4))) ++ wsX120)
def wsX12_seat : List Cond := .code yX12_seat cX12_seat 3 (some .int) :: ([.fieldLink RX12 62 "SeatsRoundModel" "seats" "[I", .methodLink RX12 266 yX12_isTable, .instanceMethod yX12_isTable, .selects RX12 yX12_isTable yX12_isTable, .initialized RX12, .code yX12_isTable cX12_isTable 2 (some .boolean), .fieldLink RX12 143 "SeatsRoundModel" "tables" "I", .methodLink RX12 136 yX12_in, .static yX12_in, .code yX12_in cX12_in 3 (some .boolean)] ++ wsX120)
def wsX12_picked_r1 : List Cond := [Cond.fieldLink RX12 240 "SeatsRoundModel" "pickedMany" "I", Cond.fieldLink RX12 118 "SeatsRoundModel" "picked" "[I", Cond.methodLink RX12 266 yX12_isTable, Cond.instanceMethod yX12_isTable, Cond.selects RX12 yX12_isTable yX12_isTable, Cond.initialized RX12, Cond.code yX12_isTable cX12_isTable 2 (some .boolean), Cond.fieldLink RX12 143 "SeatsRoundModel" "tables" "I", Cond.methodLink RX12 136 yX12_in, Cond.static yX12_in, Cond.code yX12_in cX12_in 3 (some .boolean), Cond.methodLink RX12 253 yX12_pick, Cond.instanceMethod yX12_pick, Cond.selects RX12 yX12_pick yX12_pick, Cond.code yX12_pick cX12_pick 5 none, Cond.fieldLink RX12 32 "SeatsRoundModel" "tableOf" "[I", Cond.fieldLink RX12 44 "SeatsRoundModel" "picks" "[I", Cond.methodLink RX12 243 yX12_pickBest, Cond.instanceMethod yX12_pickBest, Cond.selects RX12 yX12_pickBest yX12_pickBest, Cond.code yX12_pickBest cX12_pickBest 8 none, Cond.fieldLink RX12 140 "SeatsRoundModel" "keepers" "I", Cond.fieldLink RX12 35 "SeatsRoundModel" "tableZ" "[I", Cond.fieldLink RX12 53 "SeatsRoundModel" "counts" "[I"]
def wsX12_picked_r2 : List Cond := [Cond.methodLink RX12 227 yX12_mixed, Cond.static yX12_mixed, Cond.code yX12_mixed cX12_mixed 3 (some .int), Cond.constant RX12 221 (104729), Cond.constant RX12 222 (1103515245), Cond.methodLink RX12 223 yX12_isIn, Cond.instanceMethod yX12_isIn, Cond.selects RX12 yX12_isIn yX12_isIn, Cond.code yX12_isIn cX12_isIn 3 (some .boolean), Cond.methodLink RX12 247 yX12_pickNext, Cond.instanceMethod yX12_pickNext, Cond.selects RX12 yX12_pickNext yX12_pickNext, Cond.code yX12_pickNext cX12_pickNext 5 none, Cond.fieldLink RX12 62 "SeatsRoundModel" "seats" "[I"]
def wsX12_picked : List Cond := .code yX12_picked cX12_picked 4 (some .int) :: ((wsX12_picked_r1 ++ wsX12_picked_r2) ++ wsX120)
def wsX12_keeperOf_r1 : List Cond := [Cond.fieldLink RX12 250 "SeatsRoundModel" "chosenMany" "I", Cond.fieldLink RX12 121 "SeatsRoundModel" "chosen" "[I", Cond.methodLink RX12 266 yX12_isTable, Cond.instanceMethod yX12_isTable, Cond.selects RX12 yX12_isTable yX12_isTable, Cond.initialized RX12, Cond.code yX12_isTable cX12_isTable 2 (some .boolean), Cond.fieldLink RX12 143 "SeatsRoundModel" "tables" "I", Cond.methodLink RX12 136 yX12_in, Cond.static yX12_in, Cond.code yX12_in cX12_in 3 (some .boolean), Cond.methodLink RX12 158 yX12_isName, Cond.instanceMethod yX12_isName, Cond.selects RX12 yX12_isName yX12_isName, Cond.code yX12_isName cX12_isName 2 (some .boolean), Cond.fieldLink RX12 133 "SeatsRoundModel" "names" "I", Cond.methodLink RX12 269 yX12_chooseName, Cond.instanceMethod yX12_chooseName, Cond.selects RX12 yX12_chooseName yX12_chooseName, Cond.code yX12_chooseName cX12_chooseName 3 none, Cond.fieldLink RX12 35 "SeatsRoundModel" "tableZ" "[I", Cond.methodLink RX12 162 yX12_numberOf, Cond.instanceMethod yX12_numberOf, Cond.selects RX12 yX12_numberOf yX12_numberOf]
def wsX12_keeperOf_r2 : List Cond := [Cond.code yX12_numberOf cX12_numberOf 5 (some .int), Cond.fieldLink RX12 7 "SeatsRoundModel" "nameSize" "[I", Cond.fieldLink RX12 13 "SeatsRoundModel" "nameByte" "[I", Cond.constant RX12 157 (16777619), Cond.methodLink RX12 263 yX12_choose, Cond.instanceMethod yX12_choose, Cond.selects RX12 yX12_choose yX12_choose, Cond.code yX12_choose cX12_choose 7 none, Cond.fieldLink RX12 240 "SeatsRoundModel" "pickedMany" "I", Cond.fieldLink RX12 38 "SeatsRoundModel" "copies" "[I", Cond.fieldLink RX12 118 "SeatsRoundModel" "picked" "[I", Cond.fieldLink RX12 41 "SeatsRoundModel" "streets" "[I", Cond.methodLink RX12 253 yX12_pick, Cond.instanceMethod yX12_pick, Cond.selects RX12 yX12_pick yX12_pick, Cond.code yX12_pick cX12_pick 5 none, Cond.fieldLink RX12 32 "SeatsRoundModel" "tableOf" "[I", Cond.fieldLink RX12 44 "SeatsRoundModel" "picks" "[I", Cond.methodLink RX12 243 yX12_pickBest, Cond.instanceMethod yX12_pickBest, Cond.selects RX12 yX12_pickBest yX12_pickBest, Cond.code yX12_pickBest cX12_pickBest 8 none, Cond.fieldLink RX12 140 "SeatsRoundModel" "keepers" "I", Cond.fieldLink RX12 53 "SeatsRoundModel" "counts" "[I"]
def wsX12_keeperOf_r3 : List Cond := [Cond.methodLink RX12 227 yX12_mixed, Cond.static yX12_mixed, Cond.code yX12_mixed cX12_mixed 3 (some .int), Cond.constant RX12 221 (104729), Cond.constant RX12 222 (1103515245), Cond.methodLink RX12 223 yX12_isIn, Cond.instanceMethod yX12_isIn, Cond.selects RX12 yX12_isIn yX12_isIn, Cond.code yX12_isIn cX12_isIn 3 (some .boolean), Cond.methodLink RX12 247 yX12_pickNext, Cond.instanceMethod yX12_pickNext, Cond.selects RX12 yX12_pickNext yX12_pickNext, Cond.code yX12_pickNext cX12_pickNext 5 none, Cond.fieldLink RX12 62 "SeatsRoundModel" "seats" "[I", Cond.methodLink RX12 257 yX12_streetsOf, Cond.instanceMethod yX12_streetsOf, Cond.selects RX12 yX12_streetsOf yX12_streetsOf, Cond.code yX12_streetsOf cX12_streetsOf 5 (some .int), Cond.fieldLink RX12 56 "SeatsRoundModel" "streetIn" "[I", Cond.methodLink RX12 260 yX12_isChosen, Cond.instanceMethod yX12_isChosen, Cond.selects RX12 yX12_isChosen yX12_isChosen, Cond.code yX12_isChosen cX12_isChosen 3 (some .boolean)]
def wsX12_keeperOf : List Cond := .code yX12_keeperOf cX12_keeperOf 4 (some .int) :: ((wsX12_keeperOf_r1 ++ (wsX12_keeperOf_r2 ++ wsX12_keeperOf_r3)) ++ wsX120)
def wsX12_tooFew_r1 : List Cond := [Cond.fieldLink RX12 133 "SeatsRoundModel" "names" "I", Cond.fieldLink RX12 41 "SeatsRoundModel" "streets" "[I", Cond.methodLink RX12 266 yX12_isTable, Cond.instanceMethod yX12_isTable, Cond.selects RX12 yX12_isTable yX12_isTable, Cond.initialized RX12, Cond.code yX12_isTable cX12_isTable 2 (some .boolean), Cond.fieldLink RX12 143 "SeatsRoundModel" "tables" "I", Cond.methodLink RX12 136 yX12_in, Cond.static yX12_in, Cond.code yX12_in cX12_in 3 (some .boolean), Cond.methodLink RX12 269 yX12_chooseName, Cond.instanceMethod yX12_chooseName, Cond.selects RX12 yX12_chooseName yX12_chooseName, Cond.code yX12_chooseName cX12_chooseName 3 none, Cond.fieldLink RX12 35 "SeatsRoundModel" "tableZ" "[I", Cond.methodLink RX12 162 yX12_numberOf, Cond.instanceMethod yX12_numberOf, Cond.selects RX12 yX12_numberOf yX12_numberOf, Cond.code yX12_numberOf cX12_numberOf 5 (some .int), Cond.fieldLink RX12 7 "SeatsRoundModel" "nameSize" "[I", Cond.fieldLink RX12 13 "SeatsRoundModel" "nameByte" "[I", Cond.constant RX12 157 (16777619), Cond.methodLink RX12 263 yX12_choose]
def wsX12_tooFew_r2 : List Cond := [Cond.instanceMethod yX12_choose, Cond.selects RX12 yX12_choose yX12_choose, Cond.code yX12_choose cX12_choose 7 none, Cond.fieldLink RX12 250 "SeatsRoundModel" "chosenMany" "I", Cond.fieldLink RX12 240 "SeatsRoundModel" "pickedMany" "I", Cond.fieldLink RX12 38 "SeatsRoundModel" "copies" "[I", Cond.fieldLink RX12 118 "SeatsRoundModel" "picked" "[I", Cond.fieldLink RX12 121 "SeatsRoundModel" "chosen" "[I", Cond.methodLink RX12 253 yX12_pick, Cond.instanceMethod yX12_pick, Cond.selects RX12 yX12_pick yX12_pick, Cond.code yX12_pick cX12_pick 5 none, Cond.fieldLink RX12 32 "SeatsRoundModel" "tableOf" "[I", Cond.fieldLink RX12 44 "SeatsRoundModel" "picks" "[I", Cond.methodLink RX12 243 yX12_pickBest, Cond.instanceMethod yX12_pickBest, Cond.selects RX12 yX12_pickBest yX12_pickBest, Cond.code yX12_pickBest cX12_pickBest 8 none, Cond.fieldLink RX12 140 "SeatsRoundModel" "keepers" "I", Cond.fieldLink RX12 53 "SeatsRoundModel" "counts" "[I", Cond.methodLink RX12 227 yX12_mixed, Cond.static yX12_mixed, Cond.code yX12_mixed cX12_mixed 3 (some .int), Cond.constant RX12 221 (104729)]
def wsX12_tooFew_r3 : List Cond := [Cond.constant RX12 222 (1103515245), Cond.methodLink RX12 223 yX12_isIn, Cond.instanceMethod yX12_isIn, Cond.selects RX12 yX12_isIn yX12_isIn, Cond.code yX12_isIn cX12_isIn 3 (some .boolean), Cond.methodLink RX12 247 yX12_pickNext, Cond.instanceMethod yX12_pickNext, Cond.selects RX12 yX12_pickNext yX12_pickNext, Cond.code yX12_pickNext cX12_pickNext 5 none, Cond.fieldLink RX12 62 "SeatsRoundModel" "seats" "[I", Cond.methodLink RX12 257 yX12_streetsOf, Cond.instanceMethod yX12_streetsOf, Cond.selects RX12 yX12_streetsOf yX12_streetsOf, Cond.code yX12_streetsOf cX12_streetsOf 5 (some .int), Cond.fieldLink RX12 56 "SeatsRoundModel" "streetIn" "[I", Cond.methodLink RX12 260 yX12_isChosen, Cond.instanceMethod yX12_isChosen, Cond.selects RX12 yX12_isChosen yX12_isChosen, Cond.code yX12_isChosen cX12_isChosen 3 (some .boolean)]
def wsX12_tooFew : List Cond := .code yX12_tooFew cX12_tooFew 4 (some .int) :: ((wsX12_tooFew_r1 ++ (wsX12_tooFew_r2 ++ wsX12_tooFew_r3)) ++ wsX120)
def wsX12_share_r1 : List Cond := [Cond.fieldLink RX12 124 "SeatsRoundModel" "odds" "[I", Cond.methodLink RX12 266 yX12_isTable, Cond.instanceMethod yX12_isTable, Cond.selects RX12 yX12_isTable yX12_isTable, Cond.initialized RX12, Cond.code yX12_isTable cX12_isTable 2 (some .boolean), Cond.fieldLink RX12 143 "SeatsRoundModel" "tables" "I", Cond.methodLink RX12 136 yX12_in, Cond.static yX12_in, Cond.code yX12_in cX12_in 3 (some .boolean), Cond.methodLink RX12 166 yX12_isKeeper, Cond.instanceMethod yX12_isKeeper, Cond.selects RX12 yX12_isKeeper yX12_isKeeper, Cond.code yX12_isKeeper cX12_isKeeper 2 (some .boolean), Cond.fieldLink RX12 140 "SeatsRoundModel" "keepers" "I", Cond.methodLink RX12 272 yX12_shareOf, Cond.instanceMethod yX12_shareOf, Cond.selects RX12 yX12_shareOf yX12_shareOf, Cond.code yX12_shareOf cX12_shareOf 5 (some .int), Cond.fieldLink RX12 133 "SeatsRoundModel" "names" "I", Cond.fieldLink RX12 35 "SeatsRoundModel" "tableZ" "[I", Cond.fieldLink RX12 118 "SeatsRoundModel" "picked" "[I", Cond.methodLink RX12 162 yX12_numberOf, Cond.instanceMethod yX12_numberOf]
def wsX12_share_r2 : List Cond := [Cond.selects RX12 yX12_numberOf yX12_numberOf, Cond.code yX12_numberOf cX12_numberOf 5 (some .int), Cond.fieldLink RX12 7 "SeatsRoundModel" "nameSize" "[I", Cond.fieldLink RX12 13 "SeatsRoundModel" "nameByte" "[I", Cond.constant RX12 157 (16777619), Cond.methodLink RX12 253 yX12_pick, Cond.instanceMethod yX12_pick, Cond.selects RX12 yX12_pick yX12_pick, Cond.code yX12_pick cX12_pick 5 none, Cond.fieldLink RX12 240 "SeatsRoundModel" "pickedMany" "I", Cond.fieldLink RX12 32 "SeatsRoundModel" "tableOf" "[I", Cond.fieldLink RX12 44 "SeatsRoundModel" "picks" "[I", Cond.methodLink RX12 243 yX12_pickBest, Cond.instanceMethod yX12_pickBest, Cond.selects RX12 yX12_pickBest yX12_pickBest, Cond.code yX12_pickBest cX12_pickBest 8 none, Cond.fieldLink RX12 53 "SeatsRoundModel" "counts" "[I", Cond.methodLink RX12 227 yX12_mixed, Cond.static yX12_mixed, Cond.code yX12_mixed cX12_mixed 3 (some .int), Cond.constant RX12 221 (104729), Cond.constant RX12 222 (1103515245), Cond.methodLink RX12 223 yX12_isIn, Cond.instanceMethod yX12_isIn]
def wsX12_share_r3 : List Cond := [Cond.selects RX12 yX12_isIn yX12_isIn, Cond.code yX12_isIn cX12_isIn 3 (some .boolean), Cond.methodLink RX12 247 yX12_pickNext, Cond.instanceMethod yX12_pickNext, Cond.selects RX12 yX12_pickNext yX12_pickNext, Cond.code yX12_pickNext cX12_pickNext 5 none, Cond.fieldLink RX12 62 "SeatsRoundModel" "seats" "[I", Cond.methodLink RX12 275 yX12_findOdds, Cond.instanceMethod yX12_findOdds, Cond.selects RX12 yX12_findOdds yX12_findOdds, Cond.code yX12_findOdds cX12_findOdds 3 none]
def wsX12_share : List Cond := .code yX12_share cX12_share 4 (some .int) :: ((wsX12_share_r1 ++ (wsX12_share_r2 ++ wsX12_share_r3)) ++ wsX120)
def wsX12_ofTable_r1 : List Cond := [Cond.fieldLink RX12 32 "SeatsRoundModel" "tableOf" "[I", Cond.fieldLink RX12 59 "SeatsRoundModel" "seatMany" "[I", Cond.fieldLink RX12 38 "SeatsRoundModel" "copies" "[I", Cond.fieldLink RX12 41 "SeatsRoundModel" "streets" "[I", Cond.fieldLink RX12 44 "SeatsRoundModel" "picks" "[I", Cond.methodLink RX12 266 yX12_isTable, Cond.instanceMethod yX12_isTable, Cond.selects RX12 yX12_isTable yX12_isTable, Cond.initialized RX12, Cond.code yX12_isTable cX12_isTable 2 (some .boolean), Cond.fieldLink RX12 143 "SeatsRoundModel" "tables" "I", Cond.methodLink RX12 136 yX12_in, Cond.static yX12_in, Cond.code yX12_in cX12_in 3 (some .boolean), Cond.methodLink RX12 278 yX12_even, Cond.instanceMethod yX12_even, Cond.selects RX12 yX12_even yX12_even, Cond.code yX12_even cX12_even 5 (some .int), Cond.fieldLink RX12 140 "SeatsRoundModel" "keepers" "I", Cond.fieldLink RX12 124 "SeatsRoundModel" "odds" "[I", Cond.methodLink RX12 275 yX12_findOdds, Cond.instanceMethod yX12_findOdds, Cond.selects RX12 yX12_findOdds yX12_findOdds, Cond.code yX12_findOdds cX12_findOdds 3 none]
def wsX12_ofTable_r2 : List Cond := [Cond.fieldLink RX12 118 "SeatsRoundModel" "picked" "[I", Cond.methodLink RX12 253 yX12_pick, Cond.instanceMethod yX12_pick, Cond.selects RX12 yX12_pick yX12_pick, Cond.code yX12_pick cX12_pick 5 none, Cond.fieldLink RX12 240 "SeatsRoundModel" "pickedMany" "I", Cond.methodLink RX12 243 yX12_pickBest, Cond.instanceMethod yX12_pickBest, Cond.selects RX12 yX12_pickBest yX12_pickBest, Cond.code yX12_pickBest cX12_pickBest 8 none, Cond.fieldLink RX12 35 "SeatsRoundModel" "tableZ" "[I", Cond.fieldLink RX12 53 "SeatsRoundModel" "counts" "[I", Cond.methodLink RX12 227 yX12_mixed, Cond.static yX12_mixed, Cond.code yX12_mixed cX12_mixed 3 (some .int), Cond.constant RX12 221 (104729), Cond.constant RX12 222 (1103515245), Cond.methodLink RX12 223 yX12_isIn, Cond.instanceMethod yX12_isIn, Cond.selects RX12 yX12_isIn yX12_isIn, Cond.code yX12_isIn cX12_isIn 3 (some .boolean), Cond.methodLink RX12 247 yX12_pickNext, Cond.instanceMethod yX12_pickNext, Cond.selects RX12 yX12_pickNext yX12_pickNext]
def wsX12_ofTable_r3 : List Cond := [Cond.code yX12_pickNext cX12_pickNext 5 none, Cond.fieldLink RX12 62 "SeatsRoundModel" "seats" "[I"]
def wsX12_ofTable : List Cond := .code yX12_ofTable cX12_ofTable 3 (some .int) :: ((wsX12_ofTable_r1 ++ (wsX12_ofTable_r2 ++ wsX12_ofTable_r3)) ++ wsX120)
def wsX12_moves_r1 : List Cond := [Cond.fieldLink RX12 140 "SeatsRoundModel" "keepers" "I", Cond.fieldLink RX12 53 "SeatsRoundModel" "counts" "[I", Cond.fieldLink RX12 133 "SeatsRoundModel" "names" "I", Cond.methodLink RX12 266 yX12_isTable, Cond.instanceMethod yX12_isTable, Cond.selects RX12 yX12_isTable yX12_isTable, Cond.initialized RX12, Cond.code yX12_isTable cX12_isTable 2 (some .boolean), Cond.fieldLink RX12 143 "SeatsRoundModel" "tables" "I", Cond.methodLink RX12 136 yX12_in, Cond.static yX12_in, Cond.code yX12_in cX12_in 3 (some .boolean), Cond.methodLink RX12 223 yX12_isIn, Cond.instanceMethod yX12_isIn, Cond.selects RX12 yX12_isIn yX12_isIn, Cond.code yX12_isIn cX12_isIn 3 (some .boolean), Cond.fieldLink RX12 32 "SeatsRoundModel" "tableOf" "[I", Cond.methodLink RX12 269 yX12_chooseName, Cond.instanceMethod yX12_chooseName, Cond.selects RX12 yX12_chooseName yX12_chooseName, Cond.code yX12_chooseName cX12_chooseName 3 none, Cond.fieldLink RX12 35 "SeatsRoundModel" "tableZ" "[I", Cond.methodLink RX12 162 yX12_numberOf, Cond.instanceMethod yX12_numberOf]
def wsX12_moves_r2 : List Cond := [Cond.selects RX12 yX12_numberOf yX12_numberOf, Cond.code yX12_numberOf cX12_numberOf 5 (some .int), Cond.fieldLink RX12 7 "SeatsRoundModel" "nameSize" "[I", Cond.fieldLink RX12 13 "SeatsRoundModel" "nameByte" "[I", Cond.constant RX12 157 (16777619), Cond.methodLink RX12 263 yX12_choose, Cond.instanceMethod yX12_choose, Cond.selects RX12 yX12_choose yX12_choose, Cond.code yX12_choose cX12_choose 7 none, Cond.fieldLink RX12 250 "SeatsRoundModel" "chosenMany" "I", Cond.fieldLink RX12 240 "SeatsRoundModel" "pickedMany" "I", Cond.fieldLink RX12 38 "SeatsRoundModel" "copies" "[I", Cond.fieldLink RX12 118 "SeatsRoundModel" "picked" "[I", Cond.fieldLink RX12 41 "SeatsRoundModel" "streets" "[I", Cond.fieldLink RX12 121 "SeatsRoundModel" "chosen" "[I", Cond.methodLink RX12 253 yX12_pick, Cond.instanceMethod yX12_pick, Cond.selects RX12 yX12_pick yX12_pick, Cond.code yX12_pick cX12_pick 5 none, Cond.fieldLink RX12 44 "SeatsRoundModel" "picks" "[I", Cond.methodLink RX12 243 yX12_pickBest, Cond.instanceMethod yX12_pickBest, Cond.selects RX12 yX12_pickBest yX12_pickBest, Cond.code yX12_pickBest cX12_pickBest 8 none]
def wsX12_moves_r3 : List Cond := [Cond.methodLink RX12 227 yX12_mixed, Cond.static yX12_mixed, Cond.code yX12_mixed cX12_mixed 3 (some .int), Cond.constant RX12 221 (104729), Cond.constant RX12 222 (1103515245), Cond.methodLink RX12 247 yX12_pickNext, Cond.instanceMethod yX12_pickNext, Cond.selects RX12 yX12_pickNext yX12_pickNext, Cond.code yX12_pickNext cX12_pickNext 5 none, Cond.fieldLink RX12 62 "SeatsRoundModel" "seats" "[I", Cond.methodLink RX12 257 yX12_streetsOf, Cond.instanceMethod yX12_streetsOf, Cond.selects RX12 yX12_streetsOf yX12_streetsOf, Cond.code yX12_streetsOf cX12_streetsOf 5 (some .int), Cond.fieldLink RX12 56 "SeatsRoundModel" "streetIn" "[I", Cond.methodLink RX12 260 yX12_isChosen, Cond.instanceMethod yX12_isChosen, Cond.selects RX12 yX12_isChosen yX12_isChosen, Cond.code yX12_isChosen cX12_isChosen 3 (some .boolean), Cond.methodLink RX12 281 yX12_bits, Cond.instanceMethod yX12_bits, Cond.selects RX12 yX12_bits yX12_bits, Cond.code yX12_bits cX12_bits 3 (some .int), Cond.methodLink RX12 284 yX12_ones]
def wsX12_moves_r4 : List Cond := [Cond.static yX12_ones, Cond.code yX12_ones cX12_ones 3 (some .int)]
def wsX12_moves : List Cond := .code yX12_moves cX12_moves 10 (some .int) :: ((wsX12_moves_r1 ++ (wsX12_moves_r2 ++ (wsX12_moves_r3 ++ wsX12_moves_r4))) ++ wsX120)
def wsX12_knows : List Cond := .code yX12_knows cX12_knows 4 (some .int) :: ([.fieldLink RX12 143 "SeatsRoundModel" "tables" "I", .constant RX12 169 (-2000000000), .fieldLink RX12 25 "SeatsRoundModel" "known" "[I", .methodLink RX12 166 yX12_isKeeper, .instanceMethod yX12_isKeeper, .selects RX12 yX12_isKeeper yX12_isKeeper, .initialized RX12, .code yX12_isKeeper cX12_isKeeper 2 (some .boolean), .fieldLink RX12 140 "SeatsRoundModel" "keepers" "I", .methodLink RX12 136 yX12_in, .static yX12_in, .code yX12_in cX12_in 3 (some .boolean)] ++ wsX120)
def wsX12_write_r1 : List Cond := [Cond.fieldLink RX12 25 "SeatsRoundModel" "known" "[I", Cond.fieldLink RX12 83 "SeatsRoundModel" "written" "[I", Cond.fieldLink RX12 290 "SeatsRoundModel" "writings" "I", Cond.fieldLink RX12 250 "SeatsRoundModel" "chosenMany" "I", Cond.fieldLink RX12 121 "SeatsRoundModel" "chosen" "[I", Cond.fieldLink RX12 28 "SeatsRoundModel" "isFallen" "[Z", Cond.fieldLink RX12 22 "SeatsRoundModel" "kind" "[I", Cond.fieldLink RX12 68 "SeatsRoundModel" "version" "[I", Cond.methodLink RX12 166 yX12_isKeeper, Cond.instanceMethod yX12_isKeeper, Cond.selects RX12 yX12_isKeeper yX12_isKeeper, Cond.initialized RX12, Cond.code yX12_isKeeper cX12_isKeeper 2 (some .boolean), Cond.fieldLink RX12 140 "SeatsRoundModel" "keepers" "I", Cond.methodLink RX12 136 yX12_in, Cond.static yX12_in, Cond.code yX12_in cX12_in 3 (some .boolean), Cond.methodLink RX12 158 yX12_isName, Cond.instanceMethod yX12_isName, Cond.selects RX12 yX12_isName yX12_isName, Cond.code yX12_isName cX12_isName 2 (some .boolean), Cond.fieldLink RX12 133 "SeatsRoundModel" "names" "I", Cond.methodLink RX12 287 yX12_isAwake, Cond.instanceMethod yX12_isAwake]
def wsX12_write_r2 : List Cond := [Cond.selects RX12 yX12_isAwake yX12_isAwake, Cond.code yX12_isAwake cX12_isAwake 2 (some .boolean), Cond.methodLink RX12 269 yX12_chooseName, Cond.instanceMethod yX12_chooseName, Cond.selects RX12 yX12_chooseName yX12_chooseName, Cond.code yX12_chooseName cX12_chooseName 3 none, Cond.fieldLink RX12 35 "SeatsRoundModel" "tableZ" "[I", Cond.methodLink RX12 162 yX12_numberOf, Cond.instanceMethod yX12_numberOf, Cond.selects RX12 yX12_numberOf yX12_numberOf, Cond.code yX12_numberOf cX12_numberOf 5 (some .int), Cond.fieldLink RX12 7 "SeatsRoundModel" "nameSize" "[I", Cond.fieldLink RX12 13 "SeatsRoundModel" "nameByte" "[I", Cond.constant RX12 157 (16777619), Cond.methodLink RX12 263 yX12_choose, Cond.instanceMethod yX12_choose, Cond.selects RX12 yX12_choose yX12_choose, Cond.code yX12_choose cX12_choose 7 none, Cond.fieldLink RX12 240 "SeatsRoundModel" "pickedMany" "I", Cond.fieldLink RX12 38 "SeatsRoundModel" "copies" "[I", Cond.fieldLink RX12 118 "SeatsRoundModel" "picked" "[I", Cond.fieldLink RX12 41 "SeatsRoundModel" "streets" "[I", Cond.methodLink RX12 253 yX12_pick, Cond.instanceMethod yX12_pick]
def wsX12_write_r3 : List Cond := [Cond.selects RX12 yX12_pick yX12_pick, Cond.code yX12_pick cX12_pick 5 none, Cond.fieldLink RX12 32 "SeatsRoundModel" "tableOf" "[I", Cond.fieldLink RX12 44 "SeatsRoundModel" "picks" "[I", Cond.methodLink RX12 243 yX12_pickBest, Cond.instanceMethod yX12_pickBest, Cond.selects RX12 yX12_pickBest yX12_pickBest, Cond.code yX12_pickBest cX12_pickBest 8 none, Cond.fieldLink RX12 53 "SeatsRoundModel" "counts" "[I", Cond.methodLink RX12 227 yX12_mixed, Cond.static yX12_mixed, Cond.code yX12_mixed cX12_mixed 3 (some .int), Cond.constant RX12 221 (104729), Cond.constant RX12 222 (1103515245), Cond.methodLink RX12 223 yX12_isIn, Cond.instanceMethod yX12_isIn, Cond.selects RX12 yX12_isIn yX12_isIn, Cond.code yX12_isIn cX12_isIn 3 (some .boolean), Cond.methodLink RX12 247 yX12_pickNext, Cond.instanceMethod yX12_pickNext, Cond.selects RX12 yX12_pickNext yX12_pickNext, Cond.code yX12_pickNext cX12_pickNext 5 none, Cond.fieldLink RX12 62 "SeatsRoundModel" "seats" "[I", Cond.methodLink RX12 257 yX12_streetsOf]
def wsX12_write_r4 : List Cond := [Cond.instanceMethod yX12_streetsOf, Cond.selects RX12 yX12_streetsOf yX12_streetsOf, Cond.code yX12_streetsOf cX12_streetsOf 5 (some .int), Cond.fieldLink RX12 56 "SeatsRoundModel" "streetIn" "[I", Cond.methodLink RX12 260 yX12_isChosen, Cond.instanceMethod yX12_isChosen, Cond.selects RX12 yX12_isChosen yX12_isChosen, Cond.code yX12_isChosen cX12_isChosen 3 (some .boolean), Cond.methodLink RX12 281 yX12_bits, Cond.instanceMethod yX12_bits, Cond.selects RX12 yX12_bits yX12_bits, Cond.code yX12_bits cX12_bits 3 (some .int), Cond.methodLink RX12 293 yX12_keeps, Cond.instanceMethod yX12_keeps, Cond.selects RX12 yX12_keeps yX12_keeps, Cond.code yX12_keeps cX12_keeps 8 (some .int), Cond.fieldLink RX12 74 "SeatsRoundModel" "keptFor" "[I", Cond.fieldLink RX12 71 "SeatsRoundModel" "kept" "[I", Cond.methodLink RX12 297 yX12_hasRoom, Cond.instanceMethod yX12_hasRoom, Cond.selects RX12 yX12_hasRoom yX12_hasRoom, Cond.code yX12_hasRoom cX12_hasRoom 3 (some .boolean), Cond.methodLink RX12 173 yX12_many, Cond.instanceMethod yX12_many]
def wsX12_write_r5 : List Cond := [Cond.selects RX12 yX12_many yX12_many, Cond.code yX12_many cX12_many 5 (some .int)]
def wsX12_write : List Cond := .code yX12_write cX12_write 7 (some .int) :: ((wsX12_write_r1 ++ (wsX12_write_r2 ++ (wsX12_write_r3 ++ (wsX12_write_r4 ++ wsX12_write_r5)))) ++ wsX120)
def wsX12_read_r1 : List Cond := [Cond.fieldLink RX12 25 "SeatsRoundModel" "known" "[I", Cond.fieldLink RX12 250 "SeatsRoundModel" "chosenMany" "I", Cond.fieldLink RX12 121 "SeatsRoundModel" "chosen" "[I", Cond.fieldLink RX12 68 "SeatsRoundModel" "version" "[I", Cond.methodLink RX12 166 yX12_isKeeper, Cond.instanceMethod yX12_isKeeper, Cond.selects RX12 yX12_isKeeper yX12_isKeeper, Cond.initialized RX12, Cond.code yX12_isKeeper cX12_isKeeper 2 (some .boolean), Cond.fieldLink RX12 140 "SeatsRoundModel" "keepers" "I", Cond.methodLink RX12 136 yX12_in, Cond.static yX12_in, Cond.code yX12_in cX12_in 3 (some .boolean), Cond.methodLink RX12 158 yX12_isName, Cond.instanceMethod yX12_isName, Cond.selects RX12 yX12_isName yX12_isName, Cond.code yX12_isName cX12_isName 2 (some .boolean), Cond.fieldLink RX12 133 "SeatsRoundModel" "names" "I", Cond.methodLink RX12 287 yX12_isAwake, Cond.instanceMethod yX12_isAwake, Cond.selects RX12 yX12_isAwake yX12_isAwake, Cond.code yX12_isAwake cX12_isAwake 2 (some .boolean), Cond.fieldLink RX12 22 "SeatsRoundModel" "kind" "[I", Cond.fieldLink RX12 28 "SeatsRoundModel" "isFallen" "[Z"]
def wsX12_read_r2 : List Cond := [Cond.methodLink RX12 269 yX12_chooseName, Cond.instanceMethod yX12_chooseName, Cond.selects RX12 yX12_chooseName yX12_chooseName, Cond.code yX12_chooseName cX12_chooseName 3 none, Cond.fieldLink RX12 35 "SeatsRoundModel" "tableZ" "[I", Cond.methodLink RX12 162 yX12_numberOf, Cond.instanceMethod yX12_numberOf, Cond.selects RX12 yX12_numberOf yX12_numberOf, Cond.code yX12_numberOf cX12_numberOf 5 (some .int), Cond.fieldLink RX12 7 "SeatsRoundModel" "nameSize" "[I", Cond.fieldLink RX12 13 "SeatsRoundModel" "nameByte" "[I", Cond.constant RX12 157 (16777619), Cond.methodLink RX12 263 yX12_choose, Cond.instanceMethod yX12_choose, Cond.selects RX12 yX12_choose yX12_choose, Cond.code yX12_choose cX12_choose 7 none, Cond.fieldLink RX12 240 "SeatsRoundModel" "pickedMany" "I", Cond.fieldLink RX12 38 "SeatsRoundModel" "copies" "[I", Cond.fieldLink RX12 118 "SeatsRoundModel" "picked" "[I", Cond.fieldLink RX12 41 "SeatsRoundModel" "streets" "[I", Cond.methodLink RX12 253 yX12_pick, Cond.instanceMethod yX12_pick, Cond.selects RX12 yX12_pick yX12_pick, Cond.code yX12_pick cX12_pick 5 none]
def wsX12_read_r3 : List Cond := [Cond.fieldLink RX12 32 "SeatsRoundModel" "tableOf" "[I", Cond.fieldLink RX12 44 "SeatsRoundModel" "picks" "[I", Cond.methodLink RX12 243 yX12_pickBest, Cond.instanceMethod yX12_pickBest, Cond.selects RX12 yX12_pickBest yX12_pickBest, Cond.code yX12_pickBest cX12_pickBest 8 none, Cond.fieldLink RX12 53 "SeatsRoundModel" "counts" "[I", Cond.methodLink RX12 227 yX12_mixed, Cond.static yX12_mixed, Cond.code yX12_mixed cX12_mixed 3 (some .int), Cond.constant RX12 221 (104729), Cond.constant RX12 222 (1103515245), Cond.methodLink RX12 223 yX12_isIn, Cond.instanceMethod yX12_isIn, Cond.selects RX12 yX12_isIn yX12_isIn, Cond.code yX12_isIn cX12_isIn 3 (some .boolean), Cond.methodLink RX12 247 yX12_pickNext, Cond.instanceMethod yX12_pickNext, Cond.selects RX12 yX12_pickNext yX12_pickNext, Cond.code yX12_pickNext cX12_pickNext 5 none, Cond.fieldLink RX12 62 "SeatsRoundModel" "seats" "[I", Cond.methodLink RX12 257 yX12_streetsOf, Cond.instanceMethod yX12_streetsOf, Cond.selects RX12 yX12_streetsOf yX12_streetsOf]
def wsX12_read_r4 : List Cond := [Cond.code yX12_streetsOf cX12_streetsOf 5 (some .int), Cond.fieldLink RX12 56 "SeatsRoundModel" "streetIn" "[I", Cond.methodLink RX12 260 yX12_isChosen, Cond.instanceMethod yX12_isChosen, Cond.selects RX12 yX12_isChosen yX12_isChosen, Cond.code yX12_isChosen cX12_isChosen 3 (some .boolean)]
def wsX12_read : List Cond := .code yX12_read cX12_read 6 (some .int) :: ((wsX12_read_r1 ++ (wsX12_read_r2 ++ (wsX12_read_r3 ++ wsX12_read_r4))) ++ wsX120)
def wsX12_onShelf : List Cond := .code yX12_onShelf cX12_onShelf 5 (some .int) :: ([.fieldLink RX12 68 "SeatsRoundModel" "version" "[I", .fieldLink RX12 71 "SeatsRoundModel" "kept" "[I", .fieldLink RX12 74 "SeatsRoundModel" "keptFor" "[I", .fieldLink RX12 77 "SeatsRoundModel" "pieces" "[I", .methodLink RX12 166 yX12_isKeeper, .instanceMethod yX12_isKeeper, .selects RX12 yX12_isKeeper yX12_isKeeper, .initialized RX12, .code yX12_isKeeper cX12_isKeeper 2 (some .boolean), .fieldLink RX12 140 "SeatsRoundModel" "keepers" "I", .methodLink RX12 136 yX12_in, .static yX12_in, .code yX12_in cX12_in 3 (some .boolean), .methodLink RX12 158 yX12_isName, .instanceMethod yX12_isName, .selects RX12 yX12_isName yX12_isName, .code yX12_isName cX12_isName 2 (some .boolean), .fieldLink RX12 133 "SeatsRoundModel" "names" "I"] ++ wsX120)
def wsX12_fall : List Cond := .code yX12_fall cX12_fall 5 (some .int) :: ([.fieldLink RX12 28 "SeatsRoundModel" "isFallen" "[Z", .fieldLink RX12 68 "SeatsRoundModel" "version" "[I", .fieldLink RX12 71 "SeatsRoundModel" "kept" "[I", .fieldLink RX12 74 "SeatsRoundModel" "keptFor" "[I", .methodLink RX12 166 yX12_isKeeper, .instanceMethod yX12_isKeeper, .selects RX12 yX12_isKeeper yX12_isKeeper, .initialized RX12, .code yX12_isKeeper cX12_isKeeper 2 (some .boolean), .fieldLink RX12 140 "SeatsRoundModel" "keepers" "I", .methodLink RX12 136 yX12_in, .static yX12_in, .code yX12_in cX12_in 3 (some .boolean)] ++ wsX120)
def wsX12_half : List Cond := .code yX12_half cX12_half 6 (some .int) :: ([.fieldLink RX12 68 "SeatsRoundModel" "version" "[I", .fieldLink RX12 77 "SeatsRoundModel" "pieces" "[I", .fieldLink RX12 80 "SeatsRoundModel" "piecesTo" "[I", .methodLink RX12 158 yX12_isName, .instanceMethod yX12_isName, .selects RX12 yX12_isName yX12_isName, .initialized RX12, .code yX12_isName cX12_isName 2 (some .boolean), .fieldLink RX12 133 "SeatsRoundModel" "names" "I", .methodLink RX12 136 yX12_in, .static yX12_in, .code yX12_in cX12_in 3 (some .boolean), .methodLink RX12 166 yX12_isKeeper, .instanceMethod yX12_isKeeper, .selects RX12 yX12_isKeeper yX12_isKeeper, .code yX12_isKeeper cX12_isKeeper 2 (some .boolean), .fieldLink RX12 140 "SeatsRoundModel" "keepers" "I", .methodLink RX12 287 yX12_isAwake, .instanceMethod yX12_isAwake, .selects RX12 yX12_isAwake yX12_isAwake, .code yX12_isAwake cX12_isAwake 2 (some .boolean), .fieldLink RX12 22 "SeatsRoundModel" "kind" "[I", .fieldLink RX12 28 "SeatsRoundModel" "isFallen" "[Z"] ++ wsX120)
def wsX12_mend_r1 : List Cond := [Cond.fieldLink RX12 133 "SeatsRoundModel" "names" "I", Cond.fieldLink RX12 140 "SeatsRoundModel" "keepers" "I", Cond.fieldLink RX12 28 "SeatsRoundModel" "isFallen" "[Z", Cond.fieldLink RX12 68 "SeatsRoundModel" "version" "[I", Cond.fieldLink RX12 250 "SeatsRoundModel" "chosenMany" "I", Cond.fieldLink RX12 121 "SeatsRoundModel" "chosen" "[I", Cond.methodLink RX12 266 yX12_isTable, Cond.instanceMethod yX12_isTable, Cond.selects RX12 yX12_isTable yX12_isTable, Cond.initialized RX12, Cond.code yX12_isTable cX12_isTable 2 (some .boolean), Cond.fieldLink RX12 143 "SeatsRoundModel" "tables" "I", Cond.methodLink RX12 136 yX12_in, Cond.static yX12_in, Cond.code yX12_in cX12_in 3 (some .boolean), Cond.methodLink RX12 269 yX12_chooseName, Cond.instanceMethod yX12_chooseName, Cond.selects RX12 yX12_chooseName yX12_chooseName, Cond.code yX12_chooseName cX12_chooseName 3 none, Cond.fieldLink RX12 35 "SeatsRoundModel" "tableZ" "[I", Cond.methodLink RX12 162 yX12_numberOf, Cond.instanceMethod yX12_numberOf, Cond.selects RX12 yX12_numberOf yX12_numberOf, Cond.code yX12_numberOf cX12_numberOf 5 (some .int)]
def wsX12_mend_r2 : List Cond := [Cond.fieldLink RX12 7 "SeatsRoundModel" "nameSize" "[I", Cond.fieldLink RX12 13 "SeatsRoundModel" "nameByte" "[I", Cond.constant RX12 157 (16777619), Cond.methodLink RX12 263 yX12_choose, Cond.instanceMethod yX12_choose, Cond.selects RX12 yX12_choose yX12_choose, Cond.code yX12_choose cX12_choose 7 none, Cond.fieldLink RX12 240 "SeatsRoundModel" "pickedMany" "I", Cond.fieldLink RX12 38 "SeatsRoundModel" "copies" "[I", Cond.fieldLink RX12 118 "SeatsRoundModel" "picked" "[I", Cond.fieldLink RX12 41 "SeatsRoundModel" "streets" "[I", Cond.methodLink RX12 253 yX12_pick, Cond.instanceMethod yX12_pick, Cond.selects RX12 yX12_pick yX12_pick, Cond.code yX12_pick cX12_pick 5 none, Cond.fieldLink RX12 32 "SeatsRoundModel" "tableOf" "[I", Cond.fieldLink RX12 44 "SeatsRoundModel" "picks" "[I", Cond.methodLink RX12 243 yX12_pickBest, Cond.instanceMethod yX12_pickBest, Cond.selects RX12 yX12_pickBest yX12_pickBest, Cond.code yX12_pickBest cX12_pickBest 8 none, Cond.fieldLink RX12 53 "SeatsRoundModel" "counts" "[I", Cond.methodLink RX12 227 yX12_mixed, Cond.static yX12_mixed]
def wsX12_mend_r3 : List Cond := [Cond.code yX12_mixed cX12_mixed 3 (some .int), Cond.constant RX12 221 (104729), Cond.constant RX12 222 (1103515245), Cond.methodLink RX12 223 yX12_isIn, Cond.instanceMethod yX12_isIn, Cond.selects RX12 yX12_isIn yX12_isIn, Cond.code yX12_isIn cX12_isIn 3 (some .boolean), Cond.methodLink RX12 247 yX12_pickNext, Cond.instanceMethod yX12_pickNext, Cond.selects RX12 yX12_pickNext yX12_pickNext, Cond.code yX12_pickNext cX12_pickNext 5 none, Cond.fieldLink RX12 62 "SeatsRoundModel" "seats" "[I", Cond.methodLink RX12 257 yX12_streetsOf, Cond.instanceMethod yX12_streetsOf, Cond.selects RX12 yX12_streetsOf yX12_streetsOf, Cond.code yX12_streetsOf cX12_streetsOf 5 (some .int), Cond.fieldLink RX12 56 "SeatsRoundModel" "streetIn" "[I", Cond.methodLink RX12 260 yX12_isChosen, Cond.instanceMethod yX12_isChosen, Cond.selects RX12 yX12_isChosen yX12_isChosen, Cond.code yX12_isChosen cX12_isChosen 3 (some .boolean), Cond.methodLink RX12 287 yX12_isAwake, Cond.instanceMethod yX12_isAwake, Cond.selects RX12 yX12_isAwake yX12_isAwake]
def wsX12_mend_r4 : List Cond := [Cond.code yX12_isAwake cX12_isAwake 2 (some .boolean), Cond.fieldLink RX12 22 "SeatsRoundModel" "kind" "[I", Cond.methodLink RX12 297 yX12_hasRoom, Cond.instanceMethod yX12_hasRoom, Cond.selects RX12 yX12_hasRoom yX12_hasRoom, Cond.code yX12_hasRoom cX12_hasRoom 3 (some .boolean), Cond.methodLink RX12 173 yX12_many, Cond.instanceMethod yX12_many, Cond.selects RX12 yX12_many yX12_many, Cond.code yX12_many cX12_many 5 (some .int), Cond.fieldLink RX12 71 "SeatsRoundModel" "kept" "[I"]
def wsX12_mend : List Cond := .code yX12_mend cX12_mend 7 (some .int) :: ((wsX12_mend_r1 ++ (wsX12_mend_r2 ++ (wsX12_mend_r3 ++ wsX12_mend_r4))) ++ wsX120)
def wsX12_trees : List Cond := .code yX12_trees cX12_trees 6 (some .int) :: ([.methodLink RX12 166 yX12_isKeeper, .instanceMethod yX12_isKeeper, .selects RX12 yX12_isKeeper yX12_isKeeper, .initialized RX12, .code yX12_isKeeper cX12_isKeeper 2 (some .boolean), .fieldLink RX12 140 "SeatsRoundModel" "keepers" "I", .methodLink RX12 136 yX12_in, .static yX12_in, .code yX12_in cX12_in 3 (some .boolean), .methodLink RX12 307 yX12_wordsBelow, .instanceMethod yX12_wordsBelow, .selects RX12 yX12_wordsBelow yX12_wordsBelow, .code yX12_wordsBelow cX12_wordsBelow 5 (some .int), .methodLink RX12 303 yX12_areUnlike, .instanceMethod yX12_areUnlike, .selects RX12 yX12_areUnlike yX12_areUnlike, .code yX12_areUnlike cX12_areUnlike 7 (some .boolean), .methodLink RX12 300 yX12_leafOf, .instanceMethod yX12_leafOf, .selects RX12 yX12_leafOf yX12_leafOf, .code yX12_leafOf cX12_leafOf 5 (some .int), .fieldLink RX12 133 "SeatsRoundModel" "names" "I", .fieldLink RX12 68 "SeatsRoundModel" "version" "[I"] ++ wsX120)
def wsX12_noon : List Cond := .code yX12_noon cX12_noon 6 (some .int) :: ([.fieldLink RX12 32 "SeatsRoundModel" "tableOf" "[I", .methodLink RX12 266 yX12_isTable, .instanceMethod yX12_isTable, .selects RX12 yX12_isTable yX12_isTable, .initialized RX12, .code yX12_isTable cX12_isTable 2 (some .boolean), .fieldLink RX12 143 "SeatsRoundModel" "tables" "I", .methodLink RX12 136 yX12_in, .static yX12_in, .code yX12_in cX12_in 3 (some .boolean), .methodLink RX12 284 yX12_ones, .static yX12_ones, .code yX12_ones cX12_ones 3 (some .int)] ++ wsX120)
def wsX12_lies : List Cond := .code yX12_lies cX12_lies 6 (some .int) :: ([.fieldLink RX12 19 "SeatsRoundModel" "strength" "[I", .methodLink RX12 166 yX12_isKeeper, .instanceMethod yX12_isKeeper, .selects RX12 yX12_isKeeper yX12_isKeeper, .initialized RX12, .code yX12_isKeeper cX12_isKeeper 2 (some .boolean), .fieldLink RX12 140 "SeatsRoundModel" "keepers" "I", .methodLink RX12 136 yX12_in, .static yX12_in, .code yX12_in cX12_in 3 (some .boolean)] ++ wsX120)
def wsX12_comes : List Cond := .code yX12_comes cX12_comes 2 (some .int) :: ([.fieldLink RX12 310 "SeatsRoundModel" "comers" "I", .fieldLink RX12 86 "SeatsRoundModel" "comer" "[I", .methodLink RX12 166 yX12_isKeeper, .instanceMethod yX12_isKeeper, .selects RX12 yX12_isKeeper yX12_isKeeper, .initialized RX12, .code yX12_isKeeper cX12_isKeeper 2 (some .boolean), .fieldLink RX12 140 "SeatsRoundModel" "keepers" "I", .methodLink RX12 136 yX12_in, .static yX12_in, .code yX12_in cX12_in 3 (some .boolean), .methodLink RX12 313 yX12_isComing, .instanceMethod yX12_isComing, .selects RX12 yX12_isComing yX12_isComing, .code yX12_isComing cX12_isComing 3 (some .boolean)] ++ wsX120)
def wsX12_order_r1 : List Cond := [Cond.fieldLink RX12 310 "SeatsRoundModel" "comers" "I", Cond.fieldLink RX12 35 "SeatsRoundModel" "tableZ" "[I", Cond.fieldLink RX12 133 "SeatsRoundModel" "names" "I", Cond.fieldLink RX12 127 "SeatsRoundModel" "keepsBy" "[I", Cond.fieldLink RX12 130 "SeatsRoundModel" "tried" "[I", Cond.fieldLink RX12 325 "SeatsRoundModel" "orderMany" "I", Cond.fieldLink RX12 89 "SeatsRoundModel" "orderTold" "[I", Cond.methodLink RX12 266 yX12_isTable, Cond.instanceMethod yX12_isTable, Cond.selects RX12 yX12_isTable yX12_isTable, Cond.initialized RX12, Cond.code yX12_isTable cX12_isTable 2 (some .boolean), Cond.fieldLink RX12 143 "SeatsRoundModel" "tables" "I", Cond.methodLink RX12 136 yX12_in, Cond.static yX12_in, Cond.code yX12_in cX12_in 3 (some .boolean), Cond.methodLink RX12 316 yX12_setBy, Cond.instanceMethod yX12_setBy, Cond.selects RX12 yX12_setBy yX12_setBy, Cond.code yX12_setBy cX12_setBy 5 (some .int), Cond.fieldLink RX12 32 "SeatsRoundModel" "tableOf" "[I", Cond.fieldLink RX12 86 "SeatsRoundModel" "comer" "[I", Cond.methodLink RX12 319 yX12_tries, Cond.instanceMethod yX12_tries]
def wsX12_order_r2 : List Cond := [Cond.selects RX12 yX12_tries yX12_tries, Cond.code yX12_tries cX12_tries 5 none, Cond.fieldLink RX12 47 "SeatsRoundModel" "lawSize" "[I", Cond.fieldLink RX12 50 "SeatsRoundModel" "lawByte" "[I", Cond.fieldLink RX12 140 "SeatsRoundModel" "keepers" "I", Cond.fieldLink RX12 53 "SeatsRoundModel" "counts" "[I", Cond.fieldLink RX12 56 "SeatsRoundModel" "streetIn" "[I", Cond.fieldLink RX12 16 "SeatsRoundModel" "street" "[I", Cond.methodLink RX12 223 yX12_isIn, Cond.instanceMethod yX12_isIn, Cond.selects RX12 yX12_isIn yX12_isIn, Cond.code yX12_isIn cX12_isIn 3 (some .boolean), Cond.methodLink RX12 170 yX12_countsNow, Cond.instanceMethod yX12_countsNow, Cond.selects RX12 yX12_countsNow yX12_countsNow, Cond.code yX12_countsNow cX12_countsNow 2 (some .int), Cond.fieldLink RX12 22 "SeatsRoundModel" "kind" "[I", Cond.fieldLink RX12 19 "SeatsRoundModel" "strength" "[I", Cond.methodLink RX12 231 yX12_numbers, Cond.instanceMethod yX12_numbers, Cond.selects RX12 yX12_numbers yX12_numbers, Cond.code yX12_numbers cX12_numbers 5 none, Cond.fieldLink RX12 206 "SeatsRoundModel" "nowN" "I", Cond.fieldLink RX12 209 "SeatsRoundModel" "nowU" "I"]
def wsX12_order_r3 : List Cond := [Cond.fieldLink RX12 212 "SeatsRoundModel" "nowT" "I", Cond.fieldLink RX12 215 "SeatsRoundModel" "nowX" "I", Cond.methodLink RX12 234 yX12_reads, Cond.instanceMethod yX12_reads, Cond.selects RX12 yX12_reads yX12_reads, Cond.code yX12_reads cX12_reads 7 (some .int), Cond.fieldLink RX12 180 "SeatsRoundModel" "lawTable" "I", Cond.fieldLink RX12 177 "SeatsRoundModel" "at" "I", Cond.fieldLink RX12 197 "SeatsRoundModel" "opens" "I", Cond.fieldLink RX12 183 "SeatsRoundModel" "isFaulty" "Z", Cond.fieldLink RX12 38 "SeatsRoundModel" "copies" "[I", Cond.fieldLink RX12 41 "SeatsRoundModel" "streets" "[I", Cond.fieldLink RX12 44 "SeatsRoundModel" "picks" "[I", Cond.methodLink RX12 187 yX12_here, Cond.instanceMethod yX12_here, Cond.selects RX12 yX12_here yX12_here, Cond.code yX12_here cX12_here 1 (some .int), Cond.methodLink RX12 203 yX12_eats, Cond.instanceMethod yX12_eats, Cond.selects RX12 yX12_eats yX12_eats, Cond.code yX12_eats cX12_eats 2 none, Cond.methodLink RX12 200 yX12_sum, Cond.instanceMethod yX12_sum, Cond.selects RX12 yX12_sum yX12_sum]
def wsX12_order_r4 : List Cond := [Cond.code yX12_sum cX12_sum 4 (some .int), Cond.methodLink RX12 191 yX12_product, Cond.instanceMethod yX12_product, Cond.selects RX12 yX12_product yX12_product, Cond.code yX12_one cX12_one 4 (some .int), Cond.code yX12_product cX12_product 4 (some .int), Cond.methodLink RX12 194 yX12_one, Cond.instanceMethod yX12_one, Cond.selects RX12 yX12_one yX12_one, Cond.methodLink RX12 218 yX12_held, Cond.static yX12_held, Cond.code yX12_held cX12_held 1 (some .int), Cond.methodLink RX12 237 yX12_sits, Cond.instanceMethod yX12_sits, Cond.selects RX12 yX12_sits yX12_sits, Cond.code yX12_sits cX12_sits 6 none, Cond.fieldLink RX12 62 "SeatsRoundModel" "seats" "[I", Cond.fieldLink RX12 59 "SeatsRoundModel" "seatMany" "[I", Cond.methodLink RX12 227 yX12_mixed, Cond.static yX12_mixed, Cond.code yX12_mixed cX12_mixed 3 (some .int), Cond.constant RX12 221 (104729), Cond.constant RX12 222 (1103515245), Cond.methodLink RX12 269 yX12_chooseName]
def wsX12_order_r5 : List Cond := [Cond.instanceMethod yX12_chooseName, Cond.selects RX12 yX12_chooseName yX12_chooseName, Cond.code yX12_chooseName cX12_chooseName 3 none, Cond.methodLink RX12 162 yX12_numberOf, Cond.instanceMethod yX12_numberOf, Cond.selects RX12 yX12_numberOf yX12_numberOf, Cond.code yX12_numberOf cX12_numberOf 5 (some .int), Cond.fieldLink RX12 7 "SeatsRoundModel" "nameSize" "[I", Cond.fieldLink RX12 13 "SeatsRoundModel" "nameByte" "[I", Cond.constant RX12 157 (16777619), Cond.methodLink RX12 263 yX12_choose, Cond.instanceMethod yX12_choose, Cond.selects RX12 yX12_choose yX12_choose, Cond.code yX12_choose cX12_choose 7 none, Cond.fieldLink RX12 250 "SeatsRoundModel" "chosenMany" "I", Cond.fieldLink RX12 240 "SeatsRoundModel" "pickedMany" "I", Cond.fieldLink RX12 118 "SeatsRoundModel" "picked" "[I", Cond.fieldLink RX12 121 "SeatsRoundModel" "chosen" "[I", Cond.methodLink RX12 253 yX12_pick, Cond.instanceMethod yX12_pick, Cond.selects RX12 yX12_pick yX12_pick, Cond.code yX12_pick cX12_pick 5 none, Cond.methodLink RX12 243 yX12_pickBest, Cond.instanceMethod yX12_pickBest]
def wsX12_order_r6 : List Cond := [Cond.selects RX12 yX12_pickBest yX12_pickBest, Cond.code yX12_pickBest cX12_pickBest 8 none, Cond.methodLink RX12 247 yX12_pickNext, Cond.instanceMethod yX12_pickNext, Cond.selects RX12 yX12_pickNext yX12_pickNext, Cond.code yX12_pickNext cX12_pickNext 5 none, Cond.methodLink RX12 257 yX12_streetsOf, Cond.instanceMethod yX12_streetsOf, Cond.selects RX12 yX12_streetsOf yX12_streetsOf, Cond.code yX12_streetsOf cX12_streetsOf 5 (some .int), Cond.methodLink RX12 260 yX12_isChosen, Cond.instanceMethod yX12_isChosen, Cond.selects RX12 yX12_isChosen yX12_isChosen, Cond.code yX12_isChosen cX12_isChosen 3 (some .boolean), Cond.methodLink RX12 281 yX12_bits, Cond.instanceMethod yX12_bits, Cond.selects RX12 yX12_bits yX12_bits, Cond.code yX12_bits cX12_bits 3 (some .int), Cond.methodLink RX12 322 yX12_movesBy, Cond.instanceMethod yX12_movesBy, Cond.selects RX12 yX12_movesBy yX12_movesBy, Cond.code yX12_movesBy cX12_movesBy 7 (some .int), Cond.methodLink RX12 284 yX12_ones, Cond.static yX12_ones]
def wsX12_order_r7 : List Cond := [Cond.code yX12_ones cX12_ones 3 (some .int), Cond.methodLink RX12 328 yX12_nextOrder, Cond.instanceMethod yX12_nextOrder, Cond.selects RX12 yX12_nextOrder yX12_nextOrder, Cond.code yX12_nextOrder cX12_nextOrder 8 (some .boolean)]
def wsX12_order : List Cond := .code yX12_order cX12_order 6 (some .int) :: ((wsX12_order_r1 ++ (wsX12_order_r2 ++ (wsX12_order_r3 ++ (wsX12_order_r4 ++ (wsX12_order_r5 ++ (wsX12_order_r6 ++ wsX12_order_r7)))))) ++ wsX120)
def wsX12_ordered : List Cond := .code yX12_ordered cX12_ordered 2 (some .int) :: ([.fieldLink RX12 325 "SeatsRoundModel" "orderMany" "I", .fieldLink RX12 89 "SeatsRoundModel" "orderTold" "[I", .methodLink RX12 136 yX12_in, .static yX12_in, .initialized RX12, .code yX12_in cX12_in 3 (some .boolean)] ++ wsX120)
def wsX12_turning : List Cond := .code yX12_turning cX12_turning 2 (some .int) :: ([.fieldLink RX12 331 "SeatsRoundModel" "turnings" "I", .fieldLink RX12 92 "SeatsRoundModel" "turning" "[I"] ++ wsX120)
def wsX12_harm_r1 : List Cond := [Cond.fieldLink RX12 331 "SeatsRoundModel" "turnings" "I", Cond.fieldLink RX12 32 "SeatsRoundModel" "tableOf" "[I", Cond.fieldLink RX12 92 "SeatsRoundModel" "turning" "[I", Cond.fieldLink RX12 140 "SeatsRoundModel" "keepers" "I", Cond.fieldLink RX12 95 "SeatsRoundModel" "harmShare" "I", Cond.methodLink RX12 266 yX12_isTable, Cond.instanceMethod yX12_isTable, Cond.selects RX12 yX12_isTable yX12_isTable, Cond.initialized RX12, Cond.code yX12_isTable cX12_isTable 2 (some .boolean), Cond.fieldLink RX12 143 "SeatsRoundModel" "tables" "I", Cond.methodLink RX12 136 yX12_in, Cond.static yX12_in, Cond.code yX12_in cX12_in 3 (some .boolean), Cond.methodLink RX12 319 yX12_tries, Cond.instanceMethod yX12_tries, Cond.selects RX12 yX12_tries yX12_tries, Cond.code yX12_tries cX12_tries 5 none, Cond.fieldLink RX12 35 "SeatsRoundModel" "tableZ" "[I", Cond.fieldLink RX12 47 "SeatsRoundModel" "lawSize" "[I", Cond.fieldLink RX12 50 "SeatsRoundModel" "lawByte" "[I", Cond.fieldLink RX12 53 "SeatsRoundModel" "counts" "[I", Cond.fieldLink RX12 56 "SeatsRoundModel" "streetIn" "[I", Cond.fieldLink RX12 16 "SeatsRoundModel" "street" "[I"]
def wsX12_harm_r2 : List Cond := [Cond.methodLink RX12 223 yX12_isIn, Cond.instanceMethod yX12_isIn, Cond.selects RX12 yX12_isIn yX12_isIn, Cond.code yX12_isIn cX12_isIn 3 (some .boolean), Cond.methodLink RX12 170 yX12_countsNow, Cond.instanceMethod yX12_countsNow, Cond.selects RX12 yX12_countsNow yX12_countsNow, Cond.code yX12_countsNow cX12_countsNow 2 (some .int), Cond.fieldLink RX12 22 "SeatsRoundModel" "kind" "[I", Cond.fieldLink RX12 19 "SeatsRoundModel" "strength" "[I", Cond.methodLink RX12 231 yX12_numbers, Cond.instanceMethod yX12_numbers, Cond.selects RX12 yX12_numbers yX12_numbers, Cond.code yX12_numbers cX12_numbers 5 none, Cond.fieldLink RX12 206 "SeatsRoundModel" "nowN" "I", Cond.fieldLink RX12 209 "SeatsRoundModel" "nowU" "I", Cond.fieldLink RX12 212 "SeatsRoundModel" "nowT" "I", Cond.fieldLink RX12 215 "SeatsRoundModel" "nowX" "I", Cond.methodLink RX12 234 yX12_reads, Cond.instanceMethod yX12_reads, Cond.selects RX12 yX12_reads yX12_reads, Cond.code yX12_reads cX12_reads 7 (some .int), Cond.fieldLink RX12 180 "SeatsRoundModel" "lawTable" "I", Cond.fieldLink RX12 177 "SeatsRoundModel" "at" "I"]
def wsX12_harm_r3 : List Cond := [Cond.fieldLink RX12 197 "SeatsRoundModel" "opens" "I", Cond.fieldLink RX12 183 "SeatsRoundModel" "isFaulty" "Z", Cond.fieldLink RX12 38 "SeatsRoundModel" "copies" "[I", Cond.fieldLink RX12 41 "SeatsRoundModel" "streets" "[I", Cond.fieldLink RX12 44 "SeatsRoundModel" "picks" "[I", Cond.methodLink RX12 187 yX12_here, Cond.instanceMethod yX12_here, Cond.selects RX12 yX12_here yX12_here, Cond.code yX12_here cX12_here 1 (some .int), Cond.methodLink RX12 203 yX12_eats, Cond.instanceMethod yX12_eats, Cond.selects RX12 yX12_eats yX12_eats, Cond.code yX12_eats cX12_eats 2 none, Cond.methodLink RX12 200 yX12_sum, Cond.instanceMethod yX12_sum, Cond.selects RX12 yX12_sum yX12_sum, Cond.code yX12_sum cX12_sum 4 (some .int), Cond.methodLink RX12 191 yX12_product, Cond.instanceMethod yX12_product, Cond.selects RX12 yX12_product yX12_product, Cond.code yX12_one cX12_one 4 (some .int), Cond.code yX12_product cX12_product 4 (some .int), Cond.methodLink RX12 194 yX12_one, Cond.instanceMethod yX12_one]
def wsX12_harm_r4 : List Cond := [Cond.selects RX12 yX12_one yX12_one, Cond.methodLink RX12 218 yX12_held, Cond.static yX12_held, Cond.code yX12_held cX12_held 1 (some .int), Cond.methodLink RX12 237 yX12_sits, Cond.instanceMethod yX12_sits, Cond.selects RX12 yX12_sits yX12_sits, Cond.code yX12_sits cX12_sits 6 none, Cond.fieldLink RX12 62 "SeatsRoundModel" "seats" "[I", Cond.fieldLink RX12 59 "SeatsRoundModel" "seatMany" "[I", Cond.methodLink RX12 227 yX12_mixed, Cond.static yX12_mixed, Cond.code yX12_mixed cX12_mixed 3 (some .int), Cond.constant RX12 221 (104729), Cond.constant RX12 222 (1103515245), Cond.methodLink RX12 272 yX12_shareOf, Cond.instanceMethod yX12_shareOf, Cond.selects RX12 yX12_shareOf yX12_shareOf, Cond.code yX12_shareOf cX12_shareOf 5 (some .int), Cond.fieldLink RX12 133 "SeatsRoundModel" "names" "I", Cond.fieldLink RX12 118 "SeatsRoundModel" "picked" "[I", Cond.methodLink RX12 162 yX12_numberOf, Cond.instanceMethod yX12_numberOf, Cond.selects RX12 yX12_numberOf yX12_numberOf]
def wsX12_harm_r5 : List Cond := [Cond.code yX12_numberOf cX12_numberOf 5 (some .int), Cond.fieldLink RX12 7 "SeatsRoundModel" "nameSize" "[I", Cond.fieldLink RX12 13 "SeatsRoundModel" "nameByte" "[I", Cond.constant RX12 157 (16777619), Cond.methodLink RX12 253 yX12_pick, Cond.instanceMethod yX12_pick, Cond.selects RX12 yX12_pick yX12_pick, Cond.code yX12_pick cX12_pick 5 none, Cond.fieldLink RX12 240 "SeatsRoundModel" "pickedMany" "I", Cond.methodLink RX12 243 yX12_pickBest, Cond.instanceMethod yX12_pickBest, Cond.selects RX12 yX12_pickBest yX12_pickBest, Cond.code yX12_pickBest cX12_pickBest 8 none, Cond.methodLink RX12 247 yX12_pickNext, Cond.instanceMethod yX12_pickNext, Cond.selects RX12 yX12_pickNext yX12_pickNext, Cond.code yX12_pickNext cX12_pickNext 5 none]
def wsX12_harm : List Cond := .code yX12_harm cX12_harm 7 (some .int) :: ((wsX12_harm_r1 ++ (wsX12_harm_r2 ++ (wsX12_harm_r3 ++ (wsX12_harm_r4 ++ wsX12_harm_r5)))) ++ wsX120)
def wsX12_harmed : List Cond := .code yX12_harmed cX12_harmed 1 (some .int) :: ([.fieldLink RX12 95 "SeatsRoundModel" "harmShare" "I"] ++ wsX120)
def wsX12_act_r1 : List Cond := [Cond.fieldLink RX12 334 "SeatsRoundModel" "bodies" "I", Cond.fieldLink RX12 22 "SeatsRoundModel" "kind" "[I", Cond.methodLink RX12 166 yX12_isKeeper, Cond.instanceMethod yX12_isKeeper, Cond.selects RX12 yX12_isKeeper yX12_isKeeper, Cond.initialized RX12, Cond.code yX12_isKeeper cX12_isKeeper 2 (some .boolean), Cond.fieldLink RX12 140 "SeatsRoundModel" "keepers" "I", Cond.methodLink RX12 136 yX12_in, Cond.static yX12_in, Cond.code yX12_in cX12_in 3 (some .boolean), Cond.methodLink RX12 340 yX12_findsFrom, Cond.instanceMethod yX12_findsFrom, Cond.selects RX12 yX12_findsFrom yX12_findsFrom, Cond.code yX12_findsFrom cX12_findsFrom 4 (some .int), Cond.fieldLink RX12 19 "SeatsRoundModel" "strength" "[I", Cond.methodLink RX12 337 yX12_begins, Cond.instanceMethod yX12_begins, Cond.selects RX12 yX12_begins yX12_begins, Cond.code yX12_begins cX12_begins 2 none, Cond.fieldLink RX12 99 "SeatsRoundModel" "trace" "[I", Cond.methodLink RX12 343 yX12_aboveOf, Cond.static yX12_aboveOf, Cond.code yX12_aboveOf cX12_aboveOf 1 (some .int)]
def wsX12_act_r2 : List Cond := [Cond.methodLink RX12 346 yX12_keepsFrom, Cond.instanceMethod yX12_keepsFrom, Cond.selects RX12 yX12_keepsFrom yX12_keepsFrom, Cond.code yX12_keepsFrom cX12_keepsFrom 5 (some .int), Cond.methodLink RX12 349 yX12_movesFrom, Cond.instanceMethod yX12_movesFrom, Cond.selects RX12 yX12_movesFrom yX12_movesFrom, Cond.code yX12_movesFrom cX12_movesFrom 5 (some .int), Cond.methodLink RX12 352 yX12_tellsFrom, Cond.instanceMethod yX12_tellsFrom, Cond.selects RX12 yX12_tellsFrom yX12_tellsFrom, Cond.code yX12_tellsFrom cX12_tellsFrom 5 (some .int)]
def wsX12_act : List Cond := .code yX12_act cX12_act 5 (some .int) :: ((wsX12_act_r1 ++ wsX12_act_r2) ++ wsX120)
def wsX12_trace : List Cond := .code yX12_trace cX12_trace 2 (some .int) :: ([.fieldLink RX12 334 "SeatsRoundModel" "bodies" "I", .fieldLink RX12 99 "SeatsRoundModel" "trace" "[I"] ++ wsX120)
def wsX12_isShelf : List Cond := .code yX12_isShelf cX12_isShelf 1 (some .boolean) :: ([.methodLink RX12 136 yX12_in, .static yX12_in, .initialized RX12, .code yX12_in cX12_in 3 (some .boolean)])
def wsX12_keep : List Cond := .code yX12_keep cX12_keep 3 (some .int) :: ([.fieldLink RX12 102 "SeatsRoundModel" "shelfIs" "[I", .fieldLink RX12 105 "SeatsRoundModel" "shelfSort" "[I", .methodLink RX12 355 yX12_isShelf, .static yX12_isShelf, .initialized RX12, .code yX12_isShelf cX12_isShelf 1 (some .boolean), .methodLink RX12 136 yX12_in, .static yX12_in, .code yX12_in cX12_in 3 (some .boolean), .methodLink RX12 166 yX12_isKeeper, .instanceMethod yX12_isKeeper, .selects RX12 yX12_isKeeper yX12_isKeeper, .code yX12_isKeeper cX12_isKeeper 2 (some .boolean), .fieldLink RX12 140 "SeatsRoundModel" "keepers" "I"] ++ wsX120)
def wsX12_row : List Cond := .code yX12_row cX12_row 5 (some .int) :: ([.fieldLink RX12 102 "SeatsRoundModel" "shelfIs" "[I", .fieldLink RX12 105 "SeatsRoundModel" "shelfSort" "[I", .fieldLink RX12 108 "SeatsRoundModel" "shelfSize" "[I", .fieldLink RX12 111 "SeatsRoundModel" "elements" "[J", .methodLink RX12 355 yX12_isShelf, .static yX12_isShelf, .initialized RX12, .code yX12_isShelf cX12_isShelf 1 (some .boolean), .methodLink RX12 136 yX12_in, .static yX12_in, .code yX12_in cX12_in 3 (some .boolean)] ++ wsX120)
def wsX12_barred : List Cond := .code yX12_barred cX12_barred 3 (some .int) :: ([.fieldLink RX12 105 "SeatsRoundModel" "shelfSort" "[I", .fieldLink RX12 102 "SeatsRoundModel" "shelfIs" "[I", .fieldLink RX12 108 "SeatsRoundModel" "shelfSize" "[I", .methodLink RX12 355 yX12_isShelf, .static yX12_isShelf, .initialized RX12, .code yX12_isShelf cX12_isShelf 1 (some .boolean), .methodLink RX12 136 yX12_in, .static yX12_in, .code yX12_in cX12_in 3 (some .boolean)] ++ wsX120)
def wsX12_put : List Cond := .code yX12_put cX12_put 7 (some .int) :: ([.fieldLink RX12 105 "SeatsRoundModel" "shelfSort" "[I", .fieldLink RX12 111 "SeatsRoundModel" "elements" "[J", .methodLink RX12 358 yX12_barred, .instanceMethod yX12_barred, .selects RX12 yX12_barred yX12_barred, .initialized RX12, .code yX12_barred cX12_barred 3 (some .int), .fieldLink RX12 102 "SeatsRoundModel" "shelfIs" "[I", .fieldLink RX12 108 "SeatsRoundModel" "shelfSize" "[I", .methodLink RX12 355 yX12_isShelf, .static yX12_isShelf, .code yX12_isShelf cX12_isShelf 1 (some .boolean), .methodLink RX12 136 yX12_in, .static yX12_in, .code yX12_in cX12_in 3 (some .boolean)] ++ wsX120)
def wsX12_element : List Cond := .code yX12_element cX12_element 3 (some .long) :: ([.constantLong RX12 361 (-9223372036854775808), .fieldLink RX12 111 "SeatsRoundModel" "elements" "[J", .methodLink RX12 358 yX12_barred, .instanceMethod yX12_barred, .selects RX12 yX12_barred yX12_barred, .initialized RX12, .code yX12_barred cX12_barred 3 (some .int), .fieldLink RX12 105 "SeatsRoundModel" "shelfSort" "[I", .fieldLink RX12 102 "SeatsRoundModel" "shelfIs" "[I", .fieldLink RX12 108 "SeatsRoundModel" "shelfSize" "[I", .methodLink RX12 355 yX12_isShelf, .static yX12_isShelf, .code yX12_isShelf cX12_isShelf 1 (some .boolean), .methodLink RX12 136 yX12_in, .static yX12_in, .code yX12_in cX12_in 3 (some .boolean)] ++ wsX120)
def wsX12_shift : List Cond := .code yX12_shift cX12_shift 10 (some .int) :: ([.fieldLink RX12 105 "SeatsRoundModel" "shelfSort" "[I", .fieldLink RX12 102 "SeatsRoundModel" "shelfIs" "[I", .fieldLink RX12 108 "SeatsRoundModel" "shelfSize" "[I", .fieldLink RX12 111 "SeatsRoundModel" "elements" "[J", .methodLink RX12 355 yX12_isShelf, .static yX12_isShelf, .initialized RX12, .code yX12_isShelf cX12_isShelf 1 (some .boolean), .methodLink RX12 136 yX12_in, .static yX12_in, .code yX12_in cX12_in 3 (some .boolean)] ++ wsX120)
def wsX12_taken : List Cond := .code yX12_taken cX12_taken 4 (some .int) :: ([.fieldLink RX12 105 "SeatsRoundModel" "shelfSort" "[I", .fieldLink RX12 102 "SeatsRoundModel" "shelfIs" "[I", .fieldLink RX12 22 "SeatsRoundModel" "kind" "[I", .methodLink RX12 355 yX12_isShelf, .static yX12_isShelf, .initialized RX12, .code yX12_isShelf cX12_isShelf 1 (some .boolean), .methodLink RX12 136 yX12_in, .static yX12_in, .code yX12_in cX12_in 3 (some .boolean)] ++ wsX120)
def wsX12_names : List Cond := .code yX12_names cX12_names 11 (some .int) :: ([.fieldLink RX12 102 "SeatsRoundModel" "shelfIs" "[I", .fieldLink RX12 105 "SeatsRoundModel" "shelfSort" "[I", .fieldLink RX12 108 "SeatsRoundModel" "shelfSize" "[I", .fieldLink RX12 111 "SeatsRoundModel" "elements" "[J", .fieldLink RX12 115 "SeatsRoundModel" "told" "[I", .fieldLink RX12 133 "SeatsRoundModel" "names" "I", .methodLink RX12 355 yX12_isShelf, .static yX12_isShelf, .initialized RX12, .code yX12_isShelf cX12_isShelf 1 (some .boolean), .methodLink RX12 136 yX12_in, .static yX12_in, .code yX12_in cX12_in 3 (some .boolean), .methodLink RX12 149 yX12_found, .instanceMethod yX12_found, .selects RX12 yX12_found yX12_found, .code yX12_found cX12_found 5 (some .int), .fieldLink RX12 7 "SeatsRoundModel" "nameSize" "[I", .fieldLink RX12 13 "SeatsRoundModel" "nameByte" "[I", .methodLink RX12 153 yX12_comesName, .instanceMethod yX12_comesName, .selects RX12 yX12_comesName yX12_comesName, .code yX12_comesName cX12_comesName 3 none] ++ wsX120)
def wsX12_count : List Cond := .code yX12_count cX12_count 4 (some .int) :: ([.fieldLink RX12 133 "SeatsRoundModel" "names" "I", .fieldLink RX12 140 "SeatsRoundModel" "keepers" "I", .fieldLink RX12 143 "SeatsRoundModel" "tables" "I", .fieldLink RX12 146 "SeatsRoundModel" "taped" "I", .fieldLink RX12 290 "SeatsRoundModel" "writings" "I", .fieldLink RX12 334 "SeatsRoundModel" "bodies" "I", .methodLink RX12 173 yX12_many, .instanceMethod yX12_many, .selects RX12 yX12_many yX12_many, .initialized RX12, .code yX12_many cX12_many 5 (some .int), .fieldLink RX12 68 "SeatsRoundModel" "version" "[I", .fieldLink RX12 71 "SeatsRoundModel" "kept" "[I"] ++ wsX120)
def wsL_law_r1 : List Cond := [Cond.classLink RL 7 RX11, Cond.instantiable RX11 13, Cond.initialized RX11, Cond.classLink RL 10 RX12, Cond.instantiable RX12 59, Cond.initialized RX12, Cond.constantLong RL 158 (4294967295), Cond.methodLink RL 9 yX11_init, Cond.instanceMethod yX11_init, Cond.code yX11_init cX11_init 1 none, Cond.methodLink RX11 1 objectInit, Cond.instanceMethod objectInit, Cond.code objectInit ⟨#[0xb1]⟩ 1 none, Cond.classLink RX11 7 RX9, Cond.instantiable RX9 2, Cond.initialized RX9, Cond.fieldLink RX11 10 "SeatsRound" "tape" "LSeatsRound$Tape;", Cond.classLink RX11 16 RX4, Cond.instantiable RX4 4, Cond.initialized RX4, Cond.fieldLink RX11 19 "SeatsRound" "nameList" "LSeatsRound$NameList;", Cond.classLink RX11 23 RX2, Cond.instantiable RX2 6, Cond.initialized RX2]
def wsL_law_r2 : List Cond := [Cond.fieldLink RX11 26 "SeatsRound" "keepers" "LSeatsRound$Keepers;", Cond.classLink RX11 30 RX3, Cond.instantiable RX3 8, Cond.initialized RX3, Cond.fieldLink RX11 33 "SeatsRound" "law" "LSeatsRound$Law;", Cond.classLink RX11 37 RX1, Cond.instantiable RX1 9, Cond.initialized RX1, Cond.fieldLink RX11 42 "SeatsRound" "choice" "LSeatsRound$Choice;", Cond.classLink RX11 46 RX8, Cond.fieldLink RX11 48 "SeatsRound" "tables" "[LSeatsRound$Table;", Cond.fieldLink RX11 52 "SeatsRound" "tableCount" "I", Cond.instantiable RX8 13, Cond.initialized RX8, Cond.fieldLink RX11 57 "SeatsRound" "draft" "LSeatsRound$Table;", Cond.classLink RX11 61 RX6, Cond.instantiable RX6 12, Cond.initialized RX6, Cond.fieldLink RX11 66 "SeatsRound" "parcels" "LSeatsRound$Parcels;", Cond.classLink RX11 70 RX5, Cond.instantiable RX5 10, Cond.initialized RX5, Cond.fieldLink RX11 75 "SeatsRound" "orders" "LSeatsRound$Orders;", Cond.classLink RX11 79 RX10]
def wsL_law_r3 : List Cond := [Cond.instantiable RX10 5, Cond.initialized RX10, Cond.fieldLink RX11 84 "SeatsRound" "turnings" "LSeatsRound$Turnings;", Cond.classLink RX11 88 RX0, Cond.instantiable RX0 5, Cond.initialized RX0, Cond.fieldLink RX11 91 "SeatsRound" "acts" "LSeatsRound$Acts;", Cond.classLink RX11 95 RX7, Cond.instantiable RX7 4, Cond.initialized RX7, Cond.fieldLink RX11 98 "SeatsRound" "rows" "LSeatsRound$Rows;", Cond.instanceMethod yX9_init, Cond.code yX9_init cX9_init 1 none, Cond.methodLink RX9 3 objectInit, Cond.arrayClass .byte, Cond.fieldLink RX9 9 "SeatsRound$Tape" "bytes" "[B", Cond.fieldLink RX9 15 "SeatsRound$Tape" "length" "I", Cond.instanceMethod yX4_init, Cond.code yX4_init cX4_init 1 none, Cond.methodLink RX4 3 objectInit, Cond.classLink RX4 9 "[[B", Cond.fieldLink RX4 11 "SeatsRound$NameList" "bytes" "[[B", Cond.arrayClass .int, Cond.fieldLink RX4 16 "SeatsRound$NameList" "size" "[I"]
def wsL_law_r4 : List Cond := [Cond.fieldLink RX4 20 "SeatsRound$NameList" "read" "[B", Cond.fieldLink RX4 24 "SeatsRound$NameList" "count" "I", Cond.instanceMethod yX2_init, Cond.code yX2_init cX2_init 1 none, Cond.methodLink RX2 3 objectInit, Cond.fieldLink RX2 9 "SeatsRound$Keepers" "kind" "[I", Cond.fieldLink RX2 15 "SeatsRound$Keepers" "street" "[I", Cond.fieldLink RX2 18 "SeatsRound$Keepers" "strength" "[I", Cond.fieldLink RX2 21 "SeatsRound$Keepers" "table" "[I", Cond.arrayClass .boolean, Cond.fieldLink RX2 24 "SeatsRound$Keepers" "fallen" "[Z", Cond.fieldLink RX2 28 "SeatsRound$Keepers" "count" "I", Cond.instanceMethod yX3_init, Cond.code yX3_init cX3_init 1 none, Cond.methodLink RX3 3 objectInit, Cond.fieldLink RX3 9 "SeatsRound$Law" "text" "[B", Cond.fieldLink RX3 15 "SeatsRound$Law" "length" "I", Cond.fieldLink RX3 19 "SeatsRound$Law" "at" "I", Cond.fieldLink RX3 22 "SeatsRound$Law" "fault" "I", Cond.fieldLink RX3 25 "SeatsRound$Law" "members" "I", Cond.fieldLink RX3 28 "SeatsRound$Law" "streetsIn" "I", Cond.fieldLink RX3 31 "SeatsRound$Law" "weights" "I", Cond.fieldLink RX3 34 "SeatsRound$Law" "greatest" "I", Cond.methodLink RX11 39 yX1_init]
def wsL_law_r5 : List Cond := [Cond.instanceMethod yX1_init, Cond.code yX1_init cX1_init 2 none, Cond.methodLink RX1 3 objectInit, Cond.fieldLink RX1 9 "SeatsRound$Choice" "picks" "[I", Cond.fieldLink RX1 15 "SeatsRound$Choice" "chosen" "[I", Cond.fieldLink RX1 18 "SeatsRound$Choice" "pickCount" "I", Cond.fieldLink RX1 22 "SeatsRound$Choice" "chosenCount" "I", Cond.fieldLink RX1 25 "SeatsRound$Choice" "chosenBits" "I", Cond.fieldLink RX1 28 "SeatsRound$Choice" "streetBits" "I", Cond.fieldLink RX1 31 "SeatsRound$Choice" "pickBits" "I", Cond.fieldLink RX1 34 "SeatsRound$Choice" "sums" "[I", Cond.fieldLink RX1 37 "SeatsRound$Choice" "keepers" "LSeatsRound$Keepers;", Cond.instanceMethod yX8_init, Cond.code yX8_init cX8_init 1 none, Cond.methodLink RX8 3 objectInit, Cond.fieldLink RX8 9 "SeatsRound$Table" "members" "I", Cond.fieldLink RX8 15 "SeatsRound$Table" "turn" "I", Cond.fieldLink RX8 18 "SeatsRound$Table" "copies" "I", Cond.fieldLink RX8 21 "SeatsRound$Table" "streets" "I", Cond.fieldLink RX8 24 "SeatsRound$Table" "way" "I", Cond.fieldLink RX8 27 "SeatsRound$Table" "seats" "I", Cond.fieldLink RX8 30 "SeatsRound$Table" "lawLength" "I", Cond.fieldLink RX8 33 "SeatsRound$Table" "oddsCounted" "Z", Cond.fieldLink RX8 37 "SeatsRound$Table" "weight" "[I"]
def wsL_law_r6 : List Cond := [Cond.fieldLink RX8 41 "SeatsRound$Table" "odds" "[I", Cond.fieldLink RX8 44 "SeatsRound$Table" "law" "[B", Cond.fieldLink RX8 48 "SeatsRound$Table" "owner" "[B", Cond.arrayClass .short, Cond.fieldLink RX8 51 "SeatsRound$Table" "ahead" "[S", Cond.methodLink RX11 63 yX6_init, Cond.instanceMethod yX6_init, Cond.code yX6_init cX6_init 4 none, Cond.methodLink RX6 3 objectInit, Cond.classLink RX6 9 "[[I", Cond.fieldLink RX6 11 "SeatsRound$Parcels" "version" "[[I", Cond.fieldLink RX6 16 "SeatsRound$Parcels" "kept" "[[I", Cond.fieldLink RX6 19 "SeatsRound$Parcels" "keptFor" "[[I", Cond.fieldLink RX6 22 "SeatsRound$Parcels" "pieces" "[[I", Cond.fieldLink RX6 25 "SeatsRound$Parcels" "pieceTo" "[[I", Cond.fieldLink RX6 28 "SeatsRound$Parcels" "latest" "[I", Cond.fieldLink RX6 32 "SeatsRound$Parcels" "oneTree" "[I", Cond.fieldLink RX6 35 "SeatsRound$Parcels" "otherTree" "[I", Cond.fieldLink RX6 38 "SeatsRound$Parcels" "writings" "I", Cond.fieldLink RX6 42 "SeatsRound$Parcels" "keepers" "LSeatsRound$Keepers;", Cond.fieldLink RX6 46 "SeatsRound$Parcels" "nameList" "LSeatsRound$NameList;", Cond.fieldLink RX6 50 "SeatsRound$Parcels" "choice" "LSeatsRound$Choice;", Cond.methodLink RX11 72 yX5_init, Cond.instanceMethod yX5_init]
def wsL_law_r7 : List Cond := [Cond.code yX5_init cX5_init 5 none, Cond.methodLink RX5 3 objectInit, Cond.fieldLink RX5 9 "SeatsRound$Orders" "told" "[I", Cond.fieldLink RX5 15 "SeatsRound$Orders" "toldCount" "I", Cond.fieldLink RX5 19 "SeatsRound$Orders" "path" "[I", Cond.fieldLink RX5 22 "SeatsRound$Orders" "pathLength" "I", Cond.classLink RX5 25 "[[I", Cond.fieldLink RX5 27 "SeatsRound$Orders" "holders" "[[I", Cond.fieldLink RX5 30 "SeatsRound$Orders" "least" "[I", Cond.fieldLink RX5 33 "SeatsRound$Orders" "keepers" "LSeatsRound$Keepers;", Cond.fieldLink RX5 37 "SeatsRound$Orders" "nameList" "LSeatsRound$NameList;", Cond.fieldLink RX5 41 "SeatsRound$Orders" "choice" "LSeatsRound$Choice;", Cond.fieldLink RX5 45 "SeatsRound$Orders" "law" "LSeatsRound$Law;", Cond.methodLink RX11 81 yX10_init, Cond.instanceMethod yX10_init, Cond.code yX10_init cX10_init 2 none, Cond.methodLink RX10 3 objectInit, Cond.fieldLink RX10 9 "SeatsRound$Turnings" "told" "[I", Cond.fieldLink RX10 15 "SeatsRound$Turnings" "count" "I", Cond.fieldLink RX10 19 "SeatsRound$Turnings" "greatest" "I", Cond.fieldLink RX10 22 "SeatsRound$Turnings" "shares" "[I", Cond.fieldLink RX10 25 "SeatsRound$Turnings" "nameList" "LSeatsRound$NameList;", Cond.instanceMethod yX0_init, Cond.code yX0_init cX0_init 1 none]
def wsL_law_r8 : List Cond := [Cond.methodLink RX0 3 objectInit, Cond.fieldLink RX0 9 "SeatsRound$Acts" "bodies" "[I", Cond.fieldLink RX0 15 "SeatsRound$Acts" "ran" "I", Cond.fieldLink RX0 19 "SeatsRound$Acts" "own" "I", Cond.fieldLink RX0 22 "SeatsRound$Acts" "number" "I", Cond.fieldLink RX0 25 "SeatsRound$Acts" "strength" "I", Cond.methodLink RX11 97 yX7_init, Cond.instanceMethod yX7_init, Cond.code yX7_init cX7_init 1 none, Cond.methodLink RX7 3 objectInit, Cond.fieldLink RX7 9 "SeatsRound$Rows" "keeper" "[I", Cond.fieldLink RX7 15 "SeatsRound$Rows" "sort" "[I", Cond.fieldLink RX7 18 "SeatsRound$Rows" "length" "[I", Cond.classLink RX7 21 "[[J", Cond.arrayClass .long, Cond.fieldLink RX7 23 "SeatsRound$Rows" "elements" "[[J", Cond.methodLink RX7 26 yJ7_fill_53178, Cond.static yJ7_fill_53178, Cond.initialized RJ7, Cond.code yJ7_fill_53178 cJ7_fill_53178 4 none, Cond.methodLink RL 12 yX12_init, Cond.instanceMethod yX12_init, Cond.code yX12_init cX12_init 2 none, Cond.methodLink RX12 1 objectInit]
def wsL_law_r9 : List Cond := [Cond.fieldLink RX12 7 "SeatsRoundModel" "nameSize" "[I", Cond.fieldLink RX12 13 "SeatsRoundModel" "nameByte" "[I", Cond.fieldLink RX12 16 "SeatsRoundModel" "street" "[I", Cond.fieldLink RX12 19 "SeatsRoundModel" "strength" "[I", Cond.fieldLink RX12 22 "SeatsRoundModel" "kind" "[I", Cond.fieldLink RX12 25 "SeatsRoundModel" "known" "[I", Cond.fieldLink RX12 28 "SeatsRoundModel" "isFallen" "[Z", Cond.fieldLink RX12 32 "SeatsRoundModel" "tableOf" "[I", Cond.fieldLink RX12 35 "SeatsRoundModel" "tableZ" "[I", Cond.fieldLink RX12 38 "SeatsRoundModel" "copies" "[I", Cond.fieldLink RX12 41 "SeatsRoundModel" "streets" "[I", Cond.fieldLink RX12 44 "SeatsRoundModel" "picks" "[I", Cond.fieldLink RX12 47 "SeatsRoundModel" "lawSize" "[I", Cond.fieldLink RX12 50 "SeatsRoundModel" "lawByte" "[I", Cond.fieldLink RX12 53 "SeatsRoundModel" "counts" "[I", Cond.fieldLink RX12 56 "SeatsRoundModel" "streetIn" "[I", Cond.fieldLink RX12 59 "SeatsRoundModel" "seatMany" "[I", Cond.fieldLink RX12 62 "SeatsRoundModel" "seats" "[I", Cond.fieldLink RX12 65 "SeatsRoundModel" "tape" "[I", Cond.fieldLink RX12 68 "SeatsRoundModel" "version" "[I", Cond.fieldLink RX12 71 "SeatsRoundModel" "kept" "[I", Cond.fieldLink RX12 74 "SeatsRoundModel" "keptFor" "[I", Cond.fieldLink RX12 77 "SeatsRoundModel" "pieces" "[I", Cond.fieldLink RX12 80 "SeatsRoundModel" "piecesTo" "[I"]
def wsL_law_r10 : List Cond := [Cond.fieldLink RX12 83 "SeatsRoundModel" "written" "[I", Cond.fieldLink RX12 86 "SeatsRoundModel" "comer" "[I", Cond.fieldLink RX12 89 "SeatsRoundModel" "orderTold" "[I", Cond.fieldLink RX12 92 "SeatsRoundModel" "turning" "[I", Cond.fieldLink RX12 95 "SeatsRoundModel" "harmShare" "I", Cond.fieldLink RX12 99 "SeatsRoundModel" "trace" "[I", Cond.fieldLink RX12 102 "SeatsRoundModel" "shelfIs" "[I", Cond.fieldLink RX12 105 "SeatsRoundModel" "shelfSort" "[I", Cond.fieldLink RX12 108 "SeatsRoundModel" "shelfSize" "[I", Cond.fieldLink RX12 111 "SeatsRoundModel" "elements" "[J", Cond.fieldLink RX12 115 "SeatsRoundModel" "told" "[I", Cond.fieldLink RX12 118 "SeatsRoundModel" "picked" "[I", Cond.fieldLink RX12 121 "SeatsRoundModel" "chosen" "[I", Cond.fieldLink RX12 124 "SeatsRoundModel" "odds" "[I", Cond.fieldLink RX12 127 "SeatsRoundModel" "keepsBy" "[I", Cond.fieldLink RX12 130 "SeatsRoundModel" "tried" "[I", Cond.methodLink RL 13 yX11_feed, Cond.instanceMethod yX11_feed, Cond.selects RX11 yX11_feed yX11_feed, Cond.code yX11_feed cX11_feed 3 (some .int), Cond.fieldLink RX11 102 "SeatsRound$Tape" "length" "I", Cond.methodLink RX11 105 yX9_append, Cond.instanceMethod yX9_append, Cond.selects RX9 yX9_append yX9_append]
def wsL_law_r11 : List Cond := [Cond.code yX9_append cX9_append 4 none, Cond.methodLink RL 17 yX12_feed, Cond.instanceMethod yX12_feed, Cond.selects RX12 yX12_feed yX12_feed, Cond.code yX12_feed cX12_feed 4 (some .int), Cond.fieldLink RX12 146 "SeatsRoundModel" "taped" "I", Cond.methodLink RX12 136 yX12_in, Cond.static yX12_in, Cond.code yX12_in cX12_in 3 (some .boolean), Cond.methodLink RL 18 yX11_name, Cond.instanceMethod yX11_name, Cond.selects RX11 yX11_name yX11_name, Cond.code yX11_name cX11_name 2 (some .int), Cond.fieldLink RX11 109 "SeatsRound$Tape" "bytes" "[B", Cond.fieldLink RX11 117 "SeatsRound$NameList" "count" "I", Cond.methodLink RX11 113 yX4_find, Cond.instanceMethod yX4_find, Cond.selects RX4 yX4_find yX4_find, Cond.code yX4_find cX4_find 5 (some .int), Cond.methodLink RX4 28 yX4_isAlike, Cond.static yX4_isAlike, Cond.code yX4_isAlike cX4_isAlike 5 (some .boolean), Cond.methodLink RX11 120 yX4_add, Cond.instanceMethod yX4_add]
def wsL_law_r12 : List Cond := [Cond.selects RX4 yX4_add yX4_add, Cond.code yX4_add cX4_add 4 (some .int), Cond.methodLink RX4 32 arraycopyName, Cond.native arraycopyName, Cond.static arraycopyName, Cond.initialized "java/lang/System", Cond.methodLink RL 22 yX12_name, Cond.instanceMethod yX12_name, Cond.selects RX12 yX12_name yX12_name, Cond.code yX12_name cX12_name 2 (some .int), Cond.fieldLink RX12 133 "SeatsRoundModel" "names" "I", Cond.methodLink RX12 149 yX12_found, Cond.instanceMethod yX12_found, Cond.selects RX12 yX12_found yX12_found, Cond.code yX12_found cX12_found 5 (some .int), Cond.methodLink RX12 153 yX12_comesName, Cond.instanceMethod yX12_comesName, Cond.selects RX12 yX12_comesName yX12_comesName, Cond.code yX12_comesName cX12_comesName 3 none, Cond.methodLink RL 23 yX11_number, Cond.instanceMethod yX11_number, Cond.selects RX11 yX11_number yX11_number, Cond.code yX11_number cX11_number 3 (some .int), Cond.methodLink RX11 123 yX4_has]
def wsL_law_r13 : List Cond := [Cond.instanceMethod yX4_has, Cond.selects RX4 yX4_has yX4_has, Cond.code yX4_has cX4_has 2 (some .boolean), Cond.methodLink RX11 127 yX4_placeOf, Cond.instanceMethod yX4_placeOf, Cond.selects RX4 yX4_placeOf yX4_placeOf, Cond.code yX4_placeOf cX4_placeOf 5 (some .int), Cond.constant RX4 38 (16777619), Cond.methodLink RL 26 yX12_number, Cond.instanceMethod yX12_number, Cond.selects RX12 yX12_number yX12_number, Cond.code yX12_number cX12_number 3 (some .int), Cond.methodLink RX12 158 yX12_isName, Cond.instanceMethod yX12_isName, Cond.selects RX12 yX12_isName yX12_isName, Cond.code yX12_isName cX12_isName 2 (some .boolean), Cond.methodLink RX12 162 yX12_numberOf, Cond.instanceMethod yX12_numberOf, Cond.selects RX12 yX12_numberOf yX12_numberOf, Cond.code yX12_numberOf cX12_numberOf 5 (some .int), Cond.constant RX12 157 (16777619), Cond.methodLink RL 27 yX11_keeper, Cond.instanceMethod yX11_keeper, Cond.selects RX11 yX11_keeper yX11_keeper]
def wsL_law_r14 : List Cond := [Cond.code yX11_keeper cX11_keeper 3 (some .int), Cond.fieldLink RX11 134 "SeatsRound$Keepers" "count" "I", Cond.methodLink RX11 131 yX11_isStrength, Cond.static yX11_isStrength, Cond.code yX11_isStrength cX11_isStrength 1 (some .boolean), Cond.methodLink RX11 135 yX2_add, Cond.instanceMethod yX2_add, Cond.selects RX2 yX2_add yX2_add, Cond.code yX2_add cX2_add 3 (some .int), Cond.methodLink RL 30 yX12_keeper, Cond.instanceMethod yX12_keeper, Cond.selects RX12 yX12_keeper yX12_keeper, Cond.code yX12_keeper cX12_keeper 3 (some .int), Cond.fieldLink RX12 140 "SeatsRoundModel" "keepers" "I", Cond.methodLink RL 31 yX11_become, Cond.instanceMethod yX11_become, Cond.selects RX11 yX11_become yX11_become, Cond.code yX11_become cX11_become 4 (some .int), Cond.fieldLink RX11 141 "SeatsRound$Keepers" "kind" "[I", Cond.methodLink RX11 137 yX2_has, Cond.instanceMethod yX2_has, Cond.selects RX2 yX2_has yX2_has, Cond.code yX2_has cX2_has 2 (some .boolean), Cond.methodLink RX11 138 yX11_isKind]
def wsL_law_r15 : List Cond := [Cond.static yX11_isKind, Cond.code yX11_isKind cX11_isKind 1 (some .boolean), Cond.methodLink RX11 145 yX6_handBack, Cond.instanceMethod yX6_handBack, Cond.selects RX6 yX6_handBack yX6_handBack, Cond.code yX6_handBack cX6_handBack 4 none, Cond.fieldLink RX6 120 "SeatsRound$Keepers" "count" "I", Cond.fieldLink RX6 123 "SeatsRound$NameList" "count" "I", Cond.methodLink RX6 100 yX6_takesGreater, Cond.instanceMethod yX6_takesGreater, Cond.selects RX6 yX6_takesGreater yX6_takesGreater, Cond.code yX6_takesGreater cX6_takesGreater 4 (some .boolean), Cond.methodLink RL 34 yX12_become, Cond.instanceMethod yX12_become, Cond.selects RX12 yX12_become yX12_become, Cond.code yX12_become cX12_become 6 (some .int), Cond.methodLink RX12 166 yX12_isKeeper, Cond.instanceMethod yX12_isKeeper, Cond.selects RX12 yX12_isKeeper yX12_isKeeper, Cond.code yX12_isKeeper cX12_isKeeper 2 (some .boolean), Cond.methodLink RL 35 yX11_strength, Cond.instanceMethod yX11_strength, Cond.selects RX11 yX11_strength yX11_strength, Cond.code yX11_strength cX11_strength 4 (some .int)]
def wsL_law_r16 : List Cond := [Cond.fieldLink RX11 149 "SeatsRound$Keepers" "strength" "[I", Cond.methodLink RL 38 yX12_strength, Cond.instanceMethod yX12_strength, Cond.selects RX12 yX12_strength yX12_strength, Cond.code yX12_strength cX12_strength 4 (some .int), Cond.methodLink RL 39 yX11_ofKeeper, Cond.instanceMethod yX11_ofKeeper, Cond.selects RX11 yX11_ofKeeper yX11_ofKeeper, Cond.code yX11_ofKeeper cX11_ofKeeper 3 (some .int), Cond.constant RX11 152 (-2000000000), Cond.fieldLink RX11 153 "SeatsRound$Keepers" "street" "[I", Cond.fieldLink RX11 160 "SeatsRound$Keepers" "table" "[I", Cond.fieldLink RX11 169 "SeatsRound$Keepers" "fallen" "[Z", Cond.methodLink RX11 156 yX2_counting, Cond.instanceMethod yX2_counting, Cond.selects RX2 yX2_counting yX2_counting, Cond.code yX2_counting cX2_counting 3 (some .int), Cond.methodLink RX11 163 yX6_copiesOn, Cond.instanceMethod yX6_copiesOn, Cond.selects RX6 yX6_copiesOn yX6_copiesOn, Cond.code yX6_copiesOn cX6_copiesOn 2 (some .int), Cond.methodLink RX6 141 yX6_filled, Cond.static yX6_filled, Cond.code yX6_filled cX6_filled 6 (some .int)]
def wsL_law_r17 : List Cond := [Cond.methodLink RX11 166 yX6_keptBy, Cond.instanceMethod yX6_keptBy, Cond.selects RX6 yX6_keptBy yX6_keptBy, Cond.code yX6_keptBy cX6_keptBy 2 (some .int), Cond.methodLink RL 42 yX12_ofKeeper, Cond.instanceMethod yX12_ofKeeper, Cond.selects RX12 yX12_ofKeeper yX12_ofKeeper, Cond.code yX12_ofKeeper cX12_ofKeeper 3 (some .int), Cond.constant RX12 169 (-2000000000), Cond.methodLink RX12 170 yX12_countsNow, Cond.instanceMethod yX12_countsNow, Cond.selects RX12 yX12_countsNow yX12_countsNow, Cond.code yX12_countsNow cX12_countsNow 2 (some .int), Cond.methodLink RX12 173 yX12_many, Cond.instanceMethod yX12_many, Cond.selects RX12 yX12_many yX12_many, Cond.code yX12_many cX12_many 5 (some .int), Cond.methodLink RL 43 yX11_table, Cond.instanceMethod yX11_table, Cond.selects RX11 yX11_table yX11_table, Cond.code yX11_table cX11_table 6 (some .int), Cond.methodLink RX11 173 yX8_takeMembers, Cond.instanceMethod yX8_takeMembers, Cond.selects RX8 yX8_takeMembers yX8_takeMembers]
def wsL_law_r18 : List Cond := [Cond.code yX8_takeMembers cX8_takeMembers 4 none, Cond.methodLink RX8 55 yX2_counting, Cond.methodLink RX11 177 yX8_takeLaw, Cond.instanceMethod yX8_takeLaw, Cond.selects RX8 yX8_takeLaw yX8_takeLaw, Cond.code yX8_takeLaw cX8_takeLaw 3 none, Cond.methodLink RX8 61 Lib.Math.min.name, Cond.static Lib.Math.min.name, Cond.initialized "java/lang/Math", Cond.code Lib.Math.min.name Lib.Math.min.code 2 (some .int), Cond.methodLink RX8 67 Lib.Math.max.name, Cond.static Lib.Math.max.name, Cond.code Lib.Math.max.name Lib.Math.max.code 2 (some .int), Cond.methodLink RX8 70 arraycopyName, Cond.methodLink RX11 181 yX3_workOut, Cond.instanceMethod yX3_workOut, Cond.selects RX3 yX3_workOut yX3_workOut, Cond.code yX3_workOut cX3_workOut 5 (some .int), Cond.fieldLink RX3 37 "SeatsRound$Table" "law" "[B", Cond.fieldLink RX3 42 "SeatsRound$Table" "lawLength" "I", Cond.fieldLink RX3 49 "SeatsRound$Table" "copies" "I", Cond.fieldLink RX3 52 "SeatsRound$Table" "streets" "I", Cond.fieldLink RX3 55 "SeatsRound$Table" "way" "I", Cond.methodLink RX3 45 yX3_look]
def wsL_law_r19 : List Cond := [Cond.instanceMethod yX3_look, Cond.selects RX3 yX3_look yX3_look, Cond.code yX3_look cX3_look 5 none, Cond.fieldLink RX3 66 "SeatsRound$Table" "members" "I", Cond.fieldLink RX3 73 "SeatsRound$Keepers" "street" "[I", Cond.fieldLink RX3 79 "SeatsRound$Table" "weight" "[I", Cond.methodLink RX3 82 Lib.Math.max.name, Cond.methodLink RX3 67 yJ6_bitCount_0f7a4, Cond.static yJ6_bitCount_0f7a4, Cond.initialized RJ6, Cond.code yJ6_bitCount_0f7a4 cJ6_bitCount_0f7a4 1 (some .int), Cond.constant RJ6 265 (1431655765), Cond.constant RJ6 266 (858993459), Cond.constant RJ6 267 (252645135), Cond.methodLink RX3 58 yX3_readPart, Cond.instanceMethod yX3_readPart, Cond.selects RX3 yX3_readPart yX3_readPart, Cond.code yX3_readPart cX3_readPart 5 (some .int), Cond.methodLink RX3 62 yX3_sign, Cond.instanceMethod yX3_sign, Cond.selects RX3 yX3_sign yX3_sign, Cond.code yX3_sign cX3_sign 1 (some .int), Cond.methodLink RX3 88 yX3_readSum, Cond.instanceMethod yX3_readSum]
def wsL_law_r20 : List Cond := [Cond.selects RX3 yX3_readSum yX3_readSum, Cond.code yX3_readSum cX3_readSum 6 (some .int), Cond.methodLink RX3 100 yX3_readProduct, Cond.instanceMethod yX3_readProduct, Cond.selects RX3 yX3_readProduct yX3_readProduct, Cond.code yX3_readBracket cX3_readBracket 3 (some .int), Cond.code yX3_readOperand cX3_readOperand 4 (some .int), Cond.methodLink RX3 106 yX3_isDigit, Cond.static yX3_isDigit, Cond.code yX3_isDigit cX3_isDigit 1 (some .boolean), Cond.methodLink RX3 110 yX3_readNumber, Cond.instanceMethod yX3_readNumber, Cond.selects RX3 yX3_readNumber yX3_readNumber, Cond.code yX3_readNumber cX3_readNumber 3 (some .int), Cond.methodLink RX3 113 yX3_readBracket, Cond.instanceMethod yX3_readBracket, Cond.selects RX3 yX3_readBracket yX3_readBracket, Cond.code yX3_readProduct cX3_readProduct 6 (some .int), Cond.methodLink RX3 103 yX3_readOperand, Cond.instanceMethod yX3_readOperand, Cond.selects RX3 yX3_readOperand yX3_readOperand, Cond.methodLink RX3 91 yX3_heldWithin, Cond.static yX3_heldWithin, Cond.code yX3_heldWithin cX3_heldWithin 1 (some .int)]
def wsL_law_r21 : List Cond := [Cond.methodLink RX3 97 Lib.Math.min.name, Cond.methodLink RX3 94 yX3_readWay, Cond.instanceMethod yX3_readWay, Cond.selects RX3 yX3_readWay yX3_readWay, Cond.code yX3_readWay cX3_readWay 2 (some .int), Cond.methodLink RX11 185 yX8_takeAll, Cond.instanceMethod yX8_takeAll, Cond.selects RX8 yX8_takeAll yX8_takeAll, Cond.code yX8_takeAll cX8_takeAll 2 none, Cond.methodLink RX8 76 yX8_takeLaw, Cond.methodLink RX11 189 yX8_seatAll, Cond.instanceMethod yX8_seatAll, Cond.selects RX8 yX8_seatAll yX8_seatAll, Cond.code yX8_seatAll cX8_seatAll 4 none, Cond.constant RX8 86 (104729), Cond.methodLink RX8 80 yJ7_fill_031fb, Cond.static yJ7_fill_031fb, Cond.code yJ7_fill_031fb cJ7_fill_031fb 4 none, Cond.static yX11_strewn, Cond.code yX11_strewn cX11_strewn 1 (some .int), Cond.constant RX11 423 (1103515245), Cond.methodLink RX8 90 yX8_freeFrom, Cond.instanceMethod yX8_freeFrom, Cond.selects RX8 yX8_freeFrom yX8_freeFrom]
def wsL_law_r22 : List Cond := [Cond.code yX8_freeFrom cX8_freeFrom 4 (some .int), Cond.static yX11_placeBehind, Cond.code yX11_placeBehind cX11_placeBehind 1 (some .int), Cond.methodLink RX8 93 yX8_linkPlaces, Cond.instanceMethod yX8_linkPlaces, Cond.selects RX8 yX8_linkPlaces yX8_linkPlaces, Cond.code yX8_linkPlaces cX8_linkPlaces 4 none, Cond.methodLink RL 46 yX12_table, Cond.instanceMethod yX12_table, Cond.selects RX12 yX12_table yX12_table, Cond.code yX12_table cX12_table 5 (some .int), Cond.fieldLink RX12 143 "SeatsRoundModel" "tables" "I", Cond.methodLink RX12 231 yX12_numbers, Cond.instanceMethod yX12_numbers, Cond.selects RX12 yX12_numbers yX12_numbers, Cond.code yX12_numbers cX12_numbers 5 none, Cond.fieldLink RX12 206 "SeatsRoundModel" "nowN" "I", Cond.fieldLink RX12 209 "SeatsRoundModel" "nowU" "I", Cond.fieldLink RX12 212 "SeatsRoundModel" "nowT" "I", Cond.fieldLink RX12 215 "SeatsRoundModel" "nowX" "I", Cond.methodLink RX12 223 yX12_isIn, Cond.instanceMethod yX12_isIn, Cond.selects RX12 yX12_isIn yX12_isIn, Cond.code yX12_isIn cX12_isIn 3 (some .boolean)]
def wsL_law_r23 : List Cond := [Cond.methodLink RX12 234 yX12_reads, Cond.instanceMethod yX12_reads, Cond.selects RX12 yX12_reads yX12_reads, Cond.code yX12_reads cX12_reads 7 (some .int), Cond.fieldLink RX12 180 "SeatsRoundModel" "lawTable" "I", Cond.fieldLink RX12 177 "SeatsRoundModel" "at" "I", Cond.fieldLink RX12 197 "SeatsRoundModel" "opens" "I", Cond.fieldLink RX12 183 "SeatsRoundModel" "isFaulty" "Z", Cond.methodLink RX12 187 yX12_here, Cond.instanceMethod yX12_here, Cond.selects RX12 yX12_here yX12_here, Cond.code yX12_here cX12_here 1 (some .int), Cond.methodLink RX12 203 yX12_eats, Cond.instanceMethod yX12_eats, Cond.selects RX12 yX12_eats yX12_eats, Cond.code yX12_eats cX12_eats 2 none, Cond.methodLink RX12 200 yX12_sum, Cond.instanceMethod yX12_sum, Cond.selects RX12 yX12_sum yX12_sum, Cond.code yX12_sum cX12_sum 4 (some .int), Cond.methodLink RX12 191 yX12_product, Cond.instanceMethod yX12_product, Cond.selects RX12 yX12_product yX12_product, Cond.code yX12_one cX12_one 4 (some .int)]
def wsL_law_r24 : List Cond := [Cond.code yX12_product cX12_product 4 (some .int), Cond.methodLink RX12 194 yX12_one, Cond.instanceMethod yX12_one, Cond.selects RX12 yX12_one yX12_one, Cond.methodLink RX12 218 yX12_held, Cond.static yX12_held, Cond.code yX12_held cX12_held 1 (some .int), Cond.methodLink RX12 237 yX12_sits, Cond.instanceMethod yX12_sits, Cond.selects RX12 yX12_sits yX12_sits, Cond.code yX12_sits cX12_sits 6 none, Cond.methodLink RX12 227 yX12_mixed, Cond.static yX12_mixed, Cond.code yX12_mixed cX12_mixed 3 (some .int), Cond.constant RX12 221 (104729), Cond.constant RX12 222 (1103515245), Cond.methodLink RL 47 yX11_ofTable, Cond.instanceMethod yX11_ofTable, Cond.selects RX11 yX11_ofTable yX11_ofTable, Cond.code yX11_ofTable cX11_ofTable 4 (some .int), Cond.fieldLink RX11 196 "SeatsRound$Table" "members" "I", Cond.fieldLink RX11 199 "SeatsRound$Table" "seats" "I", Cond.fieldLink RX11 202 "SeatsRound$Table" "copies" "I", Cond.fieldLink RX11 205 "SeatsRound$Table" "streets" "I"]
def wsL_law_r25 : List Cond := [Cond.fieldLink RX11 208 "SeatsRound$Table" "way" "I", Cond.methodLink RX11 192 yX11_tableAt, Cond.instanceMethod yX11_tableAt, Cond.selects RX11 yX11_tableAt yX11_tableAt, Cond.code yX11_tableAt cX11_tableAt 2 (some (.object "SeatsRound$Table")), Cond.methodLink RX11 211 yX8_unevenness, Cond.instanceMethod yX8_unevenness, Cond.selects RX8 yX8_unevenness yX8_unevenness, Cond.code yX8_unevenness cX8_unevenness 4 (some .int), Cond.methodLink RX8 108 yX8_countOdds, Cond.instanceMethod yX8_countOdds, Cond.selects RX8 yX8_countOdds yX8_countOdds, Cond.code yX8_countOdds cX8_countOdds 3 none, Cond.methodLink RX8 102 yJ7_fill_53178, Cond.methodLink RX8 105 yX8_firstFor, Cond.instanceMethod yX8_firstFor, Cond.selects RX8 yX8_firstFor yX8_firstFor, Cond.code yX8_firstFor cX8_firstFor 6 (some .int), Cond.methodLink RX8 99 yX8_sumOf, Cond.instanceMethod yX8_sumOf, Cond.selects RX8 yX8_sumOf yX8_sumOf, Cond.code yX8_sumOf cX8_sumOf 3 (some .int), Cond.methodLink RL 50 yX12_ofTable, Cond.instanceMethod yX12_ofTable]
def wsL_law_r26 : List Cond := [Cond.selects RX12 yX12_ofTable yX12_ofTable, Cond.code yX12_ofTable cX12_ofTable 3 (some .int), Cond.methodLink RX12 266 yX12_isTable, Cond.instanceMethod yX12_isTable, Cond.selects RX12 yX12_isTable yX12_isTable, Cond.code yX12_isTable cX12_isTable 2 (some .boolean), Cond.methodLink RX12 278 yX12_even, Cond.instanceMethod yX12_even, Cond.selects RX12 yX12_even yX12_even, Cond.code yX12_even cX12_even 5 (some .int), Cond.methodLink RX12 275 yX12_findOdds, Cond.instanceMethod yX12_findOdds, Cond.selects RX12 yX12_findOdds yX12_findOdds, Cond.code yX12_findOdds cX12_findOdds 3 none, Cond.methodLink RX12 253 yX12_pick, Cond.instanceMethod yX12_pick, Cond.selects RX12 yX12_pick yX12_pick, Cond.code yX12_pick cX12_pick 5 none, Cond.fieldLink RX12 240 "SeatsRoundModel" "pickedMany" "I", Cond.methodLink RX12 243 yX12_pickBest, Cond.instanceMethod yX12_pickBest, Cond.selects RX12 yX12_pickBest yX12_pickBest, Cond.code yX12_pickBest cX12_pickBest 8 none, Cond.methodLink RX12 247 yX12_pickNext]
def wsL_law_r27 : List Cond := [Cond.instanceMethod yX12_pickNext, Cond.selects RX12 yX12_pickNext yX12_pickNext, Cond.code yX12_pickNext cX12_pickNext 5 none, Cond.methodLink RL 51 yX11_seat, Cond.instanceMethod yX11_seat, Cond.selects RX11 yX11_seat yX11_seat, Cond.code yX11_seat cX11_seat 4 (some .int), Cond.fieldLink RX11 218 "SeatsRound$Table" "owner" "[B", Cond.methodLink RX11 215 yX11_isPlace, Cond.static yX11_isPlace, Cond.code yX11_isPlace cX11_isPlace 1 (some .boolean), Cond.methodLink RL 54 yX12_seat, Cond.instanceMethod yX12_seat, Cond.selects RX12 yX12_seat yX12_seat, Cond.code yX12_seat cX12_seat 3 (some .int), Cond.methodLink RL 55 yX11_picked, Cond.instanceMethod yX11_picked, Cond.selects RX11 yX11_picked yX11_picked, Cond.code yX11_picked cX11_picked 5 (some .int), Cond.fieldLink RX11 225 "SeatsRound$Choice" "pickCount" "I", Cond.fieldLink RX11 228 "SeatsRound$Choice" "picks" "[I", Cond.methodLink RX11 221 yX1_pick, Cond.instanceMethod yX1_pick, Cond.selects RX1 yX1_pick yX1_pick]
def wsL_law_r28 : List Cond := [Cond.code yX1_pick cX1_pick 3 none, Cond.fieldLink RX1 41 "SeatsRound$Table" "way" "I", Cond.methodLink RX1 46 yX1_pickBySums, Cond.instanceMethod yX1_pickBySums, Cond.selects RX1 yX1_pickBySums yX1_pickBySums, Cond.code yX1_pickBySums cX1_pickBySums 7 none, Cond.fieldLink RX1 59 "SeatsRound$Table" "members" "I", Cond.methodLink RX1 85 yX8_sumOf, Cond.methodLink RX1 50 yX1_pickByJumps, Cond.instanceMethod yX1_pickByJumps, Cond.selects RX1 yX1_pickByJumps yX1_pickByJumps, Cond.code yX1_pickByJumps cX1_pickByJumps 4 none, Cond.methodLink RX1 82 yX1_pickFirstFrom, Cond.instanceMethod yX1_pickFirstFrom, Cond.selects RX1 yX1_pickFirstFrom yX1_pickFirstFrom, Cond.code yX1_pickFirstFrom cX1_pickFirstFrom 5 none, Cond.fieldLink RX1 56 "SeatsRound$Table" "seats" "I", Cond.fieldLink RX1 62 "SeatsRound$Table" "ahead" "[S", Cond.fieldLink RX1 66 "SeatsRound$Table" "owner" "[B", Cond.methodLink RX1 70 yX1_isPicked, Cond.instanceMethod yX1_isPicked, Cond.selects RX1 yX1_isPicked yX1_isPicked, Cond.code yX1_isPicked cX1_isPicked 2 (some .boolean), Cond.methodLink RX1 74 yX1_takePick]
def wsL_law_r29 : List Cond := [Cond.instanceMethod yX1_takePick, Cond.selects RX1 yX1_takePick yX1_takePick, Cond.code yX1_takePick cX1_takePick 2 none, Cond.methodLink RX1 53 yX1_pickRound, Cond.instanceMethod yX1_pickRound, Cond.selects RX1 yX1_pickRound yX1_pickRound, Cond.code yX1_pickRound cX1_pickRound 5 none, Cond.methodLink RL 59 yX12_picked, Cond.instanceMethod yX12_picked, Cond.selects RX12 yX12_picked yX12_picked, Cond.code yX12_picked cX12_picked 4 (some .int), Cond.methodLink RL 60 yX11_keeperOf, Cond.instanceMethod yX11_keeperOf, Cond.selects RX11 yX11_keeperOf yX11_keeperOf, Cond.code yX11_keeperOf cX11_keeperOf 5 (some .int), Cond.fieldLink RX11 231 "SeatsRound$Table" "turn" "I", Cond.fieldLink RX11 237 "SeatsRound$Choice" "chosenCount" "I", Cond.fieldLink RX11 240 "SeatsRound$Choice" "chosen" "[I", Cond.methodLink RX11 234 yX1_choose, Cond.instanceMethod yX1_choose, Cond.selects RX1 yX1_choose yX1_choose, Cond.code yX1_choose cX1_choose 4 none, Cond.fieldLink RX1 92 "SeatsRound$Table" "copies" "I", Cond.fieldLink RX1 95 "SeatsRound$Table" "streets" "I"]
def wsL_law_r30 : List Cond := [Cond.methodLink RX1 98 Lib.Math.min.name, Cond.fieldLink RX1 103 "SeatsRound$Keepers" "street" "[I", Cond.methodLink RX1 89 yX1_pick, Cond.methodLink RX1 108 yX1_takeChosen, Cond.instanceMethod yX1_takeChosen, Cond.selects RX1 yX1_takeChosen yX1_takeChosen, Cond.code yX1_takeChosen cX1_takeChosen 2 none, Cond.methodLink RX1 111 yX1_isChosen, Cond.instanceMethod yX1_isChosen, Cond.selects RX1 yX1_isChosen yX1_isChosen, Cond.code yX1_isChosen cX1_isChosen 2 (some .boolean), Cond.methodLink RL 63 yX12_keeperOf, Cond.instanceMethod yX12_keeperOf, Cond.selects RX12 yX12_keeperOf yX12_keeperOf, Cond.code yX12_keeperOf cX12_keeperOf 4 (some .int), Cond.fieldLink RX12 250 "SeatsRoundModel" "chosenMany" "I", Cond.methodLink RX12 269 yX12_chooseName, Cond.instanceMethod yX12_chooseName, Cond.selects RX12 yX12_chooseName yX12_chooseName, Cond.code yX12_chooseName cX12_chooseName 3 none, Cond.methodLink RX12 263 yX12_choose, Cond.instanceMethod yX12_choose, Cond.selects RX12 yX12_choose yX12_choose, Cond.code yX12_choose cX12_choose 7 none]
def wsL_law_r31 : List Cond := [Cond.methodLink RX12 257 yX12_streetsOf, Cond.instanceMethod yX12_streetsOf, Cond.selects RX12 yX12_streetsOf yX12_streetsOf, Cond.code yX12_streetsOf cX12_streetsOf 5 (some .int), Cond.methodLink RX12 260 yX12_isChosen, Cond.instanceMethod yX12_isChosen, Cond.selects RX12 yX12_isChosen yX12_isChosen, Cond.code yX12_isChosen cX12_isChosen 3 (some .boolean), Cond.methodLink RL 64 yX11_tooFew, Cond.instanceMethod yX11_tooFew, Cond.selects RX11 yX11_tooFew yX11_tooFew, Cond.code yX11_tooFew cX11_tooFew 5 (some .int), Cond.fieldLink RX11 243 "SeatsRound$Choice" "streetBits" "I", Cond.methodLink RX11 246 yJ6_bitCount_0f7a4, Cond.methodLink RL 68 yX12_tooFew, Cond.instanceMethod yX12_tooFew, Cond.selects RX12 yX12_tooFew yX12_tooFew, Cond.code yX12_tooFew cX12_tooFew 4 (some .int), Cond.methodLink RL 69 yX11_share, Cond.instanceMethod yX11_share, Cond.selects RX11 yX11_share yX11_share, Cond.code yX11_share cX11_share 7 (some .int), Cond.fieldLink RX11 254 "SeatsRound$Table" "odds" "[I", Cond.methodLink RX11 251 yX8_countOdds]
def wsL_law_r32 : List Cond := [Cond.methodLink RX11 257 yX8_firstFor, Cond.methodLink RL 72 yX12_share, Cond.instanceMethod yX12_share, Cond.selects RX12 yX12_share yX12_share, Cond.code yX12_share cX12_share 4 (some .int), Cond.methodLink RX12 272 yX12_shareOf, Cond.instanceMethod yX12_shareOf, Cond.selects RX12 yX12_shareOf yX12_shareOf, Cond.code yX12_shareOf cX12_shareOf 5 (some .int), Cond.methodLink RL 73 yX11_moves, Cond.instanceMethod yX11_moves, Cond.selects RX11 yX11_moves yX11_moves, Cond.code yX11_moves cX11_moves 11 (some .int), Cond.fieldLink RX11 264 "SeatsRound$Choice" "chosenBits" "I", Cond.methodLink RX11 260 yX8_alikeIn, Cond.instanceMethod yX8_alikeIn, Cond.selects RX8 yX8_alikeIn yX8_alikeIn, Cond.code yX8_alikeIn cX8_alikeIn 4 (some .int), Cond.methodLink RL 76 yX12_moves, Cond.instanceMethod yX12_moves, Cond.selects RX12 yX12_moves yX12_moves, Cond.code yX12_moves cX12_moves 10 (some .int), Cond.methodLink RX12 281 yX12_bits, Cond.instanceMethod yX12_bits]
def wsL_law_r33 : List Cond := [Cond.selects RX12 yX12_bits yX12_bits, Cond.code yX12_bits cX12_bits 3 (some .int), Cond.methodLink RX12 284 yX12_ones, Cond.static yX12_ones, Cond.code yX12_ones cX12_ones 3 (some .int), Cond.methodLink RL 77 yX11_knows, Cond.instanceMethod yX11_knows, Cond.selects RX11 yX11_knows yX11_knows, Cond.code yX11_knows cX11_knows 4 (some .int), Cond.methodLink RL 80 yX12_knows, Cond.instanceMethod yX12_knows, Cond.selects RX12 yX12_knows yX12_knows, Cond.code yX12_knows cX12_knows 4 (some .int), Cond.methodLink RL 81 yX11_write, Cond.instanceMethod yX11_write, Cond.selects RX11 yX11_write yX11_write, Cond.code yX11_write cX11_write 4 (some .int), Cond.methodLink RX11 267 yX2_isUp, Cond.instanceMethod yX2_isUp, Cond.selects RX2 yX2_isUp yX2_isUp, Cond.code yX2_isUp cX2_isUp 2 (some .boolean), Cond.methodLink RX11 270 yX6_spread, Cond.instanceMethod yX6_spread, Cond.selects RX6 yX6_spread yX6_spread]
def wsL_law_r34 : List Cond := [Cond.code yX6_spread cX6_spread 5 (some .int), Cond.fieldLink RX6 54 "SeatsRound$Table" "turn" "I", Cond.fieldLink RX6 71 "SeatsRound$Choice" "chosenCount" "I", Cond.fieldLink RX6 74 "SeatsRound$Choice" "chosen" "[I", Cond.methodLink RX6 59 yX4_placeOf, Cond.methodLink RX6 65 yX1_choose, Cond.methodLink RX6 77 yX6_reaches, Cond.instanceMethod yX6_reaches, Cond.selects RX6 yX6_reaches yX6_reaches, Cond.code yX6_reaches cX6_reaches 3 (some .boolean), Cond.fieldLink RX6 81 "SeatsRound$Keepers" "fallen" "[Z", Cond.fieldLink RX6 87 "SeatsRound$Keepers" "kind" "[I", Cond.methodLink RX6 90 yX6_isKeptFor, Cond.instanceMethod yX6_isKeptFor, Cond.selects RX6 yX6_isKeptFor yX6_isKeptFor, Cond.code yX6_isKeptFor cX6_isKeptFor 5 (some .boolean), Cond.fieldLink RX6 107 "SeatsRound$Choice" "pickCount" "I", Cond.fieldLink RX6 110 "SeatsRound$Choice" "picks" "[I", Cond.methodLink RX6 113 yX1_isChosen, Cond.methodLink RX6 117 yX2_isUp, Cond.methodLink RX6 93 yX6_receives, Cond.instanceMethod yX6_receives, Cond.selects RX6 yX6_receives yX6_receives, Cond.code yX6_receives cX6_receives 4 (some .boolean)]
def wsL_law_r35 : List Cond := [Cond.methodLink RX6 97 yX6_hasRoom, Cond.instanceMethod yX6_hasRoom, Cond.selects RX6 yX6_hasRoom yX6_hasRoom, Cond.code yX6_hasRoom cX6_hasRoom 3 (some .boolean), Cond.methodLink RX6 103 yX6_copiesOn, Cond.methodLink RL 84 yX12_write, Cond.instanceMethod yX12_write, Cond.selects RX12 yX12_write yX12_write, Cond.code yX12_write cX12_write 7 (some .int), Cond.fieldLink RX12 290 "SeatsRoundModel" "writings" "I", Cond.methodLink RX12 287 yX12_isAwake, Cond.instanceMethod yX12_isAwake, Cond.selects RX12 yX12_isAwake yX12_isAwake, Cond.code yX12_isAwake cX12_isAwake 2 (some .boolean), Cond.methodLink RX12 293 yX12_keeps, Cond.instanceMethod yX12_keeps, Cond.selects RX12 yX12_keeps yX12_keeps, Cond.code yX12_keeps cX12_keeps 8 (some .int), Cond.methodLink RX12 297 yX12_hasRoom, Cond.instanceMethod yX12_hasRoom, Cond.selects RX12 yX12_hasRoom yX12_hasRoom, Cond.code yX12_hasRoom cX12_hasRoom 3 (some .boolean), Cond.methodLink RL 85 yX11_read, Cond.instanceMethod yX11_read]
def wsL_law_r36 : List Cond := [Cond.selects RX11 yX11_read yX11_read, Cond.code yX11_read cX11_read 4 (some .int), Cond.methodLink RX11 274 yX6_greatestFor, Cond.instanceMethod yX6_greatestFor, Cond.selects RX6 yX6_greatestFor yX6_greatestFor, Cond.code yX6_greatestFor cX6_greatestFor 6 (some .int), Cond.methodLink RX6 130 Lib.Math.max.name, Cond.methodLink RL 88 yX12_read, Cond.instanceMethod yX12_read, Cond.selects RX12 yX12_read yX12_read, Cond.code yX12_read cX12_read 6 (some .int), Cond.methodLink RL 89 yX11_onShelf, Cond.instanceMethod yX11_onShelf, Cond.selects RX11 yX11_onShelf yX11_onShelf, Cond.code yX11_onShelf cX11_onShelf 4 (some .int), Cond.fieldLink RX11 277 "SeatsRound$Parcels" "version" "[[I", Cond.fieldLink RX11 281 "SeatsRound$Parcels" "kept" "[[I", Cond.fieldLink RX11 284 "SeatsRound$Parcels" "keptFor" "[[I", Cond.fieldLink RX11 287 "SeatsRound$Parcels" "pieces" "[[I", Cond.methodLink RL 92 yX12_onShelf, Cond.instanceMethod yX12_onShelf, Cond.selects RX12 yX12_onShelf yX12_onShelf, Cond.code yX12_onShelf cX12_onShelf 5 (some .int), Cond.methodLink RL 93 yX11_fall]
def wsL_law_r37 : List Cond := [Cond.instanceMethod yX11_fall, Cond.selects RX11 yX11_fall yX11_fall, Cond.code yX11_fall cX11_fall 4 (some .int), Cond.methodLink RX11 290 yX6_empty, Cond.instanceMethod yX6_empty, Cond.selects RX6 yX6_empty yX6_empty, Cond.code yX6_empty cX6_empty 2 none, Cond.methodLink RX6 124 yJ7_fill_53178, Cond.methodLink RL 96 yX12_fall, Cond.instanceMethod yX12_fall, Cond.selects RX12 yX12_fall yX12_fall, Cond.code yX12_fall cX12_fall 5 (some .int), Cond.methodLink RL 97 yX11_half, Cond.instanceMethod yX11_half, Cond.selects RX11 yX11_half yX11_half, Cond.code yX11_half cX11_half 4 (some .int), Cond.methodLink RX11 293 yX6_movePiece, Cond.instanceMethod yX6_movePiece, Cond.selects RX6 yX6_movePiece yX6_movePiece, Cond.code yX6_movePiece cX6_movePiece 4 (some .int), Cond.methodLink RL 100 yX12_half, Cond.instanceMethod yX12_half, Cond.selects RX12 yX12_half yX12_half, Cond.code yX12_half cX12_half 6 (some .int)]
def wsL_law_r38 : List Cond := [Cond.methodLink RL 101 yX11_mend, Cond.instanceMethod yX11_mend, Cond.selects RX11 yX11_mend yX11_mend, Cond.code yX11_mend cX11_mend 3 (some .int), Cond.methodLink RX11 297 yX6_mendAll, Cond.instanceMethod yX6_mendAll, Cond.selects RX6 yX6_mendAll yX6_mendAll, Cond.code yX6_mendAll cX6_mendAll 7 (some .int), Cond.methodLink RX6 135 yX6_greatestAnywhere, Cond.instanceMethod yX6_greatestAnywhere, Cond.selects RX6 yX6_greatestAnywhere yX6_greatestAnywhere, Cond.code yX6_greatestAnywhere cX6_greatestAnywhere 4 (some .int), Cond.methodLink RL 104 yX12_mend, Cond.instanceMethod yX12_mend, Cond.selects RX12 yX12_mend yX12_mend, Cond.code yX12_mend cX12_mend 7 (some .int), Cond.methodLink RL 105 yX11_trees, Cond.instanceMethod yX11_trees, Cond.selects RX11 yX11_trees yX11_trees, Cond.code yX11_trees cX11_trees 4 (some .int), Cond.methodLink RX11 300 yX6_compare, Cond.instanceMethod yX6_compare, Cond.selects RX6 yX6_compare yX6_compare, Cond.code yX6_compare cX6_compare 3 none]
def wsL_law_r39 : List Cond := [Cond.methodLink RX6 138 yX6_grow, Cond.instanceMethod yX6_grow, Cond.selects RX6 yX6_grow yX6_grow, Cond.code yX6_grow cX6_grow 4 none, Cond.methodLink RX11 303 yX6_wordsAsked, Cond.instanceMethod yX6_wordsAsked, Cond.selects RX6 yX6_wordsAsked yX6_wordsAsked, Cond.code yX6_wordsAsked cX6_wordsAsked 4 (some .int), Cond.methodLink RX11 306 yX6_unlikeLeaves, Cond.instanceMethod yX6_unlikeLeaves, Cond.selects RX6 yX6_unlikeLeaves yX6_unlikeLeaves, Cond.code yX6_unlikeLeaves cX6_unlikeLeaves 3 (some .int), Cond.methodLink RL 108 yX12_trees, Cond.instanceMethod yX12_trees, Cond.selects RX12 yX12_trees yX12_trees, Cond.code yX12_trees cX12_trees 6 (some .int), Cond.methodLink RX12 307 yX12_wordsBelow, Cond.instanceMethod yX12_wordsBelow, Cond.selects RX12 yX12_wordsBelow yX12_wordsBelow, Cond.code yX12_wordsBelow cX12_wordsBelow 5 (some .int), Cond.methodLink RX12 303 yX12_areUnlike, Cond.instanceMethod yX12_areUnlike, Cond.selects RX12 yX12_areUnlike yX12_areUnlike, Cond.code yX12_areUnlike cX12_areUnlike 7 (some .boolean)]
def wsL_law_r40 : List Cond := [Cond.methodLink RX12 300 yX12_leafOf, Cond.instanceMethod yX12_leafOf, Cond.selects RX12 yX12_leafOf yX12_leafOf, Cond.code yX12_leafOf cX12_leafOf 5 (some .int), Cond.methodLink RL 109 yX11_noon, Cond.instanceMethod yX11_noon, Cond.selects RX11 yX11_noon yX11_noon, Cond.code yX11_noon cX11_noon 7 (some .int), Cond.methodLink RX11 309 yX11_upward, Cond.static yX11_upward, Cond.code yX11_upward cX11_upward 2 (some .int), Cond.methodLink RL 112 yX12_noon, Cond.instanceMethod yX12_noon, Cond.selects RX12 yX12_noon yX12_noon, Cond.code yX12_noon cX12_noon 6 (some .int), Cond.methodLink RL 113 yX11_lies, Cond.instanceMethod yX11_lies, Cond.selects RX11 yX11_lies yX11_lies, Cond.code yX11_lies cX11_lies 7 (some .int), Cond.methodLink RX11 312 Lib.Math.max.name, Cond.methodLink RL 117 yX12_lies, Cond.instanceMethod yX12_lies, Cond.selects RX12 yX12_lies yX12_lies, Cond.code yX12_lies cX12_lies 6 (some .int)]
def wsL_law_r41 : List Cond := [Cond.methodLink RL 118 yX11_comes, Cond.instanceMethod yX11_comes, Cond.selects RX11 yX11_comes yX11_comes, Cond.code yX11_comes cX11_comes 2 (some .int), Cond.fieldLink RX11 320 "SeatsRound$Orders" "toldCount" "I", Cond.fieldLink RX11 323 "SeatsRound$Orders" "told" "[I", Cond.methodLink RX11 317 yX5_isTold, Cond.instanceMethod yX5_isTold, Cond.selects RX5 yX5_isTold yX5_isTold, Cond.code yX5_isTold cX5_isTold 3 (some .boolean), Cond.methodLink RL 121 yX12_comes, Cond.instanceMethod yX12_comes, Cond.selects RX12 yX12_comes yX12_comes, Cond.code yX12_comes cX12_comes 2 (some .int), Cond.fieldLink RX12 310 "SeatsRoundModel" "comers" "I", Cond.methodLink RX12 313 yX12_isComing, Cond.instanceMethod yX12_isComing, Cond.selects RX12 yX12_isComing yX12_isComing, Cond.code yX12_isComing cX12_isComing 3 (some .boolean), Cond.methodLink RL 122 yX11_order, Cond.instanceMethod yX11_order, Cond.selects RX11 yX11_order yX11_order, Cond.code yX11_order cX11_order 4 (some .int), Cond.methodLink RX11 326 yX5_leastFrom]
def wsL_law_r42 : List Cond := [Cond.instanceMethod yX5_leastFrom, Cond.selects RX5 yX5_leastFrom yX5_leastFrom, Cond.code yX5_leastFrom cX5_leastFrom 5 (some .int), Cond.methodLink RX5 49 yX5_seatSet, Cond.instanceMethod yX5_seatSet, Cond.selects RX5 yX5_seatSet yX5_seatSet, Cond.code yX5_seatSet cX5_seatSet 6 (some .boolean), Cond.fieldLink RX5 67 "SeatsRound$Table" "members" "I", Cond.fieldLink RX5 70 "SeatsRound$Table" "weight" "[I", Cond.fieldLink RX5 84 "SeatsRound$Table" "turn" "I", Cond.fieldLink RX5 90 "SeatsRound$NameList" "count" "I", Cond.fieldLink RX5 105 "SeatsRound$Choice" "chosenBits" "I", Cond.methodLink RX5 61 yX8_takeAll, Cond.methodLink RX5 73 yX2_counting, Cond.methodLink RX5 78 yX3_workOut, Cond.methodLink RX5 87 yX8_seatAll, Cond.methodLink RX5 95 yX4_placeOf, Cond.methodLink RX5 99 yX1_choose, Cond.methodLink RX5 53 yX5_leastOnward, Cond.instanceMethod yX5_leastOnward, Cond.selects RX5 yX5_leastOnward yX5_leastOnward, Cond.code yX5_leastOnward cX5_leastOnward 5 (some .int), Cond.methodLink RX5 108 yX5_sumOver, Cond.instanceMethod yX5_sumOver]
def wsL_law_r43 : List Cond := [Cond.selects RX5 yX5_sumOver yX5_sumOver, Cond.code yX5_sumOver cX5_sumOver 6 (some .int), Cond.methodLink RX5 111 yJ6_bitCount_0f7a4, Cond.methodLink RX5 57 yX5_walk, Cond.instanceMethod yX5_walk, Cond.selects RX5 yX5_walk yX5_walk, Cond.code yX5_walk cX5_walk 5 none, Cond.methodLink RX5 116 yX5_nextOf, Cond.instanceMethod yX5_nextOf, Cond.selects RX5 yX5_nextOf yX5_nextOf, Cond.code yX5_nextOf cX5_nextOf 3 (some .int), Cond.methodLink RL 125 yX12_order, Cond.instanceMethod yX12_order, Cond.selects RX12 yX12_order yX12_order, Cond.code yX12_order cX12_order 6 (some .int), Cond.fieldLink RX12 325 "SeatsRoundModel" "orderMany" "I", Cond.methodLink RX12 316 yX12_setBy, Cond.instanceMethod yX12_setBy, Cond.selects RX12 yX12_setBy yX12_setBy, Cond.code yX12_setBy cX12_setBy 5 (some .int), Cond.methodLink RX12 319 yX12_tries, Cond.instanceMethod yX12_tries, Cond.selects RX12 yX12_tries yX12_tries, Cond.code yX12_tries cX12_tries 5 none]
def wsL_law_r44 : List Cond := [Cond.methodLink RX12 322 yX12_movesBy, Cond.instanceMethod yX12_movesBy, Cond.selects RX12 yX12_movesBy yX12_movesBy, Cond.code yX12_movesBy cX12_movesBy 7 (some .int), Cond.methodLink RX12 328 yX12_nextOrder, Cond.instanceMethod yX12_nextOrder, Cond.selects RX12 yX12_nextOrder yX12_nextOrder, Cond.code yX12_nextOrder cX12_nextOrder 8 (some .boolean), Cond.methodLink RL 126 yX11_ordered, Cond.instanceMethod yX11_ordered, Cond.selects RX11 yX11_ordered yX11_ordered, Cond.code yX11_ordered cX11_ordered 2 (some .int), Cond.fieldLink RX11 330 "SeatsRound$Orders" "pathLength" "I", Cond.fieldLink RX11 333 "SeatsRound$Orders" "path" "[I", Cond.methodLink RL 129 yX12_ordered, Cond.instanceMethod yX12_ordered, Cond.selects RX12 yX12_ordered yX12_ordered, Cond.code yX12_ordered cX12_ordered 2 (some .int), Cond.methodLink RL 130 yX11_turning, Cond.instanceMethod yX11_turning, Cond.selects RX11 yX11_turning yX11_turning, Cond.code yX11_turning cX11_turning 2 (some .int), Cond.fieldLink RX11 336 "SeatsRound$Turnings" "count" "I", Cond.fieldLink RX11 337 "SeatsRound$Turnings" "told" "[I"]
def wsL_law_r45 : List Cond := [Cond.methodLink RL 133 yX12_turning, Cond.instanceMethod yX12_turning, Cond.selects RX12 yX12_turning yX12_turning, Cond.code yX12_turning cX12_turning 2 (some .int), Cond.fieldLink RX12 331 "SeatsRoundModel" "turnings" "I", Cond.methodLink RL 134 yX11_harm, Cond.instanceMethod yX11_harm, Cond.selects RX11 yX11_harm yX11_harm, Cond.code yX11_harm cX11_harm 3 (some .int), Cond.methodLink RX11 338 yX10_leastHarm, Cond.instanceMethod yX10_leastHarm, Cond.selects RX10 yX10_leastHarm yX10_leastHarm, Cond.code yX10_leastHarm cX10_leastHarm 6 (some .int), Cond.methodLink RX10 29 yX8_takeAll, Cond.methodLink RX10 35 yX8_seatAll, Cond.methodLink RX10 39 yX10_greatestShare, Cond.instanceMethod yX10_greatestShare, Cond.selects RX10 yX10_greatestShare yX10_greatestShare, Cond.code yX10_greatestShare cX10_greatestShare 5 (some .int), Cond.fieldLink RX10 49 "SeatsRound$NameList" "count" "I", Cond.fieldLink RX10 52 "SeatsRound$Table" "turn" "I", Cond.methodLink RX10 63 Lib.Math.max.name, Cond.methodLink RX10 43 yJ7_fill_53178, Cond.methodLink RX10 55 yX4_placeOf]
def wsL_law_r46 : List Cond := [Cond.methodLink RX10 59 yX8_firstFor, Cond.methodLink RL 137 yX12_harm, Cond.instanceMethod yX12_harm, Cond.selects RX12 yX12_harm yX12_harm, Cond.code yX12_harm cX12_harm 7 (some .int), Cond.methodLink RL 138 yX11_harmed, Cond.instanceMethod yX11_harmed, Cond.selects RX11 yX11_harmed yX11_harmed, Cond.code yX11_harmed cX11_harmed 1 (some .int), Cond.fieldLink RX11 341 "SeatsRound$Turnings" "greatest" "I", Cond.methodLink RL 141 yX12_harmed, Cond.instanceMethod yX12_harmed, Cond.selects RX12 yX12_harmed yX12_harmed, Cond.code yX12_harmed cX12_harmed 1 (some .int), Cond.methodLink RL 142 yX11_act, Cond.instanceMethod yX11_act, Cond.selects RX11 yX11_act yX11_act, Cond.code yX11_act cX11_act 4 (some .int), Cond.fieldLink RX11 344 "SeatsRound$Acts" "ran" "I", Cond.methodLink RX11 347 yX0_run, Cond.instanceMethod yX0_run, Cond.selects RX0 yX0_run yX0_run, Cond.code yX0_run cX0_run 6 (some .int), Cond.methodLink RX0 28 yX0_findsFrom]
def wsL_law_r47 : List Cond := [Cond.instanceMethod yX0_findsFrom, Cond.selects RX0 yX0_findsFrom yX0_findsFrom, Cond.code yX0_findsFrom cX0_findsFrom 3 (some .int), Cond.methodLink RX0 41 yX0_begin, Cond.instanceMethod yX0_begin, Cond.selects RX0 yX0_begin yX0_begin, Cond.code yX0_begin cX0_begin 2 none, Cond.methodLink RX0 32 yX0_keepsFrom, Cond.instanceMethod yX0_keepsFrom, Cond.selects RX0 yX0_keepsFrom yX0_keepsFrom, Cond.code yX0_keepsFrom cX0_keepsFrom 4 (some .int), Cond.methodLink RX0 35 yX0_movesFrom, Cond.instanceMethod yX0_movesFrom, Cond.selects RX0 yX0_movesFrom yX0_movesFrom, Cond.code yX0_movesFrom cX0_movesFrom 4 (some .int), Cond.methodLink RX0 38 yX0_tellsFrom, Cond.instanceMethod yX0_tellsFrom, Cond.selects RX0 yX0_tellsFrom yX0_tellsFrom, Cond.code yX0_tellsFrom cX0_tellsFrom 4 (some .int), Cond.methodLink RL 145 yX12_act, Cond.instanceMethod yX12_act, Cond.selects RX12 yX12_act yX12_act, Cond.code yX12_act cX12_act 5 (some .int), Cond.fieldLink RX12 334 "SeatsRoundModel" "bodies" "I"]
def wsL_law_r48 : List Cond := [Cond.methodLink RX12 340 yX12_findsFrom, Cond.instanceMethod yX12_findsFrom, Cond.selects RX12 yX12_findsFrom yX12_findsFrom, Cond.code yX12_findsFrom cX12_findsFrom 4 (some .int), Cond.methodLink RX12 337 yX12_begins, Cond.instanceMethod yX12_begins, Cond.selects RX12 yX12_begins yX12_begins, Cond.code yX12_begins cX12_begins 2 none, Cond.methodLink RX12 343 yX12_aboveOf, Cond.static yX12_aboveOf, Cond.code yX12_aboveOf cX12_aboveOf 1 (some .int), Cond.methodLink RX12 346 yX12_keepsFrom, Cond.instanceMethod yX12_keepsFrom, Cond.selects RX12 yX12_keepsFrom yX12_keepsFrom, Cond.code yX12_keepsFrom cX12_keepsFrom 5 (some .int), Cond.methodLink RX12 349 yX12_movesFrom, Cond.instanceMethod yX12_movesFrom, Cond.selects RX12 yX12_movesFrom yX12_movesFrom, Cond.code yX12_movesFrom cX12_movesFrom 5 (some .int), Cond.methodLink RX12 352 yX12_tellsFrom, Cond.instanceMethod yX12_tellsFrom, Cond.selects RX12 yX12_tellsFrom yX12_tellsFrom, Cond.code yX12_tellsFrom cX12_tellsFrom 5 (some .int), Cond.methodLink RL 146 yX11_trace]
def wsL_law_r49 : List Cond := [Cond.instanceMethod yX11_trace, Cond.selects RX11 yX11_trace yX11_trace, Cond.code yX11_trace cX11_trace 2 (some .int), Cond.fieldLink RX11 351 "SeatsRound$Acts" "bodies" "[I", Cond.methodLink RL 149 yX12_trace, Cond.instanceMethod yX12_trace, Cond.selects RX12 yX12_trace yX12_trace, Cond.code yX12_trace cX12_trace 2 (some .int), Cond.methodLink RL 150 yX11_keep, Cond.instanceMethod yX11_keep, Cond.selects RX11 yX11_keep yX11_keep, Cond.code yX11_keep cX11_keep 3 (some .int), Cond.methodLink RX11 354 yX11_isShelf, Cond.static yX11_isShelf, Cond.code yX11_isShelf cX11_isShelf 1 (some .boolean), Cond.methodLink RX11 357 yX7_holdKeeper, Cond.instanceMethod yX7_holdKeeper, Cond.selects RX7 yX7_holdKeeper yX7_holdKeeper, Cond.code yX7_holdKeeper cX7_holdKeeper 3 none, Cond.methodLink RL 153 yX12_keep, Cond.instanceMethod yX12_keep, Cond.selects RX12 yX12_keep yX12_keep, Cond.code yX12_keep cX12_keep 3 (some .int), Cond.methodLink RX12 355 yX12_isShelf]
def wsL_law_r50 : List Cond := [Cond.static yX12_isShelf, Cond.code yX12_isShelf cX12_isShelf 1 (some .boolean), Cond.methodLink RL 154 yX11_row, Cond.instanceMethod yX11_row, Cond.selects RX11 yX11_row yX11_row, Cond.code yX11_row cX11_row 4 (some .int), Cond.methodLink RX11 360 yX7_holdRow, Cond.instanceMethod yX7_holdRow, Cond.selects RX7 yX7_holdRow yX7_holdRow, Cond.code yX7_holdRow cX7_holdRow 4 none, Cond.methodLink RX7 32 yJ7_fill_d0a16, Cond.static yJ7_fill_d0a16, Cond.code yJ7_fill_d0a16 cJ7_fill_d0a16 5 none, Cond.methodLink RL 157 yX12_row, Cond.instanceMethod yX12_row, Cond.selects RX12 yX12_row yX12_row, Cond.code yX12_row cX12_row 5 (some .int), Cond.methodLink RL 160 yX11_put, Cond.instanceMethod yX11_put, Cond.selects RX11 yX11_put yX11_put, Cond.code yX11_put cX11_put 6 (some .int), Cond.fieldLink RX11 367 "SeatsRound$Rows" "elements" "[[J", Cond.fieldLink RX11 371 "SeatsRound$Rows" "sort" "[I", Cond.methodLink RX11 364 yX7_refusalAt]
def wsL_law_r51 : List Cond := [Cond.instanceMethod yX7_refusalAt, Cond.selects RX7 yX7_refusalAt yX7_refusalAt, Cond.code yX7_refusalAt cX7_refusalAt 3 (some .int), Cond.methodLink RX7 35 yX7_isEmpty, Cond.instanceMethod yX7_isEmpty, Cond.selects RX7 yX7_isEmpty yX7_isEmpty, Cond.code yX7_isEmpty cX7_isEmpty 2 (some .boolean), Cond.methodLink RX7 39 yX7_isRow, Cond.instanceMethod yX7_isRow, Cond.selects RX7 yX7_isRow yX7_isRow, Cond.code yX7_isRow cX7_isRow 2 (some .boolean), Cond.methodLink RX11 374 yX7_lowest, Cond.static yX7_lowest, Cond.code yX7_lowest cX7_lowest 3 (some .long), Cond.methodLink RL 164 yX12_put, Cond.instanceMethod yX12_put, Cond.selects RX12 yX12_put yX12_put, Cond.code yX12_put cX12_put 7 (some .int), Cond.methodLink RX12 358 yX12_barred, Cond.instanceMethod yX12_barred, Cond.selects RX12 yX12_barred yX12_barred, Cond.code yX12_barred cX12_barred 3 (some .int), Cond.methodLink RL 165 yX11_element, Cond.instanceMethod yX11_element]
def wsL_law_r52 : List Cond := [Cond.selects RX11 yX11_element yX11_element, Cond.code yX11_element cX11_element 3 (some .long), Cond.constantLong RX11 380 (-9223372036854775808), Cond.methodLink RL 169 yX12_element, Cond.instanceMethod yX12_element, Cond.selects RX12 yX12_element yX12_element, Cond.code yX12_element cX12_element 3 (some .long), Cond.constantLong RX12 361 (-9223372036854775808), Cond.methodLink RL 170 yX11_shift, Cond.instanceMethod yX11_shift, Cond.selects RX11 yX11_shift yX11_shift, Cond.code yX11_shift cX11_shift 6 (some .int), Cond.methodLink RX11 392 arraycopyName, Cond.methodLink RX11 382 yX7_isEmpty, Cond.methodLink RX11 385 yX7_isRow, Cond.methodLink RX11 388 yX7_spans, Cond.instanceMethod yX7_spans, Cond.selects RX7 yX7_spans yX7_spans, Cond.code yX7_spans cX7_spans 4 (some .boolean), Cond.methodLink RL 174 yX12_shift, Cond.instanceMethod yX12_shift, Cond.selects RX12 yX12_shift yX12_shift, Cond.code yX12_shift cX12_shift 10 (some .int), Cond.methodLink RL 175 yX11_taken]
def wsL_law_r53 : List Cond := [Cond.instanceMethod yX11_taken, Cond.selects RX11 yX11_taken yX11_taken, Cond.code yX11_taken cX11_taken 5 (some .int), Cond.fieldLink RX11 398 "SeatsRound$Rows" "keeper" "[I", Cond.methodLink RX11 401 yX11_isUnder, Cond.static yX11_isUnder, Cond.code yX11_isUnder cX11_isUnder 4 (some .boolean), Cond.fieldLink RX11 420 "SeatsRound" "KIND_ABOVE" "[I", Cond.methodLink RL 178 yX12_taken, Cond.instanceMethod yX12_taken, Cond.selects RX12 yX12_taken yX12_taken, Cond.code yX12_taken cX12_taken 4 (some .int), Cond.methodLink RL 179 yX11_names, Cond.instanceMethod yX11_names, Cond.selects RX11 yX11_names yX11_names, Cond.code yX11_names cX11_names 4 (some .int), Cond.fieldLink RX11 405 "SeatsRound$Rows" "length" "[I", Cond.methodLink RX11 407 yX4_addFrom, Cond.instanceMethod yX4_addFrom, Cond.selects RX4 yX4_addFrom yX4_addFrom, Cond.code yX4_addFrom cX4_addFrom 12 (some .int), Cond.constantLong RX4 39 (6), Cond.methodLink RX4 41 yX4_find, Cond.methodLink RX4 45 yX4_add]
def wsL_law_r54 : List Cond := [Cond.methodLink RL 182 yX12_names, Cond.instanceMethod yX12_names, Cond.selects RX12 yX12_names yX12_names, Cond.code yX12_names cX12_names 11 (some .int), Cond.methodLink RL 183 yX11_count, Cond.instanceMethod yX11_count, Cond.selects RX11 yX11_count yX11_count, Cond.code yX11_count cX11_count 2 (some .int), Cond.fieldLink RX11 417 "SeatsRound$Parcels" "writings" "I", Cond.methodLink RX11 411 yX6_allCopies, Cond.instanceMethod yX6_allCopies, Cond.selects RX6 yX6_allCopies yX6_allCopies, Cond.code yX6_allCopies cX6_allCopies 3 (some .int), Cond.methodLink RX11 414 yX6_allKept, Cond.instanceMethod yX6_allKept, Cond.selects RX6 yX6_allKept yX6_allKept, Cond.code yX6_allKept cX6_allKept 3 (some .int), Cond.methodLink RX6 145 yX6_keptBy, Cond.methodLink RL 186 yX12_count, Cond.instanceMethod yX12_count, Cond.selects RX12 yX12_count yX12_count, Cond.code yX12_count cX12_count 4 (some .int)]
def wsL_law : List Cond := (wsL_law_r1 ++ (wsL_law_r2 ++ (wsL_law_r3 ++ (wsL_law_r4 ++ (wsL_law_r5 ++ (wsL_law_r6 ++ (wsL_law_r7 ++ (wsL_law_r8 ++ (wsL_law_r9 ++ (wsL_law_r10 ++ (wsL_law_r11 ++ (wsL_law_r12 ++ (wsL_law_r13 ++ (wsL_law_r14 ++ (wsL_law_r15 ++ (wsL_law_r16 ++ (wsL_law_r17 ++ (wsL_law_r18 ++ (wsL_law_r19 ++ (wsL_law_r20 ++ (wsL_law_r21 ++ (wsL_law_r22 ++ (wsL_law_r23 ++ (wsL_law_r24 ++ (wsL_law_r25 ++ (wsL_law_r26 ++ (wsL_law_r27 ++ (wsL_law_r28 ++ (wsL_law_r29 ++ (wsL_law_r30 ++ (wsL_law_r31 ++ (wsL_law_r32 ++ (wsL_law_r33 ++ (wsL_law_r34 ++ (wsL_law_r35 ++ (wsL_law_r36 ++ (wsL_law_r37 ++ (wsL_law_r38 ++ (wsL_law_r39 ++ (wsL_law_r40 ++ (wsL_law_r41 ++ (wsL_law_r42 ++ (wsL_law_r43 ++ (wsL_law_r44 ++ (wsL_law_r45 ++ (wsL_law_r46 ++ (wsL_law_r47 ++ (wsL_law_r48 ++ (wsL_law_r49 ++ (wsL_law_r50 ++ (wsL_law_r51 ++ (wsL_law_r52 ++ (wsL_law_r53 ++ wsL_law_r54))))))))))))))))))))))))))))))))))))))))))))))))))))) ++ wsX110 ++ wsX120 ++ wsX90 ++ wsX40 ++ wsX20 ++ wsX30 ++ wsX10 ++ wsX80 ++ wsX60 ++ wsX50 ++ wsX100 ++ wsX00 ++ wsX70 ++ ([] : List Cond)
set_option maxRecDepth 20000 in
theorem wsL_law_in : ∀ w ∈ wsL_law, w ∈ lw_tbl := fun w h => (goodIn_p wsL_law [104, 107, 112, 128, 154, 191, 222, 268, 342, 392, 434, 459, 483, 489, 1156, 551, 555, 1339, 1342, 559, 563, 566, 570, 1346, 1350, 1354, 577, 581, 585, 1358, 1362, 1366, 590, 593, 597, 1371, 601, 605, 608, 612, 616, 1375, 1379, 620, 1383, 624, 629, 633, 636, 640, 1387, 1392, 1396, 644, 648, 653, 656, 659, 664, 668, 671, 679, 683, 687, 706, 695, 698, 702, 691, 709, 714, 718, 723, 726, 730, 735, 738, 742, 1400, 1404, 1408, 1412, 1416, 1420, 1424, 1432, 1428, 1435, 1439, 1442, 746, 750, 754, 758, 763, 767, 1508, 1452, 1512, 1504, 1460, 1464, 1468, 771, 774, 1448, 778, 782, 786, 791, 795, 799, 803, 808, 1456, 812, 816, 822, 826, 1472, 1476, 1480, 1484, 1488, 830, 1492, 835, 1496, 1500, 841, 845, 1516, 1520, 1523, 849, 1527, 853, 857, 861, 867, 871, 877, 881, 1531, 1535, 1539, 1543, 886, 890, 1547, 895, 1551, 899, 903, 1555, 908, 912, 1559, 916, 920, 924, 1563, 928, 932, 936, 940, 944, 1567, 1571, 1575, 1579, 948, 951, 1583, 955, 1587, 960, 964, 1591, 1595, 968, 972, 976, 986, 990, 995, 999, 1599, 1603, 1607, 1611, 1615, 1003, 1619, 1007, 1623, 1011, 1015, 1021, 1627, 1029, 1631, 1033, 1037, 1041, 1045, 1049, 1053, 1057, 1635, 1639, 1643, 1646, 1650, 1654, 1658, 1061, 1662, 1065, 1068, 1072, 1666, 1669, 1076, 1080, 1083, 1673, 1087, 1091, 1095, 1099, 1102, 1677, 1681, 1106, 1685, 1111, 1117, 1690, 1122, 1125, 1694, 1131, 1135, 1698, 1142, 1146, 1150, 1702] (by decide +kernel) (by decide +kernel) w h).1
theorem inlX0 : ∀ w ∈ wsX00, w ∈ wsL_law := fun _ h => List.mem_append_left _ (List.mem_append_left _ (List.mem_append_right _ h))
theorem inX0 : ∀ w ∈ wsX00, w ∈ lw_tbl := fun w h => wsL_law_in w (inlX0 w h)
theorem inlX1 : ∀ w ∈ wsX10, w ∈ wsL_law := fun _ h => List.mem_append_left _ (List.mem_append_left _ (List.mem_append_left _ (List.mem_append_left _ (List.mem_append_left _ (List.mem_append_left _ (List.mem_append_left _ (List.mem_append_right _ h)))))))
theorem inX1 : ∀ w ∈ wsX10, w ∈ lw_tbl := fun w h => wsL_law_in w (inlX1 w h)
theorem inlX2 : ∀ w ∈ wsX20, w ∈ wsL_law := fun _ h => List.mem_append_left _ (List.mem_append_left _ (List.mem_append_left _ (List.mem_append_left _ (List.mem_append_left _ (List.mem_append_left _ (List.mem_append_left _ (List.mem_append_left _ (List.mem_append_left _ (List.mem_append_right _ h)))))))))
theorem inX2 : ∀ w ∈ wsX20, w ∈ lw_tbl := fun w h => wsL_law_in w (inlX2 w h)
theorem inlX3 : ∀ w ∈ wsX30, w ∈ wsL_law := fun _ h => List.mem_append_left _ (List.mem_append_left _ (List.mem_append_left _ (List.mem_append_left _ (List.mem_append_left _ (List.mem_append_left _ (List.mem_append_left _ (List.mem_append_left _ (List.mem_append_right _ h))))))))
theorem inX3 : ∀ w ∈ wsX30, w ∈ lw_tbl := fun w h => wsL_law_in w (inlX3 w h)
theorem inlX4 : ∀ w ∈ wsX40, w ∈ wsL_law := fun _ h => List.mem_append_left _ (List.mem_append_left _ (List.mem_append_left _ (List.mem_append_left _ (List.mem_append_left _ (List.mem_append_left _ (List.mem_append_left _ (List.mem_append_left _ (List.mem_append_left _ (List.mem_append_left _ (List.mem_append_right _ h))))))))))
theorem inX4 : ∀ w ∈ wsX40, w ∈ lw_tbl := fun w h => wsL_law_in w (inlX4 w h)
theorem inlX5 : ∀ w ∈ wsX50, w ∈ wsL_law := fun _ h => List.mem_append_left _ (List.mem_append_left _ (List.mem_append_left _ (List.mem_append_left _ (List.mem_append_right _ h))))
theorem inX5 : ∀ w ∈ wsX50, w ∈ lw_tbl := fun w h => wsL_law_in w (inlX5 w h)
theorem inlX6 : ∀ w ∈ wsX60, w ∈ wsL_law := fun _ h => List.mem_append_left _ (List.mem_append_left _ (List.mem_append_left _ (List.mem_append_left _ (List.mem_append_left _ (List.mem_append_right _ h)))))
theorem inX6 : ∀ w ∈ wsX60, w ∈ lw_tbl := fun w h => wsL_law_in w (inlX6 w h)
theorem inlX7 : ∀ w ∈ wsX70, w ∈ wsL_law := fun _ h => List.mem_append_left _ (List.mem_append_right _ h)
theorem inX7 : ∀ w ∈ wsX70, w ∈ lw_tbl := fun w h => wsL_law_in w (inlX7 w h)
theorem inlX8 : ∀ w ∈ wsX80, w ∈ wsL_law := fun _ h => List.mem_append_left _ (List.mem_append_left _ (List.mem_append_left _ (List.mem_append_left _ (List.mem_append_left _ (List.mem_append_left _ (List.mem_append_right _ h))))))
theorem inX8 : ∀ w ∈ wsX80, w ∈ lw_tbl := fun w h => wsL_law_in w (inlX8 w h)
theorem inlX9 : ∀ w ∈ wsX90, w ∈ wsL_law := fun _ h => List.mem_append_left _ (List.mem_append_left _ (List.mem_append_left _ (List.mem_append_left _ (List.mem_append_left _ (List.mem_append_left _ (List.mem_append_left _ (List.mem_append_left _ (List.mem_append_left _ (List.mem_append_left _ (List.mem_append_left _ (List.mem_append_right _ h)))))))))))
theorem inX9 : ∀ w ∈ wsX90, w ∈ lw_tbl := fun w h => wsL_law_in w (inlX9 w h)
theorem inlX10 : ∀ w ∈ wsX100, w ∈ wsL_law := fun _ h => List.mem_append_left _ (List.mem_append_left _ (List.mem_append_left _ (List.mem_append_right _ h)))
theorem inX10 : ∀ w ∈ wsX100, w ∈ lw_tbl := fun w h => wsL_law_in w (inlX10 w h)
theorem inlX11 : ∀ w ∈ wsX110, w ∈ wsL_law := fun _ h => List.mem_append_left _ (List.mem_append_left _ (List.mem_append_left _ (List.mem_append_left _ (List.mem_append_left _ (List.mem_append_left _ (List.mem_append_left _ (List.mem_append_left _ (List.mem_append_left _ (List.mem_append_left _ (List.mem_append_left _ (List.mem_append_left _ (List.mem_append_left _ (List.mem_append_right _ h)))))))))))))
theorem inX11 : ∀ w ∈ wsX110, w ∈ lw_tbl := fun w h => wsL_law_in w (inlX11 w h)
theorem inlX12 : ∀ w ∈ wsX120, w ∈ wsL_law := fun _ h => List.mem_append_left _ (List.mem_append_left _ (List.mem_append_left _ (List.mem_append_left _ (List.mem_append_left _ (List.mem_append_left _ (List.mem_append_left _ (List.mem_append_left _ (List.mem_append_left _ (List.mem_append_left _ (List.mem_append_left _ (List.mem_append_left _ (List.mem_append_right _ h))))))))))))
theorem inX12 : ∀ w ∈ wsX120, w ∈ lw_tbl := fun w h => wsL_law_in w (inlX12 w h)
theorem dX0_init_0 : decode cX0_init 0 = .ok (.aload_n 0, 1) := by decide +kernel
theorem dX0_init_1 : decode cX0_init 1 = .ok (.invokespecial 3, 3) := by decide +kernel
theorem dX0_init_4 : decode cX0_init 4 = .ok (.aload_n 0, 1) := by decide +kernel
theorem dX0_init_5 : decode cX0_init 5 = .ok (.bipush 24, 2) := by decide +kernel
theorem dX0_init_7 : decode cX0_init 7 = .ok (.newarray .int, 2) := by decide +kernel
theorem dX0_init_9 : decode cX0_init 9 = .ok (.putfield 9, 3) := by decide +kernel
theorem dX0_init_12 : decode cX0_init 12 = .ok (.aload_n 0, 1) := by decide +kernel
theorem dX0_init_13 : decode cX0_init 13 = .ok (.iconst 0, 1) := by decide +kernel
theorem dX0_init_14 : decode cX0_init 14 = .ok (.putfield 15, 3) := by decide +kernel
theorem dX0_init_17 : decode cX0_init 17 = .ok (.aload_n 0, 1) := by decide +kernel
theorem dX0_init_18 : decode cX0_init 18 = .ok (.iconst 0, 1) := by decide +kernel
theorem dX0_init_19 : decode cX0_init 19 = .ok (.putfield 19, 3) := by decide +kernel
theorem dX0_init_22 : decode cX0_init 22 = .ok (.aload_n 0, 1) := by decide +kernel
theorem dX0_init_23 : decode cX0_init 23 = .ok (.iconst 0, 1) := by decide +kernel
theorem dX0_init_24 : decode cX0_init 24 = .ok (.putfield 22, 3) := by decide +kernel
theorem dX0_init_27 : decode cX0_init 27 = .ok (.aload_n 0, 1) := by decide +kernel
theorem dX0_init_28 : decode cX0_init 28 = .ok (.iconst 0, 1) := by decide +kernel
theorem dX0_init_29 : decode cX0_init 29 = .ok (.putfield 25, 3) := by decide +kernel
theorem dX0_init_32 : decode cX0_init 32 = .ok (.return_, 1) := by decide +kernel
theorem dX1_init_0 : decode cX1_init 0 = .ok (.aload_n 0, 1) := by decide +kernel
theorem dX1_init_1 : decode cX1_init 1 = .ok (.invokespecial 3, 3) := by decide +kernel
theorem dX1_init_4 : decode cX1_init 4 = .ok (.aload_n 0, 1) := by decide +kernel
theorem dX1_init_5 : decode cX1_init 5 = .ok (.bipush 12, 2) := by decide +kernel
theorem dX1_init_7 : decode cX1_init 7 = .ok (.newarray .int, 2) := by decide +kernel
theorem dX1_init_9 : decode cX1_init 9 = .ok (.putfield 9, 3) := by decide +kernel
theorem dX1_init_12 : decode cX1_init 12 = .ok (.aload_n 0, 1) := by decide +kernel
theorem dX1_init_13 : decode cX1_init 13 = .ok (.bipush 12, 2) := by decide +kernel
theorem dX1_init_15 : decode cX1_init 15 = .ok (.newarray .int, 2) := by decide +kernel
theorem dX1_init_17 : decode cX1_init 17 = .ok (.putfield 15, 3) := by decide +kernel
theorem dX1_init_20 : decode cX1_init 20 = .ok (.aload_n 0, 1) := by decide +kernel
theorem dX1_init_21 : decode cX1_init 21 = .ok (.iconst 0, 1) := by decide +kernel
theorem dX1_init_22 : decode cX1_init 22 = .ok (.putfield 18, 3) := by decide +kernel
theorem dX1_init_25 : decode cX1_init 25 = .ok (.aload_n 0, 1) := by decide +kernel
theorem dX1_init_26 : decode cX1_init 26 = .ok (.iconst 0, 1) := by decide +kernel
theorem dX1_init_27 : decode cX1_init 27 = .ok (.putfield 22, 3) := by decide +kernel
theorem dX1_init_30 : decode cX1_init 30 = .ok (.aload_n 0, 1) := by decide +kernel
theorem dX1_init_31 : decode cX1_init 31 = .ok (.iconst 0, 1) := by decide +kernel
theorem dX1_init_32 : decode cX1_init 32 = .ok (.putfield 25, 3) := by decide +kernel
theorem dX1_init_35 : decode cX1_init 35 = .ok (.aload_n 0, 1) := by decide +kernel
theorem dX1_init_36 : decode cX1_init 36 = .ok (.iconst 0, 1) := by decide +kernel
theorem dX1_init_37 : decode cX1_init 37 = .ok (.putfield 28, 3) := by decide +kernel
theorem dX1_init_40 : decode cX1_init 40 = .ok (.aload_n 0, 1) := by decide +kernel
theorem dX1_init_41 : decode cX1_init 41 = .ok (.iconst 0, 1) := by decide +kernel
theorem dX1_init_42 : decode cX1_init 42 = .ok (.putfield 31, 3) := by decide +kernel
theorem dX1_init_45 : decode cX1_init 45 = .ok (.aload_n 0, 1) := by decide +kernel
theorem dX1_init_46 : decode cX1_init 46 = .ok (.bipush 12, 2) := by decide +kernel
theorem dX1_init_48 : decode cX1_init 48 = .ok (.newarray .int, 2) := by decide +kernel
theorem dX1_init_50 : decode cX1_init 50 = .ok (.putfield 34, 3) := by decide +kernel
theorem dX1_init_53 : decode cX1_init 53 = .ok (.aload_n 0, 1) := by decide +kernel
theorem dX1_init_54 : decode cX1_init 54 = .ok (.aload_n 1, 1) := by decide +kernel
theorem dX1_init_55 : decode cX1_init 55 = .ok (.putfield 37, 3) := by decide +kernel
theorem dX1_init_58 : decode cX1_init 58 = .ok (.return_, 1) := by decide +kernel
theorem dX2_init_0 : decode cX2_init 0 = .ok (.aload_n 0, 1) := by decide +kernel
theorem dX2_init_1 : decode cX2_init 1 = .ok (.invokespecial 3, 3) := by decide +kernel
theorem dX2_init_4 : decode cX2_init 4 = .ok (.aload_n 0, 1) := by decide +kernel
theorem dX2_init_5 : decode cX2_init 5 = .ok (.bipush 12, 2) := by decide +kernel
theorem dX2_init_7 : decode cX2_init 7 = .ok (.newarray .int, 2) := by decide +kernel
theorem dX2_init_9 : decode cX2_init 9 = .ok (.putfield 9, 3) := by decide +kernel
theorem dX2_init_12 : decode cX2_init 12 = .ok (.aload_n 0, 1) := by decide +kernel
theorem dX2_init_13 : decode cX2_init 13 = .ok (.bipush 12, 2) := by decide +kernel
theorem dX2_init_15 : decode cX2_init 15 = .ok (.newarray .int, 2) := by decide +kernel
theorem dX2_init_17 : decode cX2_init 17 = .ok (.putfield 15, 3) := by decide +kernel
theorem dX2_init_20 : decode cX2_init 20 = .ok (.aload_n 0, 1) := by decide +kernel
theorem dX2_init_21 : decode cX2_init 21 = .ok (.bipush 12, 2) := by decide +kernel
theorem dX2_init_23 : decode cX2_init 23 = .ok (.newarray .int, 2) := by decide +kernel
theorem dX2_init_25 : decode cX2_init 25 = .ok (.putfield 18, 3) := by decide +kernel
theorem dX2_init_28 : decode cX2_init 28 = .ok (.aload_n 0, 1) := by decide +kernel
theorem dX2_init_29 : decode cX2_init 29 = .ok (.bipush 12, 2) := by decide +kernel
theorem dX2_init_31 : decode cX2_init 31 = .ok (.newarray .int, 2) := by decide +kernel
theorem dX2_init_33 : decode cX2_init 33 = .ok (.putfield 21, 3) := by decide +kernel
theorem dX2_init_36 : decode cX2_init 36 = .ok (.aload_n 0, 1) := by decide +kernel
theorem dX2_init_37 : decode cX2_init 37 = .ok (.bipush 12, 2) := by decide +kernel
theorem dX2_init_39 : decode cX2_init 39 = .ok (.newarray .boolean, 2) := by decide +kernel
theorem dX2_init_41 : decode cX2_init 41 = .ok (.putfield 24, 3) := by decide +kernel
theorem dX2_init_44 : decode cX2_init 44 = .ok (.aload_n 0, 1) := by decide +kernel
theorem dX2_init_45 : decode cX2_init 45 = .ok (.iconst 0, 1) := by decide +kernel
theorem dX2_init_46 : decode cX2_init 46 = .ok (.putfield 28, 3) := by decide +kernel
theorem dX2_init_49 : decode cX2_init 49 = .ok (.return_, 1) := by decide +kernel
theorem dX2_has_0 : decode cX2_has 0 = .ok (.iload_n 1, 1) := by decide +kernel
theorem dX2_has_1 : decode cX2_has 1 = .ok (.ifCond .lt 15, 3) := by decide +kernel
theorem dX2_has_4 : decode cX2_has 4 = .ok (.iload_n 1, 1) := by decide +kernel
theorem dX2_has_5 : decode cX2_has 5 = .ok (.aload_n 0, 1) := by decide +kernel
theorem dX2_has_6 : decode cX2_has 6 = .ok (.getfield 28, 3) := by decide +kernel
theorem dX2_has_9 : decode cX2_has 9 = .ok (.if_icmp .ge 7, 3) := by decide +kernel
theorem dX2_has_16 : decode cX2_has 16 = .ok (.iconst 0, 1) := by decide +kernel
theorem dX2_has_17 : decode cX2_has 17 = .ok (.ireturn, 1) := by decide +kernel
theorem dX2_add_0 : decode cX2_add 0 = .ok (.aload_n 0, 1) := by decide +kernel
theorem dX2_add_1 : decode cX2_add 1 = .ok (.getfield 9, 3) := by decide +kernel
theorem dX2_add_4 : decode cX2_add 4 = .ok (.aload_n 0, 1) := by decide +kernel
theorem dX2_add_5 : decode cX2_add 5 = .ok (.getfield 28, 3) := by decide +kernel
theorem dX2_add_8 : decode cX2_add 8 = .ok (.iconst 0, 1) := by decide +kernel
theorem dX2_add_9 : decode cX2_add 9 = .ok (.iastore, 1) := by decide +kernel
theorem dX2_add_10 : decode cX2_add 10 = .ok (.aload_n 0, 1) := by decide +kernel
theorem dX2_add_11 : decode cX2_add 11 = .ok (.getfield 15, 3) := by decide +kernel
theorem dX2_add_14 : decode cX2_add 14 = .ok (.aload_n 0, 1) := by decide +kernel
theorem dX2_add_15 : decode cX2_add 15 = .ok (.getfield 28, 3) := by decide +kernel
theorem dX2_add_18 : decode cX2_add 18 = .ok (.iload_n 1, 1) := by decide +kernel
theorem dX2_add_19 : decode cX2_add 19 = .ok (.iastore, 1) := by decide +kernel
theorem dX2_add_20 : decode cX2_add 20 = .ok (.aload_n 0, 1) := by decide +kernel
theorem dX2_add_21 : decode cX2_add 21 = .ok (.getfield 18, 3) := by decide +kernel
theorem dX2_add_24 : decode cX2_add 24 = .ok (.aload_n 0, 1) := by decide +kernel
theorem dX2_add_25 : decode cX2_add 25 = .ok (.getfield 28, 3) := by decide +kernel
theorem dX2_add_28 : decode cX2_add 28 = .ok (.iload_n 2, 1) := by decide +kernel
theorem dX2_add_29 : decode cX2_add 29 = .ok (.iastore, 1) := by decide +kernel
theorem dX2_add_30 : decode cX2_add 30 = .ok (.aload_n 0, 1) := by decide +kernel
theorem dX2_add_31 : decode cX2_add 31 = .ok (.getfield 21, 3) := by decide +kernel
theorem dX2_add_34 : decode cX2_add 34 = .ok (.aload_n 0, 1) := by decide +kernel
theorem dX2_add_35 : decode cX2_add 35 = .ok (.getfield 28, 3) := by decide +kernel
theorem dX2_add_38 : decode cX2_add 38 = .ok (.iconst (-1), 1) := by decide +kernel
theorem dX2_add_39 : decode cX2_add 39 = .ok (.iastore, 1) := by decide +kernel
theorem dX2_add_40 : decode cX2_add 40 = .ok (.aload_n 0, 1) := by decide +kernel
theorem dX2_add_41 : decode cX2_add 41 = .ok (.dup, 1) := by decide +kernel
theorem dX2_add_42 : decode cX2_add 42 = .ok (.getfield 28, 3) := by decide +kernel
theorem dX2_add_45 : decode cX2_add 45 = .ok (.iconst 1, 1) := by decide +kernel
theorem dX2_add_46 : decode cX2_add 46 = .ok (.iadd, 1) := by decide +kernel
theorem dX2_add_47 : decode cX2_add 47 = .ok (.putfield 28, 3) := by decide +kernel
theorem dX2_add_50 : decode cX2_add 50 = .ok (.aload_n 0, 1) := by decide +kernel
theorem dX2_add_51 : decode cX2_add 51 = .ok (.getfield 28, 3) := by decide +kernel
theorem dX2_add_54 : decode cX2_add 54 = .ok (.iconst 1, 1) := by decide +kernel
theorem dX2_add_55 : decode cX2_add 55 = .ok (.isub, 1) := by decide +kernel
theorem dX2_add_56 : decode cX2_add 56 = .ok (.ireturn, 1) := by decide +kernel
theorem dX3_init_0 : decode cX3_init 0 = .ok (.aload_n 0, 1) := by decide +kernel
theorem dX3_init_1 : decode cX3_init 1 = .ok (.invokespecial 3, 3) := by decide +kernel
theorem dX3_init_4 : decode cX3_init 4 = .ok (.aload_n 0, 1) := by decide +kernel
theorem dX3_init_5 : decode cX3_init 5 = .ok (.iconst 0, 1) := by decide +kernel
theorem dX3_init_6 : decode cX3_init 6 = .ok (.newarray .byte, 2) := by decide +kernel
theorem dX3_init_8 : decode cX3_init 8 = .ok (.putfield 9, 3) := by decide +kernel
theorem dX3_init_11 : decode cX3_init 11 = .ok (.aload_n 0, 1) := by decide +kernel
theorem dX3_init_12 : decode cX3_init 12 = .ok (.iconst 0, 1) := by decide +kernel
theorem dX3_init_13 : decode cX3_init 13 = .ok (.putfield 15, 3) := by decide +kernel
theorem dX3_init_16 : decode cX3_init 16 = .ok (.aload_n 0, 1) := by decide +kernel
theorem dX3_init_17 : decode cX3_init 17 = .ok (.iconst 0, 1) := by decide +kernel
theorem dX3_init_18 : decode cX3_init 18 = .ok (.putfield 19, 3) := by decide +kernel
theorem dX3_init_21 : decode cX3_init 21 = .ok (.aload_n 0, 1) := by decide +kernel
theorem dX3_init_22 : decode cX3_init 22 = .ok (.iconst (-1), 1) := by decide +kernel
theorem dX3_init_23 : decode cX3_init 23 = .ok (.putfield 22, 3) := by decide +kernel
theorem dX3_init_26 : decode cX3_init 26 = .ok (.aload_n 0, 1) := by decide +kernel
theorem dX3_init_27 : decode cX3_init 27 = .ok (.iconst 0, 1) := by decide +kernel
theorem dX3_init_28 : decode cX3_init 28 = .ok (.putfield 25, 3) := by decide +kernel
theorem dX3_init_31 : decode cX3_init 31 = .ok (.aload_n 0, 1) := by decide +kernel
theorem dX3_init_32 : decode cX3_init 32 = .ok (.iconst 0, 1) := by decide +kernel
theorem dX3_init_33 : decode cX3_init 33 = .ok (.putfield 28, 3) := by decide +kernel
theorem dX3_init_36 : decode cX3_init 36 = .ok (.aload_n 0, 1) := by decide +kernel
theorem dX3_init_37 : decode cX3_init 37 = .ok (.iconst 0, 1) := by decide +kernel
theorem dX3_init_38 : decode cX3_init 38 = .ok (.putfield 31, 3) := by decide +kernel
theorem dX3_init_41 : decode cX3_init 41 = .ok (.aload_n 0, 1) := by decide +kernel
theorem dX3_init_42 : decode cX3_init 42 = .ok (.iconst 0, 1) := by decide +kernel
theorem dX3_init_43 : decode cX3_init 43 = .ok (.putfield 34, 3) := by decide +kernel
theorem dX3_init_46 : decode cX3_init 46 = .ok (.return_, 1) := by decide +kernel
theorem dX4_init_0 : decode cX4_init 0 = .ok (.aload_n 0, 1) := by decide +kernel
theorem dX4_init_1 : decode cX4_init 1 = .ok (.invokespecial 3, 3) := by decide +kernel
theorem dX4_init_4 : decode cX4_init 4 = .ok (.aload_n 0, 1) := by decide +kernel
theorem dX4_init_5 : decode cX4_init 5 = .ok (.bipush 40, 2) := by decide +kernel
theorem dX4_init_7 : decode cX4_init 7 = .ok (.bipush 6, 2) := by decide +kernel
theorem dX4_init_9 : decode cX4_init 9 = .ok (.multianewarray 9 2, 4) := by decide +kernel
theorem dX4_init_13 : decode cX4_init 13 = .ok (.putfield 11, 3) := by decide +kernel
theorem dX4_init_16 : decode cX4_init 16 = .ok (.aload_n 0, 1) := by decide +kernel
theorem dX4_init_17 : decode cX4_init 17 = .ok (.bipush 40, 2) := by decide +kernel
theorem dX4_init_19 : decode cX4_init 19 = .ok (.newarray .int, 2) := by decide +kernel
theorem dX4_init_21 : decode cX4_init 21 = .ok (.putfield 16, 3) := by decide +kernel
theorem dX4_init_24 : decode cX4_init 24 = .ok (.aload_n 0, 1) := by decide +kernel
theorem dX4_init_25 : decode cX4_init 25 = .ok (.bipush 6, 2) := by decide +kernel
theorem dX4_init_27 : decode cX4_init 27 = .ok (.newarray .byte, 2) := by decide +kernel
theorem dX4_init_29 : decode cX4_init 29 = .ok (.putfield 20, 3) := by decide +kernel
theorem dX4_init_32 : decode cX4_init 32 = .ok (.aload_n 0, 1) := by decide +kernel
theorem dX4_init_33 : decode cX4_init 33 = .ok (.iconst 0, 1) := by decide +kernel
theorem dX4_init_34 : decode cX4_init 34 = .ok (.putfield 24, 3) := by decide +kernel
theorem dX4_init_37 : decode cX4_init 37 = .ok (.return_, 1) := by decide +kernel
theorem dX4_has_0 : decode cX4_has 0 = .ok (.iload_n 1, 1) := by decide +kernel
theorem dX4_has_1 : decode cX4_has 1 = .ok (.ifCond .lt 15, 3) := by decide +kernel
theorem dX4_has_4 : decode cX4_has 4 = .ok (.iload_n 1, 1) := by decide +kernel
theorem dX4_has_5 : decode cX4_has 5 = .ok (.aload_n 0, 1) := by decide +kernel
theorem dX4_has_6 : decode cX4_has 6 = .ok (.getfield 24, 3) := by decide +kernel
theorem dX4_has_9 : decode cX4_has 9 = .ok (.if_icmp .ge 7, 3) := by decide +kernel
theorem dX4_has_16 : decode cX4_has 16 = .ok (.iconst 0, 1) := by decide +kernel
theorem dX4_has_17 : decode cX4_has 17 = .ok (.ireturn, 1) := by decide +kernel
theorem dX5_init_0 : decode cX5_init 0 = .ok (.aload_n 0, 1) := by decide +kernel
theorem dX5_init_1 : decode cX5_init 1 = .ok (.invokespecial 3, 3) := by decide +kernel
theorem dX5_init_4 : decode cX5_init 4 = .ok (.aload_n 0, 1) := by decide +kernel
theorem dX5_init_5 : decode cX5_init 5 = .ok (.iconst 5, 1) := by decide +kernel
theorem dX5_init_6 : decode cX5_init 6 = .ok (.newarray .int, 2) := by decide +kernel
theorem dX5_init_8 : decode cX5_init 8 = .ok (.putfield 9, 3) := by decide +kernel
theorem dX5_init_11 : decode cX5_init 11 = .ok (.aload_n 0, 1) := by decide +kernel
theorem dX5_init_12 : decode cX5_init 12 = .ok (.iconst 0, 1) := by decide +kernel
theorem dX5_init_13 : decode cX5_init 13 = .ok (.putfield 15, 3) := by decide +kernel
theorem dX5_init_16 : decode cX5_init 16 = .ok (.aload_n 0, 1) := by decide +kernel
theorem dX5_init_17 : decode cX5_init 17 = .ok (.iconst 5, 1) := by decide +kernel
theorem dX5_init_18 : decode cX5_init 18 = .ok (.newarray .int, 2) := by decide +kernel
theorem dX5_init_20 : decode cX5_init 20 = .ok (.putfield 19, 3) := by decide +kernel
theorem dX5_init_23 : decode cX5_init 23 = .ok (.aload_n 0, 1) := by decide +kernel
theorem dX5_init_24 : decode cX5_init 24 = .ok (.iconst 0, 1) := by decide +kernel
theorem dX5_init_25 : decode cX5_init 25 = .ok (.putfield 22, 3) := by decide +kernel
theorem dX5_init_28 : decode cX5_init 28 = .ok (.aload_n 0, 1) := by decide +kernel
theorem dX5_init_29 : decode cX5_init 29 = .ok (.bipush 32, 2) := by decide +kernel
theorem dX5_init_31 : decode cX5_init 31 = .ok (.bipush 40, 2) := by decide +kernel
theorem dX5_init_33 : decode cX5_init 33 = .ok (.multianewarray 25 2, 4) := by decide +kernel
theorem dX5_init_37 : decode cX5_init 37 = .ok (.putfield 27, 3) := by decide +kernel
theorem dX5_init_40 : decode cX5_init 40 = .ok (.aload_n 0, 1) := by decide +kernel
theorem dX5_init_41 : decode cX5_init 41 = .ok (.bipush 32, 2) := by decide +kernel
theorem dX5_init_43 : decode cX5_init 43 = .ok (.newarray .int, 2) := by decide +kernel
theorem dX5_init_45 : decode cX5_init 45 = .ok (.putfield 30, 3) := by decide +kernel
theorem dX5_init_48 : decode cX5_init 48 = .ok (.aload_n 0, 1) := by decide +kernel
theorem dX5_init_49 : decode cX5_init 49 = .ok (.aload_n 1, 1) := by decide +kernel
theorem dX5_init_50 : decode cX5_init 50 = .ok (.putfield 33, 3) := by decide +kernel
theorem dX5_init_53 : decode cX5_init 53 = .ok (.aload_n 0, 1) := by decide +kernel
theorem dX5_init_54 : decode cX5_init 54 = .ok (.aload_n 2, 1) := by decide +kernel
theorem dX5_init_55 : decode cX5_init 55 = .ok (.putfield 37, 3) := by decide +kernel
theorem dX5_init_58 : decode cX5_init 58 = .ok (.aload_n 0, 1) := by decide +kernel
theorem dX5_init_59 : decode cX5_init 59 = .ok (.aload_n 3, 1) := by decide +kernel
theorem dX5_init_60 : decode cX5_init 60 = .ok (.putfield 41, 3) := by decide +kernel
theorem dX5_init_63 : decode cX5_init 63 = .ok (.aload_n 0, 1) := by decide +kernel
theorem dX5_init_64 : decode cX5_init 64 = .ok (.aload 4, 2) := by decide +kernel
theorem dX5_init_66 : decode cX5_init 66 = .ok (.putfield 45, 3) := by decide +kernel
theorem dX5_init_69 : decode cX5_init 69 = .ok (.return_, 1) := by decide +kernel
theorem dX6_init_0 : decode cX6_init 0 = .ok (.aload_n 0, 1) := by decide +kernel
theorem dX6_init_1 : decode cX6_init 1 = .ok (.invokespecial 3, 3) := by decide +kernel
theorem dX6_init_4 : decode cX6_init 4 = .ok (.aload_n 0, 1) := by decide +kernel
theorem dX6_init_5 : decode cX6_init 5 = .ok (.bipush 12, 2) := by decide +kernel
theorem dX6_init_7 : decode cX6_init 7 = .ok (.bipush 40, 2) := by decide +kernel
theorem dX6_init_9 : decode cX6_init 9 = .ok (.multianewarray 9 2, 4) := by decide +kernel
theorem dX6_init_13 : decode cX6_init 13 = .ok (.putfield 11, 3) := by decide +kernel
theorem dX6_init_16 : decode cX6_init 16 = .ok (.aload_n 0, 1) := by decide +kernel
theorem dX6_init_17 : decode cX6_init 17 = .ok (.bipush 12, 2) := by decide +kernel
theorem dX6_init_19 : decode cX6_init 19 = .ok (.bipush 40, 2) := by decide +kernel
theorem dX6_init_21 : decode cX6_init 21 = .ok (.multianewarray 9 2, 4) := by decide +kernel
theorem dX6_init_25 : decode cX6_init 25 = .ok (.putfield 16, 3) := by decide +kernel
theorem dX6_init_28 : decode cX6_init 28 = .ok (.aload_n 0, 1) := by decide +kernel
theorem dX6_init_29 : decode cX6_init 29 = .ok (.bipush 12, 2) := by decide +kernel
theorem dX6_init_31 : decode cX6_init 31 = .ok (.bipush 40, 2) := by decide +kernel
theorem dX6_init_33 : decode cX6_init 33 = .ok (.multianewarray 9 2, 4) := by decide +kernel
theorem dX6_init_37 : decode cX6_init 37 = .ok (.putfield 19, 3) := by decide +kernel
theorem dX6_init_40 : decode cX6_init 40 = .ok (.aload_n 0, 1) := by decide +kernel
theorem dX6_init_41 : decode cX6_init 41 = .ok (.bipush 12, 2) := by decide +kernel
theorem dX6_init_43 : decode cX6_init 43 = .ok (.bipush 40, 2) := by decide +kernel
theorem dX6_init_45 : decode cX6_init 45 = .ok (.multianewarray 9 2, 4) := by decide +kernel
theorem dX6_init_49 : decode cX6_init 49 = .ok (.putfield 22, 3) := by decide +kernel
theorem dX6_init_52 : decode cX6_init 52 = .ok (.aload_n 0, 1) := by decide +kernel
theorem dX6_init_53 : decode cX6_init 53 = .ok (.bipush 12, 2) := by decide +kernel
theorem dX6_init_55 : decode cX6_init 55 = .ok (.bipush 40, 2) := by decide +kernel
theorem dX6_init_57 : decode cX6_init 57 = .ok (.multianewarray 9 2, 4) := by decide +kernel
theorem dX6_init_61 : decode cX6_init 61 = .ok (.putfield 25, 3) := by decide +kernel
theorem dX6_init_64 : decode cX6_init 64 = .ok (.aload_n 0, 1) := by decide +kernel
theorem dX6_init_65 : decode cX6_init 65 = .ok (.bipush 40, 2) := by decide +kernel
theorem dX6_init_67 : decode cX6_init 67 = .ok (.newarray .int, 2) := by decide +kernel
theorem dX6_init_69 : decode cX6_init 69 = .ok (.putfield 28, 3) := by decide +kernel
theorem dX6_init_72 : decode cX6_init 72 = .ok (.aload_n 0, 1) := by decide +kernel
theorem dX6_init_73 : decode cX6_init 73 = .ok (.bipush 16, 2) := by decide +kernel
theorem dX6_init_75 : decode cX6_init 75 = .ok (.newarray .int, 2) := by decide +kernel
theorem dX6_init_77 : decode cX6_init 77 = .ok (.putfield 32, 3) := by decide +kernel
theorem dX6_init_80 : decode cX6_init 80 = .ok (.aload_n 0, 1) := by decide +kernel
theorem dX6_init_81 : decode cX6_init 81 = .ok (.bipush 16, 2) := by decide +kernel
theorem dX6_init_83 : decode cX6_init 83 = .ok (.newarray .int, 2) := by decide +kernel
theorem dX6_init_85 : decode cX6_init 85 = .ok (.putfield 35, 3) := by decide +kernel
theorem dX6_init_88 : decode cX6_init 88 = .ok (.aload_n 0, 1) := by decide +kernel
theorem dX6_init_89 : decode cX6_init 89 = .ok (.iconst 0, 1) := by decide +kernel
theorem dX6_init_90 : decode cX6_init 90 = .ok (.putfield 38, 3) := by decide +kernel
theorem dX6_init_93 : decode cX6_init 93 = .ok (.aload_n 0, 1) := by decide +kernel
theorem dX6_init_94 : decode cX6_init 94 = .ok (.aload_n 1, 1) := by decide +kernel
theorem dX6_init_95 : decode cX6_init 95 = .ok (.putfield 42, 3) := by decide +kernel
theorem dX6_init_98 : decode cX6_init 98 = .ok (.aload_n 0, 1) := by decide +kernel
theorem dX6_init_99 : decode cX6_init 99 = .ok (.aload_n 2, 1) := by decide +kernel
theorem dX6_init_100 : decode cX6_init 100 = .ok (.putfield 46, 3) := by decide +kernel
theorem dX6_init_103 : decode cX6_init 103 = .ok (.aload_n 0, 1) := by decide +kernel
theorem dX6_init_104 : decode cX6_init 104 = .ok (.aload_n 3, 1) := by decide +kernel
theorem dX6_init_105 : decode cX6_init 105 = .ok (.putfield 50, 3) := by decide +kernel
theorem dX6_init_108 : decode cX6_init 108 = .ok (.return_, 1) := by decide +kernel
theorem dX6_allCopies_0 : decode cX6_allCopies 0 = .ok (.iconst 0, 1) := by decide +kernel
theorem dX6_allCopies_1 : decode cX6_allCopies 1 = .ok (.istore_n 1, 1) := by decide +kernel
theorem dX6_allCopies_2 : decode cX6_allCopies 2 = .ok (.iconst 0, 1) := by decide +kernel
theorem dX6_allCopies_3 : decode cX6_allCopies 3 = .ok (.istore_n 2, 1) := by decide +kernel
theorem dX6_allCopies_4 : decode cX6_allCopies 4 = .ok (.iload_n 2, 1) := by decide +kernel
theorem dX6_allCopies_5 : decode cX6_allCopies 5 = .ok (.aload_n 0, 1) := by decide +kernel
theorem dX6_allCopies_6 : decode cX6_allCopies 6 = .ok (.getfield 42, 3) := by decide +kernel
theorem dX6_allCopies_9 : decode cX6_allCopies 9 = .ok (.getfield 120, 3) := by decide +kernel
theorem dX6_allCopies_12 : decode cX6_allCopies 12 = .ok (.if_icmp .ge 17, 3) := by decide +kernel
theorem dX6_allCopies_29 : decode cX6_allCopies 29 = .ok (.iload_n 1, 1) := by decide +kernel
theorem dX6_allCopies_30 : decode cX6_allCopies 30 = .ok (.ireturn, 1) := by decide +kernel
theorem dX6_allKept_0 : decode cX6_allKept 0 = .ok (.iconst 0, 1) := by decide +kernel
theorem dX6_allKept_1 : decode cX6_allKept 1 = .ok (.istore_n 1, 1) := by decide +kernel
theorem dX6_allKept_2 : decode cX6_allKept 2 = .ok (.iconst 0, 1) := by decide +kernel
theorem dX6_allKept_3 : decode cX6_allKept 3 = .ok (.istore_n 2, 1) := by decide +kernel
theorem dX6_allKept_4 : decode cX6_allKept 4 = .ok (.iload_n 2, 1) := by decide +kernel
theorem dX6_allKept_5 : decode cX6_allKept 5 = .ok (.aload_n 0, 1) := by decide +kernel
theorem dX6_allKept_6 : decode cX6_allKept 6 = .ok (.getfield 42, 3) := by decide +kernel
theorem dX6_allKept_9 : decode cX6_allKept 9 = .ok (.getfield 120, 3) := by decide +kernel
theorem dX6_allKept_12 : decode cX6_allKept 12 = .ok (.if_icmp .ge 17, 3) := by decide +kernel
theorem dX6_allKept_29 : decode cX6_allKept 29 = .ok (.iload_n 1, 1) := by decide +kernel
theorem dX6_allKept_30 : decode cX6_allKept 30 = .ok (.ireturn, 1) := by decide +kernel
set_option maxRecDepth 20000 in
theorem ggX7_init_J7_fill_53178 : GoodIn wsX7_init wsJ7_fill_53178 := goodIn_r _ [14] (by decide +kernel) (by decide +kernel)
set_option maxRecDepth 20000 in
theorem gX7_init_J7_fill_53178 : GoodIn wsX7_init (va_wsS RX7 26 yJ7_fill_53178 wsJ7_fill_53178) := goodIn_app (goodIn_of _ (by decide +kernel)) ggX7_init_J7_fill_53178
theorem dX7_init_0 : decode cX7_init 0 = .ok (.aload_n 0, 1) := by decide +kernel
theorem dX7_init_1 : decode cX7_init 1 = .ok (.invokespecial 3, 3) := by decide +kernel
theorem dX7_init_4 : decode cX7_init 4 = .ok (.aload_n 0, 1) := by decide +kernel
theorem dX7_init_5 : decode cX7_init 5 = .ok (.bipush 6, 2) := by decide +kernel
theorem dX7_init_7 : decode cX7_init 7 = .ok (.newarray .int, 2) := by decide +kernel
theorem dX7_init_9 : decode cX7_init 9 = .ok (.putfield 9, 3) := by decide +kernel
theorem dX7_init_12 : decode cX7_init 12 = .ok (.aload_n 0, 1) := by decide +kernel
theorem dX7_init_13 : decode cX7_init 13 = .ok (.bipush 6, 2) := by decide +kernel
theorem dX7_init_15 : decode cX7_init 15 = .ok (.newarray .int, 2) := by decide +kernel
theorem dX7_init_17 : decode cX7_init 17 = .ok (.putfield 15, 3) := by decide +kernel
theorem dX7_init_20 : decode cX7_init 20 = .ok (.aload_n 0, 1) := by decide +kernel
theorem dX7_init_21 : decode cX7_init 21 = .ok (.bipush 6, 2) := by decide +kernel
theorem dX7_init_23 : decode cX7_init 23 = .ok (.newarray .int, 2) := by decide +kernel
theorem dX7_init_25 : decode cX7_init 25 = .ok (.putfield 18, 3) := by decide +kernel
theorem dX7_init_28 : decode cX7_init 28 = .ok (.aload_n 0, 1) := by decide +kernel
theorem dX7_init_29 : decode cX7_init 29 = .ok (.bipush 6, 2) := by decide +kernel
theorem dX7_init_31 : decode cX7_init 31 = .ok (.bipush 60, 2) := by decide +kernel
theorem dX7_init_33 : decode cX7_init 33 = .ok (.multianewarray 21 2, 4) := by decide +kernel
theorem dX7_init_37 : decode cX7_init 37 = .ok (.putfield 23, 3) := by decide +kernel
theorem dX7_init_40 : decode cX7_init 40 = .ok (.aload_n 0, 1) := by decide +kernel
theorem dX7_init_41 : decode cX7_init 41 = .ok (.getfield 9, 3) := by decide +kernel
theorem dX7_init_44 : decode cX7_init 44 = .ok (.iconst (-1), 1) := by decide +kernel
theorem dX7_init_45 : decode cX7_init 45 = .ok (.invokestatic 26, 3) := by decide +kernel
theorem dX7_init_48 : decode cX7_init 48 = .ok (.aload_n 0, 1) := by decide +kernel
theorem dX7_init_49 : decode cX7_init 49 = .ok (.getfield 15, 3) := by decide +kernel
theorem dX7_init_52 : decode cX7_init 52 = .ok (.iconst (-1), 1) := by decide +kernel
theorem dX7_init_53 : decode cX7_init 53 = .ok (.invokestatic 26, 3) := by decide +kernel
theorem dX7_init_56 : decode cX7_init 56 = .ok (.return_, 1) := by decide +kernel
theorem dX7_holdKeeper_0 : decode cX7_holdKeeper 0 = .ok (.aload_n 0, 1) := by decide +kernel
theorem dX7_holdKeeper_1 : decode cX7_holdKeeper 1 = .ok (.getfield 9, 3) := by decide +kernel
theorem dX7_holdKeeper_4 : decode cX7_holdKeeper 4 = .ok (.iload_n 1, 1) := by decide +kernel
theorem dX7_holdKeeper_5 : decode cX7_holdKeeper 5 = .ok (.iload_n 2, 1) := by decide +kernel
theorem dX7_holdKeeper_6 : decode cX7_holdKeeper 6 = .ok (.iastore, 1) := by decide +kernel
theorem dX7_holdKeeper_7 : decode cX7_holdKeeper 7 = .ok (.aload_n 0, 1) := by decide +kernel
theorem dX7_holdKeeper_8 : decode cX7_holdKeeper 8 = .ok (.getfield 15, 3) := by decide +kernel
theorem dX7_holdKeeper_11 : decode cX7_holdKeeper 11 = .ok (.iload_n 1, 1) := by decide +kernel
theorem dX7_holdKeeper_12 : decode cX7_holdKeeper 12 = .ok (.iconst (-1), 1) := by decide +kernel
theorem dX7_holdKeeper_13 : decode cX7_holdKeeper 13 = .ok (.iastore, 1) := by decide +kernel
theorem dX7_holdKeeper_14 : decode cX7_holdKeeper 14 = .ok (.aload_n 0, 1) := by decide +kernel
theorem dX7_holdKeeper_15 : decode cX7_holdKeeper 15 = .ok (.getfield 18, 3) := by decide +kernel
theorem dX7_holdKeeper_18 : decode cX7_holdKeeper 18 = .ok (.iload_n 1, 1) := by decide +kernel
theorem dX7_holdKeeper_19 : decode cX7_holdKeeper 19 = .ok (.iconst 0, 1) := by decide +kernel
theorem dX7_holdKeeper_20 : decode cX7_holdKeeper 20 = .ok (.iastore, 1) := by decide +kernel
theorem dX7_holdKeeper_21 : decode cX7_holdKeeper 21 = .ok (.return_, 1) := by decide +kernel
set_option maxRecDepth 20000 in
theorem ggX7_holdRow_J7_fill_d0a16 : GoodIn wsX7_holdRow wsJ7_fill_d0a16 := goodIn_r _ [8] (by decide +kernel) (by decide +kernel)
set_option maxRecDepth 20000 in
theorem gX7_holdRow_J7_fill_d0a16 : GoodIn wsX7_holdRow (va_wsS RX7 32 yJ7_fill_d0a16 wsJ7_fill_d0a16) := goodIn_app (goodIn_of _ (by decide +kernel)) ggX7_holdRow_J7_fill_d0a16
theorem dX7_holdRow_0 : decode cX7_holdRow 0 = .ok (.aload_n 0, 1) := by decide +kernel
theorem dX7_holdRow_1 : decode cX7_holdRow 1 = .ok (.getfield 9, 3) := by decide +kernel
theorem dX7_holdRow_4 : decode cX7_holdRow 4 = .ok (.iload_n 1, 1) := by decide +kernel
theorem dX7_holdRow_5 : decode cX7_holdRow 5 = .ok (.iconst (-1), 1) := by decide +kernel
theorem dX7_holdRow_6 : decode cX7_holdRow 6 = .ok (.iastore, 1) := by decide +kernel
theorem dX7_holdRow_7 : decode cX7_holdRow 7 = .ok (.aload_n 0, 1) := by decide +kernel
theorem dX7_holdRow_8 : decode cX7_holdRow 8 = .ok (.getfield 15, 3) := by decide +kernel
theorem dX7_holdRow_11 : decode cX7_holdRow 11 = .ok (.iload_n 1, 1) := by decide +kernel
theorem dX7_holdRow_12 : decode cX7_holdRow 12 = .ok (.iload_n 2, 1) := by decide +kernel
theorem dX7_holdRow_13 : decode cX7_holdRow 13 = .ok (.iastore, 1) := by decide +kernel
theorem dX7_holdRow_14 : decode cX7_holdRow 14 = .ok (.aload_n 0, 1) := by decide +kernel
theorem dX7_holdRow_15 : decode cX7_holdRow 15 = .ok (.getfield 18, 3) := by decide +kernel
theorem dX7_holdRow_18 : decode cX7_holdRow 18 = .ok (.iload_n 1, 1) := by decide +kernel
theorem dX7_holdRow_19 : decode cX7_holdRow 19 = .ok (.iload_n 3, 1) := by decide +kernel
theorem dX7_holdRow_20 : decode cX7_holdRow 20 = .ok (.iastore, 1) := by decide +kernel
theorem dX7_holdRow_21 : decode cX7_holdRow 21 = .ok (.aload_n 0, 1) := by decide +kernel
theorem dX7_holdRow_22 : decode cX7_holdRow 22 = .ok (.getfield 23, 3) := by decide +kernel
theorem dX7_holdRow_25 : decode cX7_holdRow 25 = .ok (.iload_n 1, 1) := by decide +kernel
theorem dX7_holdRow_26 : decode cX7_holdRow 26 = .ok (.aaload, 1) := by decide +kernel
theorem dX7_holdRow_27 : decode cX7_holdRow 27 = .ok (.lconst 0, 1) := by decide +kernel
theorem dX7_holdRow_28 : decode cX7_holdRow 28 = .ok (.invokestatic 32, 3) := by decide +kernel
theorem dX7_holdRow_31 : decode cX7_holdRow 31 = .ok (.return_, 1) := by decide +kernel
theorem dX7_isEmpty_0 : decode cX7_isEmpty 0 = .ok (.aload_n 0, 1) := by decide +kernel
theorem dX7_isEmpty_1 : decode cX7_isEmpty 1 = .ok (.getfield 15, 3) := by decide +kernel
theorem dX7_isEmpty_4 : decode cX7_isEmpty 4 = .ok (.iload_n 1, 1) := by decide +kernel
theorem dX7_isEmpty_5 : decode cX7_isEmpty 5 = .ok (.iaload, 1) := by decide +kernel
theorem dX7_isEmpty_6 : decode cX7_isEmpty 6 = .ok (.iconst (-1), 1) := by decide +kernel
theorem dX7_isEmpty_7 : decode cX7_isEmpty 7 = .ok (.if_icmp .ne 17, 3) := by decide +kernel
theorem dX7_isEmpty_10 : decode cX7_isEmpty 10 = .ok (.aload_n 0, 1) := by decide +kernel
theorem dX7_isEmpty_11 : decode cX7_isEmpty 11 = .ok (.getfield 9, 3) := by decide +kernel
theorem dX7_isEmpty_14 : decode cX7_isEmpty 14 = .ok (.iload_n 1, 1) := by decide +kernel
theorem dX7_isEmpty_15 : decode cX7_isEmpty 15 = .ok (.iaload, 1) := by decide +kernel
theorem dX7_isEmpty_16 : decode cX7_isEmpty 16 = .ok (.iconst (-1), 1) := by decide +kernel
theorem dX7_isEmpty_17 : decode cX7_isEmpty 17 = .ok (.if_icmp .ne 7, 3) := by decide +kernel
theorem dX7_isEmpty_20 : decode cX7_isEmpty 20 = .ok (.iconst 1, 1) := by decide +kernel
theorem dX7_isEmpty_21 : decode cX7_isEmpty 21 = .ok (.goto 4, 3) := by decide +kernel
theorem dX7_isEmpty_25 : decode cX7_isEmpty 25 = .ok (.ireturn, 1) := by decide +kernel
set_option maxRecDepth 20000 in
theorem ggX7_refusalAt_X7_isEmpty : GoodIn wsX7_refusalAt wsX7_isEmpty := goodIn_r _ [6, 7, 8, 13, 14, 15, 16] (by decide +kernel) (by decide +kernel)
set_option maxRecDepth 20000 in
theorem gX7_refusalAt_X7_isEmpty : GoodIn wsX7_refusalAt (wsV RX7 35 RX7 yX7_isEmpty wsX7_isEmpty) := goodIn_app (goodIn_of _ (by decide +kernel)) ggX7_refusalAt_X7_isEmpty
theorem dX7_refusalAt_0 : decode cX7_refusalAt 0 = .ok (.aload_n 0, 1) := by decide +kernel
theorem dX7_refusalAt_1 : decode cX7_refusalAt 1 = .ok (.iload_n 1, 1) := by decide +kernel
theorem dX7_refusalAt_2 : decode cX7_refusalAt 2 = .ok (.invokevirtual 35, 3) := by decide +kernel
theorem dX7_refusalAt_5 : decode cX7_refusalAt 5 = .ok (.ifCond .eq 6, 3) := by decide +kernel
theorem dX7_refusalAt_8 : decode cX7_refusalAt 8 = .ok (.bipush (-11), 2) := by decide +kernel
theorem dX7_refusalAt_10 : decode cX7_refusalAt 10 = .ok (.ireturn, 1) := by decide +kernel
theorem dX8_init_0 : decode cX8_init 0 = .ok (.aload_n 0, 1) := by decide +kernel
theorem dX8_init_1 : decode cX8_init 1 = .ok (.invokespecial 3, 3) := by decide +kernel
theorem dX8_init_4 : decode cX8_init 4 = .ok (.aload_n 0, 1) := by decide +kernel
theorem dX8_init_5 : decode cX8_init 5 = .ok (.iconst 0, 1) := by decide +kernel
theorem dX8_init_6 : decode cX8_init 6 = .ok (.putfield 9, 3) := by decide +kernel
theorem dX8_init_9 : decode cX8_init 9 = .ok (.aload_n 0, 1) := by decide +kernel
theorem dX8_init_10 : decode cX8_init 10 = .ok (.iconst 0, 1) := by decide +kernel
theorem dX8_init_11 : decode cX8_init 11 = .ok (.putfield 15, 3) := by decide +kernel
theorem dX8_init_14 : decode cX8_init 14 = .ok (.aload_n 0, 1) := by decide +kernel
theorem dX8_init_15 : decode cX8_init 15 = .ok (.iconst 1, 1) := by decide +kernel
theorem dX8_init_16 : decode cX8_init 16 = .ok (.putfield 18, 3) := by decide +kernel
theorem dX8_init_19 : decode cX8_init 19 = .ok (.aload_n 0, 1) := by decide +kernel
theorem dX8_init_20 : decode cX8_init 20 = .ok (.iconst 1, 1) := by decide +kernel
theorem dX8_init_21 : decode cX8_init 21 = .ok (.putfield 21, 3) := by decide +kernel
theorem dX8_init_24 : decode cX8_init 24 = .ok (.aload_n 0, 1) := by decide +kernel
theorem dX8_init_25 : decode cX8_init 25 = .ok (.iconst 0, 1) := by decide +kernel
theorem dX8_init_26 : decode cX8_init 26 = .ok (.putfield 24, 3) := by decide +kernel
theorem dX8_init_29 : decode cX8_init 29 = .ok (.aload_n 0, 1) := by decide +kernel
theorem dX8_init_30 : decode cX8_init 30 = .ok (.iconst 0, 1) := by decide +kernel
theorem dX8_init_31 : decode cX8_init 31 = .ok (.putfield 27, 3) := by decide +kernel
theorem dX8_init_34 : decode cX8_init 34 = .ok (.aload_n 0, 1) := by decide +kernel
theorem dX8_init_35 : decode cX8_init 35 = .ok (.iconst 0, 1) := by decide +kernel
theorem dX8_init_36 : decode cX8_init 36 = .ok (.putfield 30, 3) := by decide +kernel
theorem dX8_init_39 : decode cX8_init 39 = .ok (.aload_n 0, 1) := by decide +kernel
theorem dX8_init_40 : decode cX8_init 40 = .ok (.iconst 0, 1) := by decide +kernel
theorem dX8_init_41 : decode cX8_init 41 = .ok (.putfield 33, 3) := by decide +kernel
theorem dX8_init_44 : decode cX8_init 44 = .ok (.aload_n 0, 1) := by decide +kernel
theorem dX8_init_45 : decode cX8_init 45 = .ok (.bipush 12, 2) := by decide +kernel
theorem dX8_init_47 : decode cX8_init 47 = .ok (.newarray .int, 2) := by decide +kernel
theorem dX8_init_49 : decode cX8_init 49 = .ok (.putfield 37, 3) := by decide +kernel
theorem dX8_init_52 : decode cX8_init 52 = .ok (.aload_n 0, 1) := by decide +kernel
theorem dX8_init_53 : decode cX8_init 53 = .ok (.bipush 12, 2) := by decide +kernel
theorem dX8_init_55 : decode cX8_init 55 = .ok (.newarray .int, 2) := by decide +kernel
theorem dX8_init_57 : decode cX8_init 57 = .ok (.putfield 41, 3) := by decide +kernel
theorem dX8_init_60 : decode cX8_init 60 = .ok (.aload_n 0, 1) := by decide +kernel
theorem dX8_init_61 : decode cX8_init 61 = .ok (.bipush 80, 2) := by decide +kernel
theorem dX8_init_63 : decode cX8_init 63 = .ok (.newarray .byte, 2) := by decide +kernel
theorem dX8_init_65 : decode cX8_init 65 = .ok (.putfield 44, 3) := by decide +kernel
theorem dX8_init_68 : decode cX8_init 68 = .ok (.aload_n 0, 1) := by decide +kernel
theorem dX8_init_69 : decode cX8_init 69 = .ok (.sipush 1000, 3) := by decide +kernel
theorem dX8_init_72 : decode cX8_init 72 = .ok (.newarray .byte, 2) := by decide +kernel
theorem dX8_init_74 : decode cX8_init 74 = .ok (.putfield 48, 3) := by decide +kernel
theorem dX8_init_77 : decode cX8_init 77 = .ok (.aload_n 0, 1) := by decide +kernel
theorem dX8_init_78 : decode cX8_init 78 = .ok (.sipush 1000, 3) := by decide +kernel
theorem dX8_init_81 : decode cX8_init 81 = .ok (.newarray .short, 2) := by decide +kernel
theorem dX8_init_83 : decode cX8_init 83 = .ok (.putfield 51, 3) := by decide +kernel
theorem dX8_init_86 : decode cX8_init 86 = .ok (.return_, 1) := by decide +kernel
theorem dX9_init_0 : decode cX9_init 0 = .ok (.aload_n 0, 1) := by decide +kernel
theorem dX9_init_1 : decode cX9_init 1 = .ok (.invokespecial 3, 3) := by decide +kernel
theorem dX9_init_4 : decode cX9_init 4 = .ok (.aload_n 0, 1) := by decide +kernel
theorem dX9_init_5 : decode cX9_init 5 = .ok (.bipush 80, 2) := by decide +kernel
theorem dX9_init_7 : decode cX9_init 7 = .ok (.newarray .byte, 2) := by decide +kernel
theorem dX9_init_9 : decode cX9_init 9 = .ok (.putfield 9, 3) := by decide +kernel
theorem dX9_init_12 : decode cX9_init 12 = .ok (.aload_n 0, 1) := by decide +kernel
theorem dX9_init_13 : decode cX9_init 13 = .ok (.iconst 0, 1) := by decide +kernel
theorem dX9_init_14 : decode cX9_init 14 = .ok (.putfield 15, 3) := by decide +kernel
theorem dX9_init_17 : decode cX9_init 17 = .ok (.return_, 1) := by decide +kernel
theorem dX9_append_0 : decode cX9_append 0 = .ok (.iconst 0, 1) := by decide +kernel
theorem dX9_append_1 : decode cX9_append 1 = .ok (.istore_n 3, 1) := by decide +kernel
theorem dX9_append_2 : decode cX9_append 2 = .ok (.iload_n 3, 1) := by decide +kernel
theorem dX9_append_3 : decode cX9_append 3 = .ok (.iload_n 1, 1) := by decide +kernel
theorem dX9_append_4 : decode cX9_append 4 = .ok (.if_icmp .ge 44, 3) := by decide +kernel
theorem dX9_append_7 : decode cX9_append 7 = .ok (.aload_n 0, 1) := by decide +kernel
theorem dX9_append_8 : decode cX9_append 8 = .ok (.getfield 15, 3) := by decide +kernel
theorem dX9_append_11 : decode cX9_append 11 = .ok (.bipush 80, 2) := by decide +kernel
theorem dX9_append_13 : decode cX9_append 13 = .ok (.if_icmp .ge 35, 3) := by decide +kernel
theorem dX9_append_16 : decode cX9_append 16 = .ok (.aload_n 0, 1) := by decide +kernel
theorem dX9_append_17 : decode cX9_append 17 = .ok (.getfield 9, 3) := by decide +kernel
theorem dX9_append_20 : decode cX9_append 20 = .ok (.aload_n 0, 1) := by decide +kernel
theorem dX9_append_21 : decode cX9_append 21 = .ok (.getfield 15, 3) := by decide +kernel
theorem dX9_append_24 : decode cX9_append 24 = .ok (.iload_n 2, 1) := by decide +kernel
theorem dX9_append_25 : decode cX9_append 25 = .ok (.bipush 8, 2) := by decide +kernel
theorem dX9_append_27 : decode cX9_append 27 = .ok (.iload_n 3, 1) := by decide +kernel
theorem dX9_append_28 : decode cX9_append 28 = .ok (.imul, 1) := by decide +kernel
theorem dX9_append_29 : decode cX9_append 29 = .ok (.iushr, 1) := by decide +kernel
theorem dX9_append_30 : decode cX9_append 30 = .ok (.i2b, 1) := by decide +kernel
theorem dX9_append_31 : decode cX9_append 31 = .ok (.bastore, 1) := by decide +kernel
theorem dX9_append_32 : decode cX9_append 32 = .ok (.aload_n 0, 1) := by decide +kernel
theorem dX9_append_33 : decode cX9_append 33 = .ok (.dup, 1) := by decide +kernel
theorem dX9_append_34 : decode cX9_append 34 = .ok (.getfield 15, 3) := by decide +kernel
theorem dX9_append_37 : decode cX9_append 37 = .ok (.iconst 1, 1) := by decide +kernel
theorem dX9_append_38 : decode cX9_append 38 = .ok (.iadd, 1) := by decide +kernel
theorem dX9_append_39 : decode cX9_append 39 = .ok (.putfield 15, 3) := by decide +kernel
theorem dX9_append_42 : decode cX9_append 42 = .ok (.iinc 3 1, 3) := by decide +kernel
theorem dX9_append_45 : decode cX9_append 45 = .ok (.goto (-43), 3) := by decide +kernel
theorem dX9_append_48 : decode cX9_append 48 = .ok (.return_, 1) := by decide +kernel
theorem dX10_init_0 : decode cX10_init 0 = .ok (.aload_n 0, 1) := by decide +kernel
theorem dX10_init_1 : decode cX10_init 1 = .ok (.invokespecial 3, 3) := by decide +kernel
theorem dX10_init_4 : decode cX10_init 4 = .ok (.aload_n 0, 1) := by decide +kernel
theorem dX10_init_5 : decode cX10_init 5 = .ok (.bipush 6, 2) := by decide +kernel
theorem dX10_init_7 : decode cX10_init 7 = .ok (.newarray .int, 2) := by decide +kernel
theorem dX10_init_9 : decode cX10_init 9 = .ok (.putfield 9, 3) := by decide +kernel
theorem dX10_init_12 : decode cX10_init 12 = .ok (.aload_n 0, 1) := by decide +kernel
theorem dX10_init_13 : decode cX10_init 13 = .ok (.iconst 0, 1) := by decide +kernel
theorem dX10_init_14 : decode cX10_init 14 = .ok (.putfield 15, 3) := by decide +kernel
theorem dX10_init_17 : decode cX10_init 17 = .ok (.aload_n 0, 1) := by decide +kernel
theorem dX10_init_18 : decode cX10_init 18 = .ok (.iconst (-1), 1) := by decide +kernel
theorem dX10_init_19 : decode cX10_init 19 = .ok (.putfield 19, 3) := by decide +kernel
theorem dX10_init_22 : decode cX10_init 22 = .ok (.aload_n 0, 1) := by decide +kernel
theorem dX10_init_23 : decode cX10_init 23 = .ok (.bipush 12, 2) := by decide +kernel
theorem dX10_init_25 : decode cX10_init 25 = .ok (.newarray .int, 2) := by decide +kernel
theorem dX10_init_27 : decode cX10_init 27 = .ok (.putfield 22, 3) := by decide +kernel
theorem dX10_init_30 : decode cX10_init 30 = .ok (.aload_n 0, 1) := by decide +kernel
theorem dX10_init_31 : decode cX10_init 31 = .ok (.aload_n 1, 1) := by decide +kernel
theorem dX10_init_32 : decode cX10_init 32 = .ok (.putfield 25, 3) := by decide +kernel
theorem dX10_init_35 : decode cX10_init 35 = .ok (.return_, 1) := by decide +kernel
set_option maxRecDepth 20000 in
theorem ggX11_init_X9_init : GoodIn wsX11_init wsX9_init := goodIn_r _ [51, 52, 2, 3, 53, 54, 55, 179, 180] (by decide +kernel) (by decide +kernel)
set_option maxRecDepth 20000 in
theorem gX11_init_X9_init_n9 : GoodIn wsX11_init (wsX9_init) := ggX11_init_X9_init
set_option maxRecDepth 20000 in
theorem ggX11_init_X4_init : GoodIn wsX11_init wsX4_init := goodIn_r _ [57, 58, 2, 3, 59, 53, 60, 61, 62, 63, 64, 194, 195, 196, 197] (by decide +kernel) (by decide +kernel)
set_option maxRecDepth 20000 in
theorem gX11_init_X4_init_n18 : GoodIn wsX11_init (wsX4_init) := ggX11_init_X4_init
set_option maxRecDepth 20000 in
theorem ggX11_init_X2_init : GoodIn wsX11_init wsX2_init := goodIn_r _ [66, 67, 2, 3, 61, 68, 69, 70, 71, 72, 73, 74, 198, 199, 200, 201, 202, 203] (by decide +kernel) (by decide +kernel)
set_option maxRecDepth 20000 in
theorem gX11_init_X2_init_n25 : GoodIn wsX11_init (wsX2_init) := ggX11_init_X2_init
set_option maxRecDepth 20000 in
theorem ggX11_init_X3_init : GoodIn wsX11_init wsX3_init := goodIn_r _ [76, 77, 2, 3, 53, 78, 79, 80, 81, 82, 83, 84, 85, 204, 205, 206, 207, 208, 209, 210, 211] (by decide +kernel) (by decide +kernel)
set_option maxRecDepth 20000 in
theorem gX11_init_X3_init_n32 : GoodIn wsX11_init (wsX3_init) := ggX11_init_X3_init
set_option maxRecDepth 20000 in
theorem ggX11_init_X1_init : GoodIn wsX11_init wsX1_init := goodIn_r _ [88, 89, 2, 3, 61, 90, 91, 92, 93, 94, 95, 96, 97, 98, 212, 213, 214, 215, 216, 217, 218, 219, 220] (by decide +kernel) (by decide +kernel)
set_option maxRecDepth 20000 in
theorem gX11_init_X1_init : GoodIn wsX11_init (wsX1_init) := ggX11_init_X1_init
set_option maxRecDepth 20000 in
theorem ggX11_init_X8_init : GoodIn wsX11_init wsX8_init := goodIn_r _ [100, 101, 2, 3, 102, 103, 104, 105, 106, 107, 108, 109, 61, 110, 111, 53, 112, 113, 114, 115, 221, 222, 223, 224, 225, 226, 227, 228, 229, 230, 231, 232, 233] (by decide +kernel) (by decide +kernel)
set_option maxRecDepth 20000 in
theorem gX11_init_X8_init_n56 : GoodIn wsX11_init (wsX8_init) := ggX11_init_X8_init
set_option maxRecDepth 20000 in
theorem ggX11_init_X6_init : GoodIn wsX11_init wsX6_init := goodIn_r _ [118, 119, 2, 3, 120, 61, 121, 122, 123, 124, 125, 126, 127, 128, 129, 130, 131, 132, 234, 235, 236, 237, 238, 239, 240, 241, 242, 243, 244, 245] (by decide +kernel) (by decide +kernel)
set_option maxRecDepth 20000 in
theorem gX11_init_X6_init : GoodIn wsX11_init (wsX6_init) := ggX11_init_X6_init
set_option maxRecDepth 20000 in
theorem ggX11_init_X5_init : GoodIn wsX11_init wsX5_init := goodIn_r _ [135, 136, 2, 3, 61, 137, 138, 139, 140, 141, 142, 143, 144, 145, 146, 147, 246, 247, 248, 249, 250, 251, 252, 253, 254, 255] (by decide +kernel) (by decide +kernel)
set_option maxRecDepth 20000 in
theorem gX11_init_X5_init : GoodIn wsX11_init (wsX5_init) := ggX11_init_X5_init
set_option maxRecDepth 20000 in
theorem ggX11_init_X10_init : GoodIn wsX11_init wsX10_init := goodIn_r _ [150, 151, 2, 3, 61, 152, 153, 154, 155, 156, 256, 257, 258, 259, 260] (by decide +kernel) (by decide +kernel)
set_option maxRecDepth 20000 in
theorem gX11_init_X10_init : GoodIn wsX11_init (wsX10_init) := ggX11_init_X10_init
set_option maxRecDepth 20000 in
theorem ggX11_init_X0_init : GoodIn wsX11_init wsX0_init := goodIn_r _ [158, 159, 2, 3, 61, 160, 161, 162, 163, 164, 261, 262, 263, 264, 265] (by decide +kernel) (by decide +kernel)
set_option maxRecDepth 20000 in
theorem gX11_init_X0_init_n90 : GoodIn wsX11_init (wsX0_init) := ggX11_init_X0_init
set_option maxRecDepth 20000 in
theorem ggX11_init_X7_init : GoodIn wsX11_init wsX7_init := goodIn_r _ [167, 168, 2, 3, 61, 169, 170, 171, 172, 173, 174, 175, 176, 177, 178, 266, 267, 268, 269] (by decide +kernel) (by decide +kernel)
set_option maxRecDepth 20000 in
theorem gX11_init_X7_init : GoodIn wsX11_init (wsX7_init) := ggX11_init_X7_init
theorem dX11_init_0 : decode cX11_init 0 = .ok (.aload_n 0, 1) := by decide +kernel
theorem dX11_init_1 : decode cX11_init 1 = .ok (.invokespecial 1, 3) := by decide +kernel
theorem dX11_init_4 : decode cX11_init 4 = .ok (.aload_n 0, 1) := by decide +kernel
theorem dX11_init_5 : decode cX11_init 5 = .ok (.new 7, 3) := by decide +kernel
theorem dX11_init_8 : decode cX11_init 8 = .ok (.dup, 1) := by decide +kernel
theorem dX11_init_9 : decode cX11_init 9 = .ok (.invokespecial 9, 3) := by decide +kernel
theorem dX11_init_12 : decode cX11_init 12 = .ok (.putfield 10, 3) := by decide +kernel
theorem dX11_init_15 : decode cX11_init 15 = .ok (.aload_n 0, 1) := by decide +kernel
theorem dX11_init_16 : decode cX11_init 16 = .ok (.new 16, 3) := by decide +kernel
theorem dX11_init_19 : decode cX11_init 19 = .ok (.dup, 1) := by decide +kernel
theorem dX11_init_20 : decode cX11_init 20 = .ok (.invokespecial 18, 3) := by decide +kernel
theorem dX11_init_23 : decode cX11_init 23 = .ok (.putfield 19, 3) := by decide +kernel
theorem dX11_init_26 : decode cX11_init 26 = .ok (.aload_n 0, 1) := by decide +kernel
theorem dX11_init_27 : decode cX11_init 27 = .ok (.new 23, 3) := by decide +kernel
theorem dX11_init_30 : decode cX11_init 30 = .ok (.dup, 1) := by decide +kernel
theorem dX11_init_31 : decode cX11_init 31 = .ok (.invokespecial 25, 3) := by decide +kernel
theorem dX11_init_34 : decode cX11_init 34 = .ok (.putfield 26, 3) := by decide +kernel
theorem dX11_init_37 : decode cX11_init 37 = .ok (.aload_n 0, 1) := by decide +kernel
theorem dX11_init_38 : decode cX11_init 38 = .ok (.new 30, 3) := by decide +kernel
theorem dX11_init_41 : decode cX11_init 41 = .ok (.dup, 1) := by decide +kernel
theorem dX11_init_42 : decode cX11_init 42 = .ok (.invokespecial 32, 3) := by decide +kernel
theorem dX11_init_45 : decode cX11_init 45 = .ok (.putfield 33, 3) := by decide +kernel
theorem dX11_init_48 : decode cX11_init 48 = .ok (.aload_n 0, 1) := by decide +kernel
theorem dX11_init_49 : decode cX11_init 49 = .ok (.new 37, 3) := by decide +kernel
theorem dX11_init_52 : decode cX11_init 52 = .ok (.dup, 1) := by decide +kernel
theorem dX11_init_53 : decode cX11_init 53 = .ok (.aload_n 0, 1) := by decide +kernel
theorem dX11_init_54 : decode cX11_init 54 = .ok (.getfield 26, 3) := by decide +kernel
theorem dX11_init_57 : decode cX11_init 57 = .ok (.invokespecial 39, 3) := by decide +kernel
theorem dX11_init_60 : decode cX11_init 60 = .ok (.putfield 42, 3) := by decide +kernel
theorem dX11_init_63 : decode cX11_init 63 = .ok (.aload_n 0, 1) := by decide +kernel
theorem dX11_init_64 : decode cX11_init 64 = .ok (.bipush 10, 2) := by decide +kernel
theorem dX11_init_66 : decode cX11_init 66 = .ok (.anewarray 46, 3) := by decide +kernel
theorem dX11_init_69 : decode cX11_init 69 = .ok (.putfield 48, 3) := by decide +kernel
theorem dX11_init_72 : decode cX11_init 72 = .ok (.aload_n 0, 1) := by decide +kernel
theorem dX11_init_73 : decode cX11_init 73 = .ok (.iconst 0, 1) := by decide +kernel
theorem dX11_init_74 : decode cX11_init 74 = .ok (.putfield 52, 3) := by decide +kernel
theorem dX11_init_77 : decode cX11_init 77 = .ok (.aload_n 0, 1) := by decide +kernel
theorem dX11_init_78 : decode cX11_init 78 = .ok (.new 46, 3) := by decide +kernel
theorem dX11_init_81 : decode cX11_init 81 = .ok (.dup, 1) := by decide +kernel
theorem dX11_init_82 : decode cX11_init 82 = .ok (.invokespecial 56, 3) := by decide +kernel
theorem dX11_init_85 : decode cX11_init 85 = .ok (.putfield 57, 3) := by decide +kernel
theorem dX11_init_88 : decode cX11_init 88 = .ok (.aload_n 0, 1) := by decide +kernel
theorem dX11_init_89 : decode cX11_init 89 = .ok (.new 61, 3) := by decide +kernel
theorem dX11_init_92 : decode cX11_init 92 = .ok (.dup, 1) := by decide +kernel
theorem dX11_init_93 : decode cX11_init 93 = .ok (.aload_n 0, 1) := by decide +kernel
theorem dX11_init_94 : decode cX11_init 94 = .ok (.getfield 26, 3) := by decide +kernel
theorem dX11_init_97 : decode cX11_init 97 = .ok (.aload_n 0, 1) := by decide +kernel
theorem dX11_init_98 : decode cX11_init 98 = .ok (.getfield 19, 3) := by decide +kernel
theorem dX11_init_101 : decode cX11_init 101 = .ok (.aload_n 0, 1) := by decide +kernel
theorem dX11_init_102 : decode cX11_init 102 = .ok (.getfield 42, 3) := by decide +kernel
theorem dX11_init_105 : decode cX11_init 105 = .ok (.invokespecial 63, 3) := by decide +kernel
theorem dX11_init_108 : decode cX11_init 108 = .ok (.putfield 66, 3) := by decide +kernel
theorem dX11_init_111 : decode cX11_init 111 = .ok (.aload_n 0, 1) := by decide +kernel
theorem dX11_init_112 : decode cX11_init 112 = .ok (.new 70, 3) := by decide +kernel
theorem dX11_init_115 : decode cX11_init 115 = .ok (.dup, 1) := by decide +kernel
theorem dX11_init_116 : decode cX11_init 116 = .ok (.aload_n 0, 1) := by decide +kernel
theorem dX11_init_117 : decode cX11_init 117 = .ok (.getfield 26, 3) := by decide +kernel
theorem dX11_init_120 : decode cX11_init 120 = .ok (.aload_n 0, 1) := by decide +kernel
theorem dX11_init_121 : decode cX11_init 121 = .ok (.getfield 19, 3) := by decide +kernel
theorem dX11_init_124 : decode cX11_init 124 = .ok (.aload_n 0, 1) := by decide +kernel
theorem dX11_init_125 : decode cX11_init 125 = .ok (.getfield 42, 3) := by decide +kernel
theorem dX11_init_128 : decode cX11_init 128 = .ok (.aload_n 0, 1) := by decide +kernel
theorem dX11_init_129 : decode cX11_init 129 = .ok (.getfield 33, 3) := by decide +kernel
theorem dX11_init_132 : decode cX11_init 132 = .ok (.invokespecial 72, 3) := by decide +kernel
theorem dX11_init_135 : decode cX11_init 135 = .ok (.putfield 75, 3) := by decide +kernel
theorem dX11_init_138 : decode cX11_init 138 = .ok (.aload_n 0, 1) := by decide +kernel
theorem dX11_init_139 : decode cX11_init 139 = .ok (.new 79, 3) := by decide +kernel
theorem dX11_init_142 : decode cX11_init 142 = .ok (.dup, 1) := by decide +kernel
theorem dX11_init_143 : decode cX11_init 143 = .ok (.aload_n 0, 1) := by decide +kernel
theorem dX11_init_144 : decode cX11_init 144 = .ok (.getfield 19, 3) := by decide +kernel
theorem dX11_init_147 : decode cX11_init 147 = .ok (.invokespecial 81, 3) := by decide +kernel
theorem dX11_init_150 : decode cX11_init 150 = .ok (.putfield 84, 3) := by decide +kernel
theorem dX11_init_153 : decode cX11_init 153 = .ok (.aload_n 0, 1) := by decide +kernel
theorem dX11_init_154 : decode cX11_init 154 = .ok (.new 88, 3) := by decide +kernel
theorem dX11_init_157 : decode cX11_init 157 = .ok (.dup, 1) := by decide +kernel
theorem dX11_init_158 : decode cX11_init 158 = .ok (.invokespecial 90, 3) := by decide +kernel
theorem dX11_init_161 : decode cX11_init 161 = .ok (.putfield 91, 3) := by decide +kernel
theorem dX11_init_164 : decode cX11_init 164 = .ok (.aload_n 0, 1) := by decide +kernel
theorem dX11_init_165 : decode cX11_init 165 = .ok (.new 95, 3) := by decide +kernel
theorem dX11_init_168 : decode cX11_init 168 = .ok (.dup, 1) := by decide +kernel
theorem dX11_init_169 : decode cX11_init 169 = .ok (.invokespecial 97, 3) := by decide +kernel
theorem dX11_init_172 : decode cX11_init 172 = .ok (.putfield 98, 3) := by decide +kernel
theorem dX11_init_175 : decode cX11_init 175 = .ok (.return_, 1) := by decide +kernel
set_option maxRecDepth 20000 in
theorem ggX11_feed_X9_append : GoodIn wsX11_feed wsX9_append := goodIn_r _ [7, 8, 9, 23, 24] (by decide +kernel) (by decide +kernel)
set_option maxRecDepth 20000 in
theorem gX11_feed_X9_append : GoodIn wsX11_feed (wsV RX11 105 RX9 yX9_append wsX9_append) := goodIn_app (goodIn_of _ (by decide +kernel)) ggX11_feed_X9_append
theorem dX11_feed_0 : decode cX11_feed 0 = .ok (.iload_n 1, 1) := by decide +kernel
theorem dX11_feed_1 : decode cX11_feed 1 = .ok (.iconst 1, 1) := by decide +kernel
theorem dX11_feed_2 : decode cX11_feed 2 = .ok (.if_icmp .lt 8, 3) := by decide +kernel
theorem dX11_feed_5 : decode cX11_feed 5 = .ok (.iload_n 1, 1) := by decide +kernel
theorem dX11_feed_6 : decode cX11_feed 6 = .ok (.iconst 4, 1) := by decide +kernel
theorem dX11_feed_7 : decode cX11_feed 7 = .ok (.if_icmp .le 5, 3) := by decide +kernel
theorem dX11_feed_10 : decode cX11_feed 10 = .ok (.iconst (-1), 1) := by decide +kernel
theorem dX11_feed_11 : decode cX11_feed 11 = .ok (.ireturn, 1) := by decide +kernel
theorem dX11_feed_12 : decode cX11_feed 12 = .ok (.aload_n 0, 1) := by decide +kernel
theorem dX11_feed_13 : decode cX11_feed 13 = .ok (.getfield 10, 3) := by decide +kernel
theorem dX11_feed_16 : decode cX11_feed 16 = .ok (.getfield 102, 3) := by decide +kernel
theorem dX11_feed_19 : decode cX11_feed 19 = .ok (.iload_n 1, 1) := by decide +kernel
theorem dX11_feed_20 : decode cX11_feed 20 = .ok (.iadd, 1) := by decide +kernel
theorem dX11_feed_21 : decode cX11_feed 21 = .ok (.bipush 80, 2) := by decide +kernel
theorem dX11_feed_23 : decode cX11_feed 23 = .ok (.if_icmp .le 6, 3) := by decide +kernel
theorem dX11_feed_29 : decode cX11_feed 29 = .ok (.aload_n 0, 1) := by decide +kernel
theorem dX11_feed_30 : decode cX11_feed 30 = .ok (.getfield 10, 3) := by decide +kernel
theorem dX11_feed_33 : decode cX11_feed 33 = .ok (.iload_n 1, 1) := by decide +kernel
theorem dX11_feed_34 : decode cX11_feed 34 = .ok (.iload_n 2, 1) := by decide +kernel
theorem dX11_feed_35 : decode cX11_feed 35 = .ok (.invokevirtual 105, 3) := by decide +kernel
theorem dX11_feed_38 : decode cX11_feed 38 = .ok (.aload_n 0, 1) := by decide +kernel
theorem dX11_feed_39 : decode cX11_feed 39 = .ok (.getfield 10, 3) := by decide +kernel
theorem dX11_feed_42 : decode cX11_feed 42 = .ok (.getfield 102, 3) := by decide +kernel
theorem dX11_feed_45 : decode cX11_feed 45 = .ok (.ireturn, 1) := by decide +kernel
theorem dX11_name_0 : decode cX11_name 0 = .ok (.aload_n 0, 1) := by decide +kernel
theorem dX11_name_1 : decode cX11_name 1 = .ok (.getfield 10, 3) := by decide +kernel
theorem dX11_name_4 : decode cX11_name 4 = .ok (.getfield 102, 3) := by decide +kernel
theorem dX11_name_7 : decode cX11_name 7 = .ok (.iconst 1, 1) := by decide +kernel
theorem dX11_name_8 : decode cX11_name 8 = .ok (.if_icmp .lt 15, 3) := by decide +kernel
theorem dX11_name_23 : decode cX11_name 23 = .ok (.iconst (-1), 1) := by decide +kernel
theorem dX11_name_24 : decode cX11_name 24 = .ok (.ireturn, 1) := by decide +kernel
set_option maxRecDepth 20000 in
theorem ggX11_number_X4_has : GoodIn wsX11_number wsX4_has := goodIn_r _ [6, 7, 28, 29, 30, 31] (by decide +kernel) (by decide +kernel)
set_option maxRecDepth 20000 in
theorem gX11_number_X4_has : GoodIn wsX11_number (wsV RX11 123 RX4 yX4_has wsX4_has) := goodIn_app (goodIn_of _ (by decide +kernel)) ggX11_number_X4_has
theorem dX11_number_0 : decode cX11_number 0 = .ok (.aload_n 0, 1) := by decide +kernel
theorem dX11_number_1 : decode cX11_number 1 = .ok (.getfield 19, 3) := by decide +kernel
theorem dX11_number_4 : decode cX11_number 4 = .ok (.iload_n 1, 1) := by decide +kernel
theorem dX11_number_5 : decode cX11_number 5 = .ok (.invokevirtual 123, 3) := by decide +kernel
theorem dX11_number_8 : decode cX11_number 8 = .ok (.ifCond .ne 5, 3) := by decide +kernel
theorem dX11_number_11 : decode cX11_number 11 = .ok (.iconst (-1), 1) := by decide +kernel
theorem dX11_number_12 : decode cX11_number 12 = .ok (.ireturn, 1) := by decide +kernel
set_option maxRecDepth 20000 in
theorem ggX11_keeper_X11_isStrength : GoodIn wsX11_keeper wsX11_isStrength := goodIn_r _ [6] (by decide +kernel) (by decide +kernel)
set_option maxRecDepth 20000 in
theorem gX11_keeper_X11_isStrength : GoodIn wsX11_keeper (va_wsS RX11 131 yX11_isStrength wsX11_isStrength) := goodIn_app (goodIn_of _ (by decide +kernel)) ggX11_keeper_X11_isStrength
set_option maxRecDepth 20000 in
theorem ggX11_keeper_X2_add : GoodIn wsX11_keeper wsX2_add := goodIn_r _ [11, 12, 13, 14, 15, 16, 30, 31, 32, 33, 34, 35] (by decide +kernel) (by decide +kernel)
set_option maxRecDepth 20000 in
theorem gX11_keeper_X2_add : GoodIn wsX11_keeper (wsV RX11 135 RX2 yX2_add wsX2_add) := goodIn_app (goodIn_of _ (by decide +kernel)) ggX11_keeper_X2_add
theorem dX11_keeper_0 : decode cX11_keeper 0 = .ok (.iload_n 1, 1) := by decide +kernel
theorem dX11_keeper_1 : decode cX11_keeper 1 = .ok (.ifCond .lt 15, 3) := by decide +kernel
theorem dX11_keeper_4 : decode cX11_keeper 4 = .ok (.iload_n 1, 1) := by decide +kernel
theorem dX11_keeper_5 : decode cX11_keeper 5 = .ok (.iconst 5, 1) := by decide +kernel
theorem dX11_keeper_6 : decode cX11_keeper 6 = .ok (.if_icmp .gt 10, 3) := by decide +kernel
theorem dX11_keeper_9 : decode cX11_keeper 9 = .ok (.iload_n 2, 1) := by decide +kernel
theorem dX11_keeper_10 : decode cX11_keeper 10 = .ok (.invokestatic 131, 3) := by decide +kernel
theorem dX11_keeper_13 : decode cX11_keeper 13 = .ok (.ifCond .ne 5, 3) := by decide +kernel
theorem dX11_keeper_16 : decode cX11_keeper 16 = .ok (.iconst (-1), 1) := by decide +kernel
theorem dX11_keeper_17 : decode cX11_keeper 17 = .ok (.ireturn, 1) := by decide +kernel
theorem dX11_keeper_18 : decode cX11_keeper 18 = .ok (.aload_n 0, 1) := by decide +kernel
theorem dX11_keeper_19 : decode cX11_keeper 19 = .ok (.getfield 26, 3) := by decide +kernel
theorem dX11_keeper_22 : decode cX11_keeper 22 = .ok (.getfield 134, 3) := by decide +kernel
theorem dX11_keeper_25 : decode cX11_keeper 25 = .ok (.bipush 12, 2) := by decide +kernel
theorem dX11_keeper_27 : decode cX11_keeper 27 = .ok (.if_icmp .lt 6, 3) := by decide +kernel
theorem dX11_keeper_33 : decode cX11_keeper 33 = .ok (.aload_n 0, 1) := by decide +kernel
theorem dX11_keeper_34 : decode cX11_keeper 34 = .ok (.getfield 26, 3) := by decide +kernel
theorem dX11_keeper_37 : decode cX11_keeper 37 = .ok (.iload_n 1, 1) := by decide +kernel
theorem dX11_keeper_38 : decode cX11_keeper 38 = .ok (.iload_n 2, 1) := by decide +kernel
theorem dX11_keeper_39 : decode cX11_keeper 39 = .ok (.invokevirtual 135, 3) := by decide +kernel
theorem dX11_keeper_42 : decode cX11_keeper 42 = .ok (.ireturn, 1) := by decide +kernel
set_option maxRecDepth 20000 in
theorem ggX11_become_X2_has : GoodIn wsX11_become wsX2_has := goodIn_r _ [8, 9, 43, 44, 45, 46, 47, 48] (by decide +kernel) (by decide +kernel)
set_option maxRecDepth 20000 in
theorem gX11_become_X2_has : GoodIn wsX11_become (wsV RX11 137 RX2 yX2_has wsX2_has) := goodIn_app (goodIn_of _ (by decide +kernel)) ggX11_become_X2_has
theorem dX11_become_0 : decode cX11_become 0 = .ok (.aload_n 0, 1) := by decide +kernel
theorem dX11_become_1 : decode cX11_become 1 = .ok (.getfield 26, 3) := by decide +kernel
theorem dX11_become_4 : decode cX11_become 4 = .ok (.iload_n 1, 1) := by decide +kernel
theorem dX11_become_5 : decode cX11_become 5 = .ok (.invokevirtual 137, 3) := by decide +kernel
theorem dX11_become_8 : decode cX11_become 8 = .ok (.ifCond .eq 10, 3) := by decide +kernel
theorem dX11_become_18 : decode cX11_become 18 = .ok (.iconst (-1), 1) := by decide +kernel
theorem dX11_become_19 : decode cX11_become 19 = .ok (.ireturn, 1) := by decide +kernel
set_option maxRecDepth 20000 in
theorem ggX11_strength_X2_has : GoodIn wsX11_strength wsX2_has := goodIn_r _ [7, 8, 26, 27, 28, 29, 30, 31] (by decide +kernel) (by decide +kernel)
set_option maxRecDepth 20000 in
theorem gX11_strength_X2_has : GoodIn wsX11_strength (wsV RX11 137 RX2 yX2_has wsX2_has) := goodIn_app (goodIn_of _ (by decide +kernel)) ggX11_strength_X2_has
theorem dX11_strength_0 : decode cX11_strength 0 = .ok (.aload_n 0, 1) := by decide +kernel
theorem dX11_strength_1 : decode cX11_strength 1 = .ok (.getfield 26, 3) := by decide +kernel
theorem dX11_strength_4 : decode cX11_strength 4 = .ok (.iload_n 1, 1) := by decide +kernel
theorem dX11_strength_5 : decode cX11_strength 5 = .ok (.invokevirtual 137, 3) := by decide +kernel
theorem dX11_strength_8 : decode cX11_strength 8 = .ok (.ifCond .eq 10, 3) := by decide +kernel
theorem dX11_strength_18 : decode cX11_strength 18 = .ok (.iconst (-1), 1) := by decide +kernel
theorem dX11_strength_19 : decode cX11_strength 19 = .ok (.ireturn, 1) := by decide +kernel
set_option maxRecDepth 20000 in
theorem ggX11_ofKeeper_X2_has : GoodIn wsX11_ofKeeper wsX2_has := goodIn_r _ [13, 14, 48, 49, 50, 51, 52, 53] (by decide +kernel) (by decide +kernel)
set_option maxRecDepth 20000 in
theorem gX11_ofKeeper_X2_has : GoodIn wsX11_ofKeeper (wsV RX11 137 RX2 yX2_has wsX2_has) := goodIn_app (goodIn_of _ (by decide +kernel)) ggX11_ofKeeper_X2_has
theorem dX11_ofKeeper_0 : decode cX11_ofKeeper 0 = .ok (.aload_n 0, 1) := by decide +kernel
theorem dX11_ofKeeper_1 : decode cX11_ofKeeper 1 = .ok (.getfield 26, 3) := by decide +kernel
theorem dX11_ofKeeper_4 : decode cX11_ofKeeper 4 = .ok (.iload_n 1, 1) := by decide +kernel
theorem dX11_ofKeeper_5 : decode cX11_ofKeeper 5 = .ok (.invokevirtual 137, 3) := by decide +kernel
theorem dX11_ofKeeper_8 : decode cX11_ofKeeper 8 = .ok (.ifCond .ne 6, 3) := by decide +kernel
theorem dX11_ofKeeper_11 : decode cX11_ofKeeper 11 = .ok (.ldc 152, 2) := by decide +kernel
theorem dX11_ofKeeper_13 : decode cX11_ofKeeper 13 = .ok (.ireturn, 1) := by decide +kernel
theorem dX11_isKind_0 : decode cX11_isKind 0 = .ok (.iload_n 0, 1) := by decide +kernel
theorem dX11_isKind_1 : decode cX11_isKind 1 = .ok (.ifCond .lt 13, 3) := by decide +kernel
theorem dX11_isKind_4 : decode cX11_isKind 4 = .ok (.iload_n 0, 1) := by decide +kernel
theorem dX11_isKind_5 : decode cX11_isKind 5 = .ok (.bipush 6, 2) := by decide +kernel
theorem dX11_isKind_7 : decode cX11_isKind 7 = .ok (.if_icmp .gt 7, 3) := by decide +kernel
theorem dX11_isKind_10 : decode cX11_isKind 10 = .ok (.iconst 1, 1) := by decide +kernel
theorem dX11_isKind_11 : decode cX11_isKind 11 = .ok (.goto 4, 3) := by decide +kernel
theorem dX11_isKind_14 : decode cX11_isKind 14 = .ok (.iconst 0, 1) := by decide +kernel
theorem dX11_isKind_15 : decode cX11_isKind 15 = .ok (.ireturn, 1) := by decide +kernel
theorem dX11_isStrength_0 : decode cX11_isStrength 0 = .ok (.iload_n 0, 1) := by decide +kernel
theorem dX11_isStrength_1 : decode cX11_isStrength 1 = .ok (.iconst 1, 1) := by decide +kernel
theorem dX11_isStrength_2 : decode cX11_isStrength 2 = .ok (.if_icmp .lt 13, 3) := by decide +kernel
theorem dX11_isStrength_5 : decode cX11_isStrength 5 = .ok (.iload_n 0, 1) := by decide +kernel
theorem dX11_isStrength_6 : decode cX11_isStrength 6 = .ok (.bipush 8, 2) := by decide +kernel
theorem dX11_isStrength_8 : decode cX11_isStrength 8 = .ok (.if_icmp .gt 7, 3) := by decide +kernel
theorem dX11_isStrength_11 : decode cX11_isStrength 11 = .ok (.iconst 1, 1) := by decide +kernel
theorem dX11_isStrength_12 : decode cX11_isStrength 12 = .ok (.goto 4, 3) := by decide +kernel
theorem dX11_isStrength_15 : decode cX11_isStrength 15 = .ok (.iconst 0, 1) := by decide +kernel
theorem dX11_isStrength_16 : decode cX11_isStrength 16 = .ok (.ireturn, 1) := by decide +kernel
theorem dX11_table_0 : decode cX11_table 0 = .ok (.iconst 1, 1) := by decide +kernel
theorem dX11_table_1 : decode cX11_table 1 = .ok (.aload_n 0, 1) := by decide +kernel
theorem dX11_table_2 : decode cX11_table 2 = .ok (.getfield 26, 3) := by decide +kernel
theorem dX11_table_5 : decode cX11_table 5 = .ok (.getfield 134, 3) := by decide +kernel
theorem dX11_table_8 : decode cX11_table 8 = .ok (.ishl, 1) := by decide +kernel
theorem dX11_table_9 : decode cX11_table 9 = .ok (.iconst 1, 1) := by decide +kernel
theorem dX11_table_10 : decode cX11_table 10 = .ok (.isub, 1) := by decide +kernel
theorem dX11_table_11 : decode cX11_table 11 = .ok (.istore_n 3, 1) := by decide +kernel
theorem dX11_table_12 : decode cX11_table 12 = .ok (.iload_n 1, 1) := by decide +kernel
theorem dX11_table_13 : decode cX11_table 13 = .ok (.ifCond .eq 11, 3) := by decide +kernel
theorem dX11_table_16 : decode cX11_table 16 = .ok (.iload_n 1, 1) := by decide +kernel
theorem dX11_table_17 : decode cX11_table 17 = .ok (.iload_n 3, 1) := by decide +kernel
theorem dX11_table_18 : decode cX11_table 18 = .ok (.iconst (-1), 1) := by decide +kernel
theorem dX11_table_19 : decode cX11_table 19 = .ok (.ixor, 1) := by decide +kernel
theorem dX11_table_20 : decode cX11_table 20 = .ok (.iand, 1) := by decide +kernel
theorem dX11_table_21 : decode cX11_table 21 = .ok (.ifCond .eq 5, 3) := by decide +kernel
theorem dX11_table_24 : decode cX11_table 24 = .ok (.iconst (-1), 1) := by decide +kernel
theorem dX11_table_25 : decode cX11_table 25 = .ok (.ireturn, 1) := by decide +kernel
set_option maxRecDepth 20000 in
theorem ggX11_ofTable_X11_tableAt : GoodIn wsX11_ofTable wsX11_tableAt := goodIn_r _ [10, 11, 12, 66, 67, 68, 69, 70, 71, 72, 73, 74, 75, 76, 77, 78] (by decide +kernel) (by decide +kernel)
set_option maxRecDepth 20000 in
theorem gX11_ofTable_X11_tableAt : GoodIn wsX11_ofTable (wsV RX11 192 RX11 yX11_tableAt wsX11_tableAt) := goodIn_app (goodIn_of _ (by decide +kernel)) ggX11_ofTable_X11_tableAt
theorem dX11_ofTable_0 : decode cX11_ofTable 0 = .ok (.aload_n 0, 1) := by decide +kernel
theorem dX11_ofTable_1 : decode cX11_ofTable 1 = .ok (.iload_n 1, 1) := by decide +kernel
theorem dX11_ofTable_2 : decode cX11_ofTable 2 = .ok (.invokevirtual 192, 3) := by decide +kernel
theorem dX11_ofTable_5 : decode cX11_ofTable 5 = .ok (.astore_n 3, 1) := by decide +kernel
theorem dX11_ofTable_6 : decode cX11_ofTable 6 = .ok (.aload_n 3, 1) := by decide +kernel
theorem dX11_ofTable_7 : decode cX11_ofTable 7 = .ok (.ifnonnull 5, 3) := by decide +kernel
theorem dX11_ofTable_10 : decode cX11_ofTable 10 = .ok (.iconst (-1), 1) := by decide +kernel
theorem dX11_ofTable_11 : decode cX11_ofTable 11 = .ok (.ireturn, 1) := by decide +kernel
set_option maxRecDepth 20000 in
theorem ggX11_seat_X11_tableAt : GoodIn wsX11_seat wsX11_tableAt := goodIn_r _ [6, 7, 8, 25, 26, 27, 28, 29, 30, 31, 32, 33, 34, 35, 36, 37] (by decide +kernel) (by decide +kernel)
set_option maxRecDepth 20000 in
theorem gX11_seat_X11_tableAt : GoodIn wsX11_seat (wsV RX11 192 RX11 yX11_tableAt wsX11_tableAt) := goodIn_app (goodIn_of _ (by decide +kernel)) ggX11_seat_X11_tableAt
theorem dX11_seat_0 : decode cX11_seat 0 = .ok (.aload_n 0, 1) := by decide +kernel
theorem dX11_seat_1 : decode cX11_seat 1 = .ok (.iload_n 1, 1) := by decide +kernel
theorem dX11_seat_2 : decode cX11_seat 2 = .ok (.invokevirtual 192, 3) := by decide +kernel
theorem dX11_seat_5 : decode cX11_seat 5 = .ok (.astore_n 3, 1) := by decide +kernel
theorem dX11_seat_6 : decode cX11_seat 6 = .ok (.aload_n 3, 1) := by decide +kernel
theorem dX11_seat_7 : decode cX11_seat 7 = .ok (.ifnull 10, 3) := by decide +kernel
theorem dX11_seat_17 : decode cX11_seat 17 = .ok (.iconst (-1), 1) := by decide +kernel
theorem dX11_seat_18 : decode cX11_seat 18 = .ok (.ireturn, 1) := by decide +kernel
set_option maxRecDepth 20000 in
theorem ggX11_picked_X11_tableAt : GoodIn wsX11_picked wsX11_tableAt := goodIn_r _ [8, 9, 10, 65, 66, 67, 68, 69, 70, 71, 72, 73, 74, 75, 76, 77] (by decide +kernel) (by decide +kernel)
set_option maxRecDepth 20000 in
theorem gX11_picked_X11_tableAt : GoodIn wsX11_picked (wsV RX11 192 RX11 yX11_tableAt wsX11_tableAt) := goodIn_app (goodIn_of _ (by decide +kernel)) ggX11_picked_X11_tableAt
theorem dX11_picked_0 : decode cX11_picked 0 = .ok (.aload_n 0, 1) := by decide +kernel
theorem dX11_picked_1 : decode cX11_picked 1 = .ok (.iload_n 1, 1) := by decide +kernel
theorem dX11_picked_2 : decode cX11_picked 2 = .ok (.invokevirtual 192, 3) := by decide +kernel
theorem dX11_picked_5 : decode cX11_picked 5 = .ok (.astore 4, 2) := by decide +kernel
theorem dX11_picked_7 : decode cX11_picked 7 = .ok (.aload 4, 2) := by decide +kernel
theorem dX11_picked_9 : decode cX11_picked 9 = .ok (.ifnull 14, 3) := by decide +kernel
theorem dX11_picked_23 : decode cX11_picked 23 = .ok (.iconst (-1), 1) := by decide +kernel
theorem dX11_picked_24 : decode cX11_picked 24 = .ok (.ireturn, 1) := by decide +kernel
set_option maxRecDepth 20000 in
theorem ggX11_keeperOf_X11_tableAt : GoodIn wsX11_keeperOf wsX11_tableAt := goodIn_r _ [10, 11, 12, 101, 102, 103, 104, 105, 106, 107, 108, 109, 110, 111, 112, 113] (by decide +kernel) (by decide +kernel)
set_option maxRecDepth 20000 in
theorem gX11_keeperOf_X11_tableAt : GoodIn wsX11_keeperOf (wsV RX11 192 RX11 yX11_tableAt wsX11_tableAt) := goodIn_app (goodIn_of _ (by decide +kernel)) ggX11_keeperOf_X11_tableAt
theorem dX11_keeperOf_0 : decode cX11_keeperOf 0 = .ok (.aload_n 0, 1) := by decide +kernel
theorem dX11_keeperOf_1 : decode cX11_keeperOf 1 = .ok (.iload_n 1, 1) := by decide +kernel
theorem dX11_keeperOf_2 : decode cX11_keeperOf 2 = .ok (.invokevirtual 192, 3) := by decide +kernel
theorem dX11_keeperOf_5 : decode cX11_keeperOf 5 = .ok (.astore 4, 2) := by decide +kernel
theorem dX11_keeperOf_7 : decode cX11_keeperOf 7 = .ok (.aload 4, 2) := by decide +kernel
theorem dX11_keeperOf_9 : decode cX11_keeperOf 9 = .ok (.ifnull 19, 3) := by decide +kernel
theorem dX11_keeperOf_28 : decode cX11_keeperOf 28 = .ok (.iconst (-1), 1) := by decide +kernel
theorem dX11_keeperOf_29 : decode cX11_keeperOf 29 = .ok (.ireturn, 1) := by decide +kernel
set_option maxRecDepth 20000 in
theorem ggX11_tooFew_X11_tableAt : GoodIn wsX11_tooFew wsX11_tableAt := goodIn_r _ [11, 12, 13, 104, 105, 106, 107, 108, 109, 110, 111, 112, 113, 114, 115, 116] (by decide +kernel) (by decide +kernel)
set_option maxRecDepth 20000 in
theorem gX11_tooFew_X11_tableAt : GoodIn wsX11_tooFew (wsV RX11 192 RX11 yX11_tableAt wsX11_tableAt) := goodIn_app (goodIn_of _ (by decide +kernel)) ggX11_tooFew_X11_tableAt
theorem dX11_tooFew_0 : decode cX11_tooFew 0 = .ok (.aload_n 0, 1) := by decide +kernel
theorem dX11_tooFew_1 : decode cX11_tooFew 1 = .ok (.iload_n 1, 1) := by decide +kernel
theorem dX11_tooFew_2 : decode cX11_tooFew 2 = .ok (.invokevirtual 192, 3) := by decide +kernel
theorem dX11_tooFew_5 : decode cX11_tooFew 5 = .ok (.astore_n 2, 1) := by decide +kernel
theorem dX11_tooFew_6 : decode cX11_tooFew 6 = .ok (.aload_n 2, 1) := by decide +kernel
theorem dX11_tooFew_7 : decode cX11_tooFew 7 = .ok (.ifnonnull 5, 3) := by decide +kernel
theorem dX11_tooFew_10 : decode cX11_tooFew 10 = .ok (.iconst (-1), 1) := by decide +kernel
theorem dX11_tooFew_11 : decode cX11_tooFew 11 = .ok (.ireturn, 1) := by decide +kernel
set_option maxRecDepth 20000 in
theorem ggX11_share_X11_tableAt : GoodIn wsX11_share wsX11_tableAt := goodIn_r _ [10, 11, 12, 57, 58, 59, 60, 61, 62, 63, 64, 65, 66, 67, 68, 69] (by decide +kernel) (by decide +kernel)
set_option maxRecDepth 20000 in
theorem gX11_share_X11_tableAt : GoodIn wsX11_share (wsV RX11 192 RX11 yX11_tableAt wsX11_tableAt) := goodIn_app (goodIn_of _ (by decide +kernel)) ggX11_share_X11_tableAt
theorem dX11_share_0 : decode cX11_share 0 = .ok (.aload_n 0, 1) := by decide +kernel
theorem dX11_share_1 : decode cX11_share 1 = .ok (.iload_n 1, 1) := by decide +kernel
theorem dX11_share_2 : decode cX11_share 2 = .ok (.invokevirtual 192, 3) := by decide +kernel
theorem dX11_share_5 : decode cX11_share 5 = .ok (.astore 4, 2) := by decide +kernel
theorem dX11_share_7 : decode cX11_share 7 = .ok (.aload 4, 2) := by decide +kernel
theorem dX11_share_9 : decode cX11_share 9 = .ok (.ifnull 23, 3) := by decide +kernel
theorem dX11_share_32 : decode cX11_share 32 = .ok (.iconst (-1), 1) := by decide +kernel
theorem dX11_share_33 : decode cX11_share 33 = .ok (.ireturn, 1) := by decide +kernel
set_option maxRecDepth 20000 in
theorem ggX11_moves_X11_tableAt : GoodIn wsX11_moves wsX11_tableAt := goodIn_r _ [10, 11, 12, 108, 109, 110, 111, 112, 113, 114, 115, 116, 117, 118, 119, 120] (by decide +kernel) (by decide +kernel)
set_option maxRecDepth 20000 in
theorem gX11_moves_X11_tableAt : GoodIn wsX11_moves (wsV RX11 192 RX11 yX11_tableAt wsX11_tableAt) := goodIn_app (goodIn_of _ (by decide +kernel)) ggX11_moves_X11_tableAt
theorem dX11_moves_0 : decode cX11_moves 0 = .ok (.aload_n 0, 1) := by decide +kernel
theorem dX11_moves_1 : decode cX11_moves 1 = .ok (.iload_n 1, 1) := by decide +kernel
theorem dX11_moves_2 : decode cX11_moves 2 = .ok (.invokevirtual 192, 3) := by decide +kernel
theorem dX11_moves_5 : decode cX11_moves 5 = .ok (.astore 4, 2) := by decide +kernel
theorem dX11_moves_7 : decode cX11_moves 7 = .ok (.aload_n 0, 1) := by decide +kernel
theorem dX11_moves_8 : decode cX11_moves 8 = .ok (.iload_n 2, 1) := by decide +kernel
theorem dX11_moves_9 : decode cX11_moves 9 = .ok (.invokevirtual 192, 3) := by decide +kernel
theorem dX11_moves_12 : decode cX11_moves 12 = .ok (.astore 5, 2) := by decide +kernel
theorem dX11_moves_14 : decode cX11_moves 14 = .ok (.aload 4, 2) := by decide +kernel
theorem dX11_moves_16 : decode cX11_moves 16 = .ok (.ifnull 17, 3) := by decide +kernel
theorem dX11_moves_33 : decode cX11_moves 33 = .ok (.iconst (-1), 1) := by decide +kernel
theorem dX11_moves_34 : decode cX11_moves 34 = .ok (.ireturn, 1) := by decide +kernel
theorem dX11_tableAt_0 : decode cX11_tableAt 0 = .ok (.iload_n 1, 1) := by decide +kernel
theorem dX11_tableAt_1 : decode cX11_tableAt 1 = .ok (.ifCond .lt 20, 3) := by decide +kernel
theorem dX11_tableAt_4 : decode cX11_tableAt 4 = .ok (.iload_n 1, 1) := by decide +kernel
theorem dX11_tableAt_5 : decode cX11_tableAt 5 = .ok (.aload_n 0, 1) := by decide +kernel
theorem dX11_tableAt_6 : decode cX11_tableAt 6 = .ok (.getfield 52, 3) := by decide +kernel
theorem dX11_tableAt_9 : decode cX11_tableAt 9 = .ok (.if_icmp .ge 12, 3) := by decide +kernel
theorem dX11_tableAt_21 : decode cX11_tableAt 21 = .ok (.aconst_null, 1) := by decide +kernel
theorem dX11_tableAt_22 : decode cX11_tableAt 22 = .ok (.areturn, 1) := by decide +kernel
theorem dX11_isPlace_0 : decode cX11_isPlace 0 = .ok (.iload_n 0, 1) := by decide +kernel
theorem dX11_isPlace_1 : decode cX11_isPlace 1 = .ok (.ifCond .lt 14, 3) := by decide +kernel
theorem dX11_isPlace_4 : decode cX11_isPlace 4 = .ok (.iload_n 0, 1) := by decide +kernel
theorem dX11_isPlace_5 : decode cX11_isPlace 5 = .ok (.sipush 1000, 3) := by decide +kernel
theorem dX11_isPlace_8 : decode cX11_isPlace 8 = .ok (.if_icmp .ge 7, 3) := by decide +kernel
theorem dX11_isPlace_11 : decode cX11_isPlace 11 = .ok (.iconst 1, 1) := by decide +kernel
theorem dX11_isPlace_12 : decode cX11_isPlace 12 = .ok (.goto 4, 3) := by decide +kernel
theorem dX11_isPlace_15 : decode cX11_isPlace 15 = .ok (.iconst 0, 1) := by decide +kernel
theorem dX11_isPlace_16 : decode cX11_isPlace 16 = .ok (.ireturn, 1) := by decide +kernel
set_option maxRecDepth 20000 in
theorem ggX11_knows_X2_has : GoodIn wsX11_knows wsX2_has := goodIn_r _ [9, 10, 24, 25, 26, 27, 28, 29] (by decide +kernel) (by decide +kernel)
set_option maxRecDepth 20000 in
theorem gX11_knows_X2_has : GoodIn wsX11_knows (wsV RX11 137 RX2 yX2_has wsX2_has) := goodIn_app (goodIn_of _ (by decide +kernel)) ggX11_knows_X2_has
theorem dX11_knows_0 : decode cX11_knows 0 = .ok (.aload_n 0, 1) := by decide +kernel
theorem dX11_knows_1 : decode cX11_knows 1 = .ok (.getfield 26, 3) := by decide +kernel
theorem dX11_knows_4 : decode cX11_knows 4 = .ok (.iload_n 1, 1) := by decide +kernel
theorem dX11_knows_5 : decode cX11_knows 5 = .ok (.invokevirtual 137, 3) := by decide +kernel
theorem dX11_knows_8 : decode cX11_knows 8 = .ok (.ifCond .eq 16, 3) := by decide +kernel
theorem dX11_knows_24 : decode cX11_knows 24 = .ok (.ldc 152, 2) := by decide +kernel
theorem dX11_knows_26 : decode cX11_knows 26 = .ok (.ireturn, 1) := by decide +kernel
set_option maxRecDepth 20000 in
theorem ggX11_write_X2_has : GoodIn wsX11_write wsX2_has := goodIn_r _ [9, 10, 174, 175, 176, 177, 178, 179] (by decide +kernel) (by decide +kernel)
set_option maxRecDepth 20000 in
theorem gX11_write_X2_has : GoodIn wsX11_write (wsV RX11 137 RX2 yX2_has wsX2_has) := goodIn_app (goodIn_of _ (by decide +kernel)) ggX11_write_X2_has
theorem dX11_write_0 : decode cX11_write 0 = .ok (.aload_n 0, 1) := by decide +kernel
theorem dX11_write_1 : decode cX11_write 1 = .ok (.getfield 26, 3) := by decide +kernel
theorem dX11_write_4 : decode cX11_write 4 = .ok (.iload_n 1, 1) := by decide +kernel
theorem dX11_write_5 : decode cX11_write 5 = .ok (.invokevirtual 137, 3) := by decide +kernel
theorem dX11_write_8 : decode cX11_write 8 = .ok (.ifCond .eq 14, 3) := by decide +kernel
theorem dX11_write_22 : decode cX11_write 22 = .ok (.iconst (-1), 1) := by decide +kernel
theorem dX11_write_23 : decode cX11_write 23 = .ok (.ireturn, 1) := by decide +kernel
set_option maxRecDepth 20000 in
theorem ggX11_read_X2_has : GoodIn wsX11_read wsX2_has := goodIn_r _ [9, 10, 141, 142, 143, 144, 145, 146] (by decide +kernel) (by decide +kernel)
set_option maxRecDepth 20000 in
theorem gX11_read_X2_has : GoodIn wsX11_read (wsV RX11 137 RX2 yX2_has wsX2_has) := goodIn_app (goodIn_of _ (by decide +kernel)) ggX11_read_X2_has
theorem dX11_read_0 : decode cX11_read 0 = .ok (.aload_n 0, 1) := by decide +kernel
theorem dX11_read_1 : decode cX11_read 1 = .ok (.getfield 26, 3) := by decide +kernel
theorem dX11_read_4 : decode cX11_read 4 = .ok (.iload_n 1, 1) := by decide +kernel
theorem dX11_read_5 : decode cX11_read 5 = .ok (.invokevirtual 137, 3) := by decide +kernel
theorem dX11_read_8 : decode cX11_read 8 = .ok (.ifCond .eq 14, 3) := by decide +kernel
theorem dX11_read_22 : decode cX11_read 22 = .ok (.iconst (-1), 1) := by decide +kernel
theorem dX11_read_23 : decode cX11_read 23 = .ok (.ireturn, 1) := by decide +kernel
set_option maxRecDepth 20000 in
theorem ggX11_onShelf_X2_has : GoodIn wsX11_onShelf wsX2_has := goodIn_r _ [12, 13, 45, 46, 47, 48, 49, 50] (by decide +kernel) (by decide +kernel)
set_option maxRecDepth 20000 in
theorem gX11_onShelf_X2_has : GoodIn wsX11_onShelf (wsV RX11 137 RX2 yX2_has wsX2_has) := goodIn_app (goodIn_of _ (by decide +kernel)) ggX11_onShelf_X2_has
theorem dX11_onShelf_0 : decode cX11_onShelf 0 = .ok (.aload_n 0, 1) := by decide +kernel
theorem dX11_onShelf_1 : decode cX11_onShelf 1 = .ok (.getfield 26, 3) := by decide +kernel
theorem dX11_onShelf_4 : decode cX11_onShelf 4 = .ok (.iload_n 1, 1) := by decide +kernel
theorem dX11_onShelf_5 : decode cX11_onShelf 5 = .ok (.invokevirtual 137, 3) := by decide +kernel
theorem dX11_onShelf_8 : decode cX11_onShelf 8 = .ok (.ifCond .eq 14, 3) := by decide +kernel
theorem dX11_onShelf_22 : decode cX11_onShelf 22 = .ok (.iconst (-1), 1) := by decide +kernel
theorem dX11_onShelf_23 : decode cX11_onShelf 23 = .ok (.ireturn, 1) := by decide +kernel
set_option maxRecDepth 20000 in
theorem ggX11_fall_X2_has : GoodIn wsX11_fall wsX2_has := goodIn_r _ [8, 9, 34, 35, 36, 37, 38, 39] (by decide +kernel) (by decide +kernel)
set_option maxRecDepth 20000 in
theorem gX11_fall_X2_has : GoodIn wsX11_fall (wsV RX11 137 RX2 yX2_has wsX2_has) := goodIn_app (goodIn_of _ (by decide +kernel)) ggX11_fall_X2_has
theorem dX11_fall_0 : decode cX11_fall 0 = .ok (.aload_n 0, 1) := by decide +kernel
theorem dX11_fall_1 : decode cX11_fall 1 = .ok (.getfield 26, 3) := by decide +kernel
theorem dX11_fall_4 : decode cX11_fall 4 = .ok (.iload_n 1, 1) := by decide +kernel
theorem dX11_fall_5 : decode cX11_fall 5 = .ok (.invokevirtual 137, 3) := by decide +kernel
theorem dX11_fall_8 : decode cX11_fall 8 = .ok (.ifCond .eq 12, 3) := by decide +kernel
theorem dX11_fall_20 : decode cX11_fall 20 = .ok (.iconst (-1), 1) := by decide +kernel
theorem dX11_fall_21 : decode cX11_fall 21 = .ok (.ireturn, 1) := by decide +kernel
set_option maxRecDepth 20000 in
theorem ggX11_half_X4_has : GoodIn wsX11_half wsX4_has := goodIn_r _ [9, 10, 61, 62, 63, 64] (by decide +kernel) (by decide +kernel)
set_option maxRecDepth 20000 in
theorem gX11_half_X4_has : GoodIn wsX11_half (wsV RX11 123 RX4 yX4_has wsX4_has) := goodIn_app (goodIn_of _ (by decide +kernel)) ggX11_half_X4_has
theorem dX11_half_0 : decode cX11_half 0 = .ok (.aload_n 0, 1) := by decide +kernel
theorem dX11_half_1 : decode cX11_half 1 = .ok (.getfield 19, 3) := by decide +kernel
theorem dX11_half_4 : decode cX11_half 4 = .ok (.iload_n 1, 1) := by decide +kernel
theorem dX11_half_5 : decode cX11_half 5 = .ok (.invokevirtual 123, 3) := by decide +kernel
theorem dX11_half_8 : decode cX11_half 8 = .ok (.ifCond .eq 30, 3) := by decide +kernel
theorem dX11_half_38 : decode cX11_half 38 = .ok (.iconst (-1), 1) := by decide +kernel
theorem dX11_half_39 : decode cX11_half 39 = .ok (.ireturn, 1) := by decide +kernel
set_option maxRecDepth 20000 in
theorem ggX11_mend_X11_tableAt : GoodIn wsX11_mend wsX11_tableAt := goodIn_r _ [6, 7, 8, 141, 142, 143, 144, 145, 146, 147, 148, 149, 150, 151, 152, 153] (by decide +kernel) (by decide +kernel)
set_option maxRecDepth 20000 in
theorem gX11_mend_X11_tableAt : GoodIn wsX11_mend (wsV RX11 192 RX11 yX11_tableAt wsX11_tableAt) := goodIn_app (goodIn_of _ (by decide +kernel)) ggX11_mend_X11_tableAt
theorem dX11_mend_0 : decode cX11_mend 0 = .ok (.aload_n 0, 1) := by decide +kernel
theorem dX11_mend_1 : decode cX11_mend 1 = .ok (.iload_n 1, 1) := by decide +kernel
theorem dX11_mend_2 : decode cX11_mend 2 = .ok (.invokevirtual 192, 3) := by decide +kernel
theorem dX11_mend_5 : decode cX11_mend 5 = .ok (.astore_n 2, 1) := by decide +kernel
theorem dX11_mend_6 : decode cX11_mend 6 = .ok (.aload_n 2, 1) := by decide +kernel
theorem dX11_mend_7 : decode cX11_mend 7 = .ok (.ifnonnull 5, 3) := by decide +kernel
theorem dX11_mend_10 : decode cX11_mend 10 = .ok (.iconst (-1), 1) := by decide +kernel
theorem dX11_mend_11 : decode cX11_mend 11 = .ok (.ireturn, 1) := by decide +kernel
set_option maxRecDepth 20000 in
theorem ggX11_trees_X2_has : GoodIn wsX11_trees wsX2_has := goodIn_r _ [7, 8, 48, 49, 50, 51, 52, 53] (by decide +kernel) (by decide +kernel)
set_option maxRecDepth 20000 in
theorem gX11_trees_X2_has : GoodIn wsX11_trees (wsV RX11 137 RX2 yX2_has wsX2_has) := goodIn_app (goodIn_of _ (by decide +kernel)) ggX11_trees_X2_has
theorem dX11_trees_0 : decode cX11_trees 0 = .ok (.aload_n 0, 1) := by decide +kernel
theorem dX11_trees_1 : decode cX11_trees 1 = .ok (.getfield 26, 3) := by decide +kernel
theorem dX11_trees_4 : decode cX11_trees 4 = .ok (.iload_n 1, 1) := by decide +kernel
theorem dX11_trees_5 : decode cX11_trees 5 = .ok (.invokevirtual 137, 3) := by decide +kernel
theorem dX11_trees_8 : decode cX11_trees 8 = .ok (.ifCond .eq 19, 3) := by decide +kernel
theorem dX11_trees_27 : decode cX11_trees 27 = .ok (.iconst (-1), 1) := by decide +kernel
theorem dX11_trees_28 : decode cX11_trees 28 = .ok (.ireturn, 1) := by decide +kernel
set_option maxRecDepth 20000 in
theorem ggX11_noon_X11_tableAt : GoodIn wsX11_noon wsX11_tableAt := goodIn_r _ [6, 7, 8, 32, 33, 34, 35, 36, 37, 38, 39, 40, 41, 42, 43, 44] (by decide +kernel) (by decide +kernel)
set_option maxRecDepth 20000 in
theorem gX11_noon_X11_tableAt : GoodIn wsX11_noon (wsV RX11 192 RX11 yX11_tableAt wsX11_tableAt) := goodIn_app (goodIn_of _ (by decide +kernel)) ggX11_noon_X11_tableAt
theorem dX11_noon_0 : decode cX11_noon 0 = .ok (.aload_n 0, 1) := by decide +kernel
theorem dX11_noon_1 : decode cX11_noon 1 = .ok (.iload_n 1, 1) := by decide +kernel
theorem dX11_noon_2 : decode cX11_noon 2 = .ok (.invokevirtual 192, 3) := by decide +kernel
theorem dX11_noon_5 : decode cX11_noon 5 = .ok (.astore 4, 2) := by decide +kernel
theorem dX11_noon_7 : decode cX11_noon 7 = .ok (.aload 4, 2) := by decide +kernel
theorem dX11_noon_9 : decode cX11_noon 9 = .ok (.ifnull 25, 3) := by decide +kernel
theorem dX11_noon_34 : decode cX11_noon 34 = .ok (.iconst (-1), 1) := by decide +kernel
theorem dX11_noon_35 : decode cX11_noon 35 = .ok (.ireturn, 1) := by decide +kernel
set_option maxRecDepth 20000 in
theorem ggX11_lies_X2_has : GoodIn wsX11_lies wsX2_has := goodIn_r _ [11, 12, 30, 31, 32, 33, 34, 35] (by decide +kernel) (by decide +kernel)
set_option maxRecDepth 20000 in
theorem gX11_lies_X2_has : GoodIn wsX11_lies (wsV RX11 137 RX2 yX2_has wsX2_has) := goodIn_app (goodIn_of _ (by decide +kernel)) ggX11_lies_X2_has
theorem dX11_lies_0 : decode cX11_lies 0 = .ok (.aload_n 0, 1) := by decide +kernel
theorem dX11_lies_1 : decode cX11_lies 1 = .ok (.getfield 26, 3) := by decide +kernel
theorem dX11_lies_4 : decode cX11_lies 4 = .ok (.iload_n 1, 1) := by decide +kernel
theorem dX11_lies_5 : decode cX11_lies 5 = .ok (.invokevirtual 137, 3) := by decide +kernel
theorem dX11_lies_8 : decode cX11_lies 8 = .ok (.ifCond .eq 18, 3) := by decide +kernel
theorem dX11_lies_26 : decode cX11_lies 26 = .ok (.iconst (-1), 1) := by decide +kernel
theorem dX11_lies_27 : decode cX11_lies 27 = .ok (.ireturn, 1) := by decide +kernel
set_option maxRecDepth 20000 in
theorem ggX11_comes_X2_has : GoodIn wsX11_comes wsX2_has := goodIn_r _ [9, 10, 41, 42, 43, 44, 45, 46] (by decide +kernel) (by decide +kernel)
set_option maxRecDepth 20000 in
theorem gX11_comes_X2_has : GoodIn wsX11_comes (wsV RX11 137 RX2 yX2_has wsX2_has) := goodIn_app (goodIn_of _ (by decide +kernel)) ggX11_comes_X2_has
theorem dX11_comes_0 : decode cX11_comes 0 = .ok (.aload_n 0, 1) := by decide +kernel
theorem dX11_comes_1 : decode cX11_comes 1 = .ok (.getfield 26, 3) := by decide +kernel
theorem dX11_comes_4 : decode cX11_comes 4 = .ok (.iload_n 1, 1) := by decide +kernel
theorem dX11_comes_5 : decode cX11_comes 5 = .ok (.invokevirtual 137, 3) := by decide +kernel
theorem dX11_comes_8 : decode cX11_comes 8 = .ok (.ifCond .eq 14, 3) := by decide +kernel
theorem dX11_comes_22 : decode cX11_comes 22 = .ok (.iconst (-1), 1) := by decide +kernel
theorem dX11_comes_23 : decode cX11_comes 23 = .ok (.ireturn, 1) := by decide +kernel
set_option maxRecDepth 20000 in
theorem ggX11_order_X11_tableAt : GoodIn wsX11_order wsX11_tableAt := goodIn_r _ [8, 9, 10, 256, 257, 258, 259, 260, 261, 262, 263, 264, 265, 266, 267, 268] (by decide +kernel) (by decide +kernel)
set_option maxRecDepth 20000 in
theorem gX11_order_X11_tableAt : GoodIn wsX11_order (wsV RX11 192 RX11 yX11_tableAt wsX11_tableAt) := goodIn_app (goodIn_of _ (by decide +kernel)) ggX11_order_X11_tableAt
theorem dX11_order_0 : decode cX11_order 0 = .ok (.aload_n 0, 1) := by decide +kernel
theorem dX11_order_1 : decode cX11_order 1 = .ok (.iload_n 1, 1) := by decide +kernel
theorem dX11_order_2 : decode cX11_order 2 = .ok (.invokevirtual 192, 3) := by decide +kernel
theorem dX11_order_5 : decode cX11_order 5 = .ok (.astore_n 2, 1) := by decide +kernel
theorem dX11_order_6 : decode cX11_order 6 = .ok (.aload_n 2, 1) := by decide +kernel
theorem dX11_order_7 : decode cX11_order 7 = .ok (.ifnull 13, 3) := by decide +kernel
theorem dX11_order_20 : decode cX11_order 20 = .ok (.iconst (-1), 1) := by decide +kernel
theorem dX11_order_21 : decode cX11_order 21 = .ok (.ireturn, 1) := by decide +kernel
theorem dX11_ordered_0 : decode cX11_ordered 0 = .ok (.iload_n 1, 1) := by decide +kernel
theorem dX11_ordered_1 : decode cX11_ordered 1 = .ok (.ifCond .lt 26, 3) := by decide +kernel
theorem dX11_ordered_4 : decode cX11_ordered 4 = .ok (.iload_n 1, 1) := by decide +kernel
theorem dX11_ordered_5 : decode cX11_ordered 5 = .ok (.aload_n 0, 1) := by decide +kernel
theorem dX11_ordered_6 : decode cX11_ordered 6 = .ok (.getfield 75, 3) := by decide +kernel
theorem dX11_ordered_9 : decode cX11_ordered 9 = .ok (.getfield 330, 3) := by decide +kernel
theorem dX11_ordered_12 : decode cX11_ordered 12 = .ok (.if_icmp .ge 15, 3) := by decide +kernel
theorem dX11_ordered_27 : decode cX11_ordered 27 = .ok (.iconst (-1), 1) := by decide +kernel
theorem dX11_ordered_28 : decode cX11_ordered 28 = .ok (.ireturn, 1) := by decide +kernel
theorem dX11_turning_0 : decode cX11_turning 0 = .ok (.aload_n 0, 1) := by decide +kernel
theorem dX11_turning_1 : decode cX11_turning 1 = .ok (.getfield 84, 3) := by decide +kernel
theorem dX11_turning_4 : decode cX11_turning 4 = .ok (.getfield 336, 3) := by decide +kernel
theorem dX11_turning_7 : decode cX11_turning 7 = .ok (.bipush 6, 2) := by decide +kernel
theorem dX11_turning_9 : decode cX11_turning 9 = .ok (.if_icmp .lt 6, 3) := by decide +kernel
theorem dX11_turning_15 : decode cX11_turning 15 = .ok (.aload_n 0, 1) := by decide +kernel
theorem dX11_turning_16 : decode cX11_turning 16 = .ok (.getfield 84, 3) := by decide +kernel
theorem dX11_turning_19 : decode cX11_turning 19 = .ok (.getfield 337, 3) := by decide +kernel
theorem dX11_turning_22 : decode cX11_turning 22 = .ok (.aload_n 0, 1) := by decide +kernel
theorem dX11_turning_23 : decode cX11_turning 23 = .ok (.getfield 84, 3) := by decide +kernel
theorem dX11_turning_26 : decode cX11_turning 26 = .ok (.getfield 336, 3) := by decide +kernel
theorem dX11_turning_29 : decode cX11_turning 29 = .ok (.iload_n 1, 1) := by decide +kernel
theorem dX11_turning_30 : decode cX11_turning 30 = .ok (.iastore, 1) := by decide +kernel
theorem dX11_turning_31 : decode cX11_turning 31 = .ok (.aload_n 0, 1) := by decide +kernel
theorem dX11_turning_32 : decode cX11_turning 32 = .ok (.getfield 84, 3) := by decide +kernel
theorem dX11_turning_35 : decode cX11_turning 35 = .ok (.dup, 1) := by decide +kernel
theorem dX11_turning_36 : decode cX11_turning 36 = .ok (.getfield 336, 3) := by decide +kernel
theorem dX11_turning_39 : decode cX11_turning 39 = .ok (.iconst 1, 1) := by decide +kernel
theorem dX11_turning_40 : decode cX11_turning 40 = .ok (.iadd, 1) := by decide +kernel
theorem dX11_turning_41 : decode cX11_turning 41 = .ok (.putfield 336, 3) := by decide +kernel
theorem dX11_turning_44 : decode cX11_turning 44 = .ok (.aload_n 0, 1) := by decide +kernel
theorem dX11_turning_45 : decode cX11_turning 45 = .ok (.getfield 84, 3) := by decide +kernel
theorem dX11_turning_48 : decode cX11_turning 48 = .ok (.getfield 336, 3) := by decide +kernel
theorem dX11_turning_51 : decode cX11_turning 51 = .ok (.ireturn, 1) := by decide +kernel
set_option maxRecDepth 20000 in
theorem ggX11_harm_X11_tableAt : GoodIn wsX11_harm wsX11_tableAt := goodIn_r _ [8, 9, 10, 101, 102, 103, 104, 105, 106, 107, 108, 109, 110, 111, 112, 113] (by decide +kernel) (by decide +kernel)
set_option maxRecDepth 20000 in
theorem gX11_harm_X11_tableAt : GoodIn wsX11_harm (wsV RX11 192 RX11 yX11_tableAt wsX11_tableAt) := goodIn_app (goodIn_of _ (by decide +kernel)) ggX11_harm_X11_tableAt
theorem dX11_harm_0 : decode cX11_harm 0 = .ok (.aload_n 0, 1) := by decide +kernel
theorem dX11_harm_1 : decode cX11_harm 1 = .ok (.iload_n 1, 1) := by decide +kernel
theorem dX11_harm_2 : decode cX11_harm 2 = .ok (.invokevirtual 192, 3) := by decide +kernel
theorem dX11_harm_5 : decode cX11_harm 5 = .ok (.astore_n 2, 1) := by decide +kernel
theorem dX11_harm_6 : decode cX11_harm 6 = .ok (.aload_n 2, 1) := by decide +kernel
theorem dX11_harm_7 : decode cX11_harm 7 = .ok (.ifnull 13, 3) := by decide +kernel
theorem dX11_harm_20 : decode cX11_harm 20 = .ok (.iconst (-1), 1) := by decide +kernel
theorem dX11_harm_21 : decode cX11_harm 21 = .ok (.ireturn, 1) := by decide +kernel
theorem dX11_harmed_0 : decode cX11_harmed 0 = .ok (.aload_n 0, 1) := by decide +kernel
theorem dX11_harmed_1 : decode cX11_harmed 1 = .ok (.getfield 84, 3) := by decide +kernel
theorem dX11_harmed_4 : decode cX11_harmed 4 = .ok (.getfield 341, 3) := by decide +kernel
theorem dX11_harmed_7 : decode cX11_harmed 7 = .ok (.iconst (-1), 1) := by decide +kernel
theorem dX11_harmed_8 : decode cX11_harmed 8 = .ok (.if_icmp .ne 7, 3) := by decide +kernel
theorem dX11_harmed_11 : decode cX11_harmed 11 = .ok (.iconst (-1), 1) := by decide +kernel
theorem dX11_harmed_12 : decode cX11_harmed 12 = .ok (.goto 10, 3) := by decide +kernel
theorem dX11_harmed_22 : decode cX11_harmed 22 = .ok (.ireturn, 1) := by decide +kernel
set_option maxRecDepth 20000 in
theorem ggX11_act_X2_has : GoodIn wsX11_act wsX2_has := goodIn_r _ [10, 11, 60, 61, 62, 63, 64, 65] (by decide +kernel) (by decide +kernel)
set_option maxRecDepth 20000 in
theorem gX11_act_X2_has : GoodIn wsX11_act (wsV RX11 137 RX2 yX2_has wsX2_has) := goodIn_app (goodIn_of _ (by decide +kernel)) ggX11_act_X2_has
theorem dX11_act_0 : decode cX11_act 0 = .ok (.aload_n 0, 1) := by decide +kernel
theorem dX11_act_1 : decode cX11_act 1 = .ok (.getfield 91, 3) := by decide +kernel
theorem dX11_act_4 : decode cX11_act 4 = .ok (.iconst 0, 1) := by decide +kernel
theorem dX11_act_5 : decode cX11_act 5 = .ok (.putfield 344, 3) := by decide +kernel
theorem dX11_act_8 : decode cX11_act 8 = .ok (.aload_n 0, 1) := by decide +kernel
theorem dX11_act_9 : decode cX11_act 9 = .ok (.getfield 26, 3) := by decide +kernel
theorem dX11_act_12 : decode cX11_act 12 = .ok (.iload_n 1, 1) := by decide +kernel
theorem dX11_act_13 : decode cX11_act 13 = .ok (.invokevirtual 137, 3) := by decide +kernel
theorem dX11_act_16 : decode cX11_act 16 = .ok (.ifCond .ne 5, 3) := by decide +kernel
theorem dX11_act_19 : decode cX11_act 19 = .ok (.iconst 0, 1) := by decide +kernel
theorem dX11_act_20 : decode cX11_act 20 = .ok (.ireturn, 1) := by decide +kernel
theorem dX11_trace_0 : decode cX11_trace 0 = .ok (.iload_n 1, 1) := by decide +kernel
theorem dX11_trace_1 : decode cX11_trace 1 = .ok (.ifCond .lt 32, 3) := by decide +kernel
theorem dX11_trace_4 : decode cX11_trace 4 = .ok (.iload_n 1, 1) := by decide +kernel
theorem dX11_trace_5 : decode cX11_trace 5 = .ok (.aload_n 0, 1) := by decide +kernel
theorem dX11_trace_6 : decode cX11_trace 6 = .ok (.getfield 91, 3) := by decide +kernel
theorem dX11_trace_9 : decode cX11_trace 9 = .ok (.getfield 344, 3) := by decide +kernel
theorem dX11_trace_12 : decode cX11_trace 12 = .ok (.if_icmp .ge 21, 3) := by decide +kernel
theorem dX11_trace_33 : decode cX11_trace 33 = .ok (.iconst (-1), 1) := by decide +kernel
theorem dX11_trace_34 : decode cX11_trace 34 = .ok (.ireturn, 1) := by decide +kernel
set_option maxRecDepth 20000 in
theorem ggX11_keep_X11_isShelf : GoodIn wsX11_keep wsX11_isShelf := goodIn_r _ [6] (by decide +kernel) (by decide +kernel)
set_option maxRecDepth 20000 in
theorem gX11_keep_X11_isShelf : GoodIn wsX11_keep (va_wsS RX11 354 yX11_isShelf wsX11_isShelf) := goodIn_app (goodIn_of _ (by decide +kernel)) ggX11_keep_X11_isShelf
set_option maxRecDepth 20000 in
theorem ggX11_keep_X2_has : GoodIn wsX11_keep wsX2_has := goodIn_r _ [11, 12, 34, 35, 36, 37, 38, 39] (by decide +kernel) (by decide +kernel)
set_option maxRecDepth 20000 in
theorem gX11_keep_X2_has : GoodIn wsX11_keep (wsV RX11 137 RX2 yX2_has wsX2_has) := goodIn_app (goodIn_of _ (by decide +kernel)) ggX11_keep_X2_has
set_option maxRecDepth 20000 in
theorem ggX11_keep_X7_holdKeeper : GoodIn wsX11_keep wsX7_holdKeeper := goodIn_r _ [17, 18, 19, 20, 40, 41, 42, 43] (by decide +kernel) (by decide +kernel)
set_option maxRecDepth 20000 in
theorem gX11_keep_X7_holdKeeper : GoodIn wsX11_keep (wsV RX11 357 RX7 yX7_holdKeeper wsX7_holdKeeper) := goodIn_app (goodIn_of _ (by decide +kernel)) ggX11_keep_X7_holdKeeper
theorem dX11_keep_0 : decode cX11_keep 0 = .ok (.iload_n 1, 1) := by decide +kernel
theorem dX11_keep_1 : decode cX11_keep 1 = .ok (.invokestatic 354, 3) := by decide +kernel
theorem dX11_keep_4 : decode cX11_keep 4 = .ok (.ifCond .eq 19, 3) := by decide +kernel
theorem dX11_keep_7 : decode cX11_keep 7 = .ok (.iload_n 2, 1) := by decide +kernel
theorem dX11_keep_8 : decode cX11_keep 8 = .ok (.iconst (-1), 1) := by decide +kernel
theorem dX11_keep_9 : decode cX11_keep 9 = .ok (.if_icmp .eq 16, 3) := by decide +kernel
theorem dX11_keep_12 : decode cX11_keep 12 = .ok (.aload_n 0, 1) := by decide +kernel
theorem dX11_keep_13 : decode cX11_keep 13 = .ok (.getfield 26, 3) := by decide +kernel
theorem dX11_keep_16 : decode cX11_keep 16 = .ok (.iload_n 2, 1) := by decide +kernel
theorem dX11_keep_17 : decode cX11_keep 17 = .ok (.invokevirtual 137, 3) := by decide +kernel
theorem dX11_keep_20 : decode cX11_keep 20 = .ok (.ifCond .ne 5, 3) := by decide +kernel
theorem dX11_keep_23 : decode cX11_keep 23 = .ok (.iconst (-1), 1) := by decide +kernel
theorem dX11_keep_24 : decode cX11_keep 24 = .ok (.ireturn, 1) := by decide +kernel
theorem dX11_keep_25 : decode cX11_keep 25 = .ok (.aload_n 0, 1) := by decide +kernel
theorem dX11_keep_26 : decode cX11_keep 26 = .ok (.getfield 98, 3) := by decide +kernel
theorem dX11_keep_29 : decode cX11_keep 29 = .ok (.iload_n 1, 1) := by decide +kernel
theorem dX11_keep_30 : decode cX11_keep 30 = .ok (.iload_n 2, 1) := by decide +kernel
theorem dX11_keep_31 : decode cX11_keep 31 = .ok (.invokevirtual 357, 3) := by decide +kernel
theorem dX11_keep_34 : decode cX11_keep 34 = .ok (.iconst 1, 1) := by decide +kernel
theorem dX11_keep_35 : decode cX11_keep 35 = .ok (.ireturn, 1) := by decide +kernel
set_option maxRecDepth 20000 in
theorem ggX11_row_X11_isShelf : GoodIn wsX11_row wsX11_isShelf := goodIn_r _ [5] (by decide +kernel) (by decide +kernel)
set_option maxRecDepth 20000 in
theorem gX11_row_X11_isShelf : GoodIn wsX11_row (va_wsS RX11 354 yX11_isShelf wsX11_isShelf) := goodIn_app (goodIn_of _ (by decide +kernel)) ggX11_row_X11_isShelf
set_option maxRecDepth 20000 in
theorem ggX11_row_X7_holdRow : GoodIn wsX11_row wsX7_holdRow := goodIn_r _ [10, 11, 12, 13, 14, 15, 16, 17, 18, 32, 33, 34, 35] (by decide +kernel) (by decide +kernel)
set_option maxRecDepth 20000 in
theorem gX11_row_X7_holdRow : GoodIn wsX11_row (wsV RX11 360 RX7 yX7_holdRow wsX7_holdRow) := goodIn_app (goodIn_of _ (by decide +kernel)) ggX11_row_X7_holdRow
theorem dX11_row_0 : decode cX11_row 0 = .ok (.iload_n 1, 1) := by decide +kernel
theorem dX11_row_1 : decode cX11_row 1 = .ok (.invokestatic 354, 3) := by decide +kernel
theorem dX11_row_4 : decode cX11_row 4 = .ok (.ifCond .eq 18, 3) := by decide +kernel
theorem dX11_row_7 : decode cX11_row 7 = .ok (.iload_n 2, 1) := by decide +kernel
theorem dX11_row_8 : decode cX11_row 8 = .ok (.ifCond .lt 14, 3) := by decide +kernel
theorem dX11_row_11 : decode cX11_row 11 = .ok (.iload_n 2, 1) := by decide +kernel
theorem dX11_row_12 : decode cX11_row 12 = .ok (.iconst 4, 1) := by decide +kernel
theorem dX11_row_13 : decode cX11_row 13 = .ok (.if_icmp .gt 9, 3) := by decide +kernel
theorem dX11_row_16 : decode cX11_row 16 = .ok (.iload_n 3, 1) := by decide +kernel
theorem dX11_row_17 : decode cX11_row 17 = .ok (.bipush 60, 2) := by decide +kernel
theorem dX11_row_19 : decode cX11_row 19 = .ok (.if_icmp .le 5, 3) := by decide +kernel
theorem dX11_row_22 : decode cX11_row 22 = .ok (.iconst (-1), 1) := by decide +kernel
theorem dX11_row_23 : decode cX11_row 23 = .ok (.ireturn, 1) := by decide +kernel
theorem dX11_row_24 : decode cX11_row 24 = .ok (.iload_n 3, 1) := by decide +kernel
theorem dX11_row_25 : decode cX11_row 25 = .ok (.ifCond .ge 6, 3) := by decide +kernel
theorem dX11_row_28 : decode cX11_row 28 = .ok (.bipush (-14), 2) := by decide +kernel
theorem dX11_row_30 : decode cX11_row 30 = .ok (.ireturn, 1) := by decide +kernel
theorem dX11_row_31 : decode cX11_row 31 = .ok (.aload_n 0, 1) := by decide +kernel
theorem dX11_row_32 : decode cX11_row 32 = .ok (.getfield 98, 3) := by decide +kernel
theorem dX11_row_35 : decode cX11_row 35 = .ok (.iload_n 1, 1) := by decide +kernel
theorem dX11_row_36 : decode cX11_row 36 = .ok (.iload_n 2, 1) := by decide +kernel
theorem dX11_row_37 : decode cX11_row 37 = .ok (.iload_n 3, 1) := by decide +kernel
theorem dX11_row_38 : decode cX11_row 38 = .ok (.invokevirtual 360, 3) := by decide +kernel
theorem dX11_row_41 : decode cX11_row 41 = .ok (.iconst 1, 1) := by decide +kernel
theorem dX11_row_42 : decode cX11_row 42 = .ok (.ireturn, 1) := by decide +kernel
set_option maxRecDepth 20000 in
theorem ggX11_put_X11_isShelf : GoodIn wsX11_put wsX11_isShelf := goodIn_r _ [7] (by decide +kernel) (by decide +kernel)
set_option maxRecDepth 20000 in
theorem gX11_put_X11_isShelf : GoodIn wsX11_put (va_wsS RX11 354 yX11_isShelf wsX11_isShelf) := goodIn_app (goodIn_of _ (by decide +kernel)) ggX11_put_X11_isShelf
set_option maxRecDepth 20000 in
theorem ggX11_put_X7_refusalAt : GoodIn wsX11_put wsX7_refusalAt := goodIn_r _ [12, 13, 14, 15, 16, 11, 17, 18, 19, 20, 21, 22, 23, 40, 41, 42, 43] (by decide +kernel) (by decide +kernel)
set_option maxRecDepth 20000 in
theorem gX11_put_X7_refusalAt : GoodIn wsX11_put (wsV RX11 364 RX7 yX7_refusalAt wsX7_refusalAt) := goodIn_app (goodIn_of _ (by decide +kernel)) ggX11_put_X7_refusalAt
theorem dX11_put_0 : decode cX11_put 0 = .ok (.iload_n 1, 1) := by decide +kernel
theorem dX11_put_1 : decode cX11_put 1 = .ok (.invokestatic 354, 3) := by decide +kernel
theorem dX11_put_4 : decode cX11_put 4 = .ok (.ifCond .ne 5, 3) := by decide +kernel
theorem dX11_put_7 : decode cX11_put 7 = .ok (.iconst (-1), 1) := by decide +kernel
theorem dX11_put_8 : decode cX11_put 8 = .ok (.ireturn, 1) := by decide +kernel
theorem dX11_put_9 : decode cX11_put 9 = .ok (.aload_n 0, 1) := by decide +kernel
theorem dX11_put_10 : decode cX11_put 10 = .ok (.getfield 98, 3) := by decide +kernel
theorem dX11_put_13 : decode cX11_put 13 = .ok (.iload_n 1, 1) := by decide +kernel
theorem dX11_put_14 : decode cX11_put 14 = .ok (.iload_n 2, 1) := by decide +kernel
theorem dX11_put_15 : decode cX11_put 15 = .ok (.invokevirtual 364, 3) := by decide +kernel
theorem dX11_put_18 : decode cX11_put 18 = .ok (.istore 5, 2) := by decide +kernel
theorem dX11_put_20 : decode cX11_put 20 = .ok (.iload 5, 2) := by decide +kernel
theorem dX11_put_22 : decode cX11_put 22 = .ok (.ifCond .eq 6, 3) := by decide +kernel
theorem dX11_put_25 : decode cX11_put 25 = .ok (.iload 5, 2) := by decide +kernel
theorem dX11_put_27 : decode cX11_put 27 = .ok (.ireturn, 1) := by decide +kernel
set_option maxRecDepth 20000 in
theorem ggX11_element_X11_isShelf : GoodIn wsX11_element wsX11_isShelf := goodIn_r _ [7] (by decide +kernel) (by decide +kernel)
set_option maxRecDepth 20000 in
theorem gX11_element_X11_isShelf : GoodIn wsX11_element (va_wsS RX11 354 yX11_isShelf wsX11_isShelf) := goodIn_app (goodIn_of _ (by decide +kernel)) ggX11_element_X11_isShelf
set_option maxRecDepth 20000 in
theorem ggX11_element_X7_refusalAt : GoodIn wsX11_element wsX7_refusalAt := goodIn_r _ [12, 13, 14, 15, 16, 11, 17, 18, 19, 20, 21, 22, 23, 37, 38, 39, 40] (by decide +kernel) (by decide +kernel)
set_option maxRecDepth 20000 in
theorem gX11_element_X7_refusalAt : GoodIn wsX11_element (wsV RX11 364 RX7 yX7_refusalAt wsX7_refusalAt) := goodIn_app (goodIn_of _ (by decide +kernel)) ggX11_element_X7_refusalAt
theorem dX11_element_0 : decode cX11_element 0 = .ok (.iload_n 1, 1) := by decide +kernel
theorem dX11_element_1 : decode cX11_element 1 = .ok (.invokestatic 354, 3) := by decide +kernel
theorem dX11_element_4 : decode cX11_element 4 = .ok (.ifCond .eq 15, 3) := by decide +kernel
theorem dX11_element_7 : decode cX11_element 7 = .ok (.aload_n 0, 1) := by decide +kernel
theorem dX11_element_8 : decode cX11_element 8 = .ok (.getfield 98, 3) := by decide +kernel
theorem dX11_element_11 : decode cX11_element 11 = .ok (.iload_n 1, 1) := by decide +kernel
theorem dX11_element_12 : decode cX11_element 12 = .ok (.iload_n 2, 1) := by decide +kernel
theorem dX11_element_13 : decode cX11_element 13 = .ok (.invokevirtual 364, 3) := by decide +kernel
theorem dX11_element_16 : decode cX11_element 16 = .ok (.ifCond .eq 7, 3) := by decide +kernel
theorem dX11_element_19 : decode cX11_element 19 = .ok (.ldc2_w 380, 3) := by decide +kernel
theorem dX11_element_22 : decode cX11_element 22 = .ok (.lreturn, 1) := by decide +kernel
set_option maxRecDepth 20000 in
theorem ggX11_shift_X11_isShelf : GoodIn wsX11_shift wsX11_isShelf := goodIn_r _ [11] (by decide +kernel) (by decide +kernel)
set_option maxRecDepth 20000 in
theorem gX11_shift_X11_isShelf : GoodIn wsX11_shift (va_wsS RX11 354 yX11_isShelf wsX11_isShelf) := goodIn_app (goodIn_of _ (by decide +kernel)) ggX11_shift_X11_isShelf
set_option maxRecDepth 20000 in
theorem ggX11_shift_X7_isEmpty : GoodIn wsX11_shift wsX7_isEmpty := goodIn_r _ [16, 17, 18, 41, 42, 43, 44] (by decide +kernel) (by decide +kernel)
set_option maxRecDepth 20000 in
theorem gX11_shift_X7_isEmpty : GoodIn wsX11_shift (wsV RX11 382 RX7 yX7_isEmpty wsX7_isEmpty) := goodIn_app (goodIn_of _ (by decide +kernel)) ggX11_shift_X7_isEmpty
theorem dX11_shift_0 : decode cX11_shift 0 = .ok (.iload_n 1, 1) := by decide +kernel
theorem dX11_shift_1 : decode cX11_shift 1 = .ok (.invokestatic 354, 3) := by decide +kernel
theorem dX11_shift_4 : decode cX11_shift 4 = .ok (.ifCond .eq 10, 3) := by decide +kernel
theorem dX11_shift_7 : decode cX11_shift 7 = .ok (.iload_n 3, 1) := by decide +kernel
theorem dX11_shift_8 : decode cX11_shift 8 = .ok (.invokestatic 354, 3) := by decide +kernel
theorem dX11_shift_11 : decode cX11_shift 11 = .ok (.ifCond .ne 5, 3) := by decide +kernel
theorem dX11_shift_14 : decode cX11_shift 14 = .ok (.iconst (-1), 1) := by decide +kernel
theorem dX11_shift_15 : decode cX11_shift 15 = .ok (.ireturn, 1) := by decide +kernel
theorem dX11_shift_16 : decode cX11_shift 16 = .ok (.aload_n 0, 1) := by decide +kernel
theorem dX11_shift_17 : decode cX11_shift 17 = .ok (.getfield 98, 3) := by decide +kernel
theorem dX11_shift_20 : decode cX11_shift 20 = .ok (.iload_n 1, 1) := by decide +kernel
theorem dX11_shift_21 : decode cX11_shift 21 = .ok (.invokevirtual 382, 3) := by decide +kernel
theorem dX11_shift_24 : decode cX11_shift 24 = .ok (.ifCond .ne 14, 3) := by decide +kernel
theorem dX11_shift_38 : decode cX11_shift 38 = .ok (.bipush (-11), 2) := by decide +kernel
theorem dX11_shift_40 : decode cX11_shift 40 = .ok (.ireturn, 1) := by decide +kernel
set_option maxRecDepth 20000 in
theorem ggX11_taken_X11_isShelf : GoodIn wsX11_taken wsX11_isShelf := goodIn_r _ [8] (by decide +kernel) (by decide +kernel)
set_option maxRecDepth 20000 in
theorem gX11_taken_X11_isShelf : GoodIn wsX11_taken (va_wsS RX11 354 yX11_isShelf wsX11_isShelf) := goodIn_app (goodIn_of _ (by decide +kernel)) ggX11_taken_X11_isShelf
set_option maxRecDepth 20000 in
theorem ggX11_taken_X11_isKind : GoodIn wsX11_taken wsX11_isKind := goodIn_r _ [11] (by decide +kernel) (by decide +kernel)
set_option maxRecDepth 20000 in
theorem gX11_taken_X11_isKind : GoodIn wsX11_taken (va_wsS RX11 138 yX11_isKind wsX11_isKind) := goodIn_app (goodIn_of _ (by decide +kernel)) ggX11_taken_X11_isKind
set_option maxRecDepth 20000 in
theorem ggX11_taken_X7_isEmpty : GoodIn wsX11_taken wsX7_isEmpty := goodIn_r _ [16, 17, 18, 42, 43, 44, 45] (by decide +kernel) (by decide +kernel)
set_option maxRecDepth 20000 in
theorem gX11_taken_X7_isEmpty : GoodIn wsX11_taken (wsV RX11 382 RX7 yX7_isEmpty wsX7_isEmpty) := goodIn_app (goodIn_of _ (by decide +kernel)) ggX11_taken_X7_isEmpty
theorem dX11_taken_0 : decode cX11_taken 0 = .ok (.iload_n 1, 1) := by decide +kernel
theorem dX11_taken_1 : decode cX11_taken 1 = .ok (.invokestatic 354, 3) := by decide +kernel
theorem dX11_taken_4 : decode cX11_taken 4 = .ok (.ifCond .eq 10, 3) := by decide +kernel
theorem dX11_taken_7 : decode cX11_taken 7 = .ok (.iload_n 2, 1) := by decide +kernel
theorem dX11_taken_8 : decode cX11_taken 8 = .ok (.invokestatic 138, 3) := by decide +kernel
theorem dX11_taken_11 : decode cX11_taken 11 = .ok (.ifCond .ne 5, 3) := by decide +kernel
theorem dX11_taken_14 : decode cX11_taken 14 = .ok (.iconst (-1), 1) := by decide +kernel
theorem dX11_taken_15 : decode cX11_taken 15 = .ok (.ireturn, 1) := by decide +kernel
theorem dX11_taken_16 : decode cX11_taken 16 = .ok (.aload_n 0, 1) := by decide +kernel
theorem dX11_taken_17 : decode cX11_taken 17 = .ok (.getfield 98, 3) := by decide +kernel
theorem dX11_taken_20 : decode cX11_taken 20 = .ok (.iload_n 1, 1) := by decide +kernel
theorem dX11_taken_21 : decode cX11_taken 21 = .ok (.invokevirtual 382, 3) := by decide +kernel
theorem dX11_taken_24 : decode cX11_taken 24 = .ok (.ifCond .eq 6, 3) := by decide +kernel
theorem dX11_taken_27 : decode cX11_taken 27 = .ok (.bipush (-11), 2) := by decide +kernel
theorem dX11_taken_29 : decode cX11_taken 29 = .ok (.ireturn, 1) := by decide +kernel
set_option maxRecDepth 20000 in
theorem ggX11_names_X11_isShelf : GoodIn wsX11_names wsX11_isShelf := goodIn_r _ [9] (by decide +kernel) (by decide +kernel)
set_option maxRecDepth 20000 in
theorem gX11_names_X11_isShelf : GoodIn wsX11_names (va_wsS RX11 354 yX11_isShelf wsX11_isShelf) := goodIn_app (goodIn_of _ (by decide +kernel)) ggX11_names_X11_isShelf
set_option maxRecDepth 20000 in
theorem ggX11_names_X7_isEmpty : GoodIn wsX11_names wsX7_isEmpty := goodIn_r _ [14, 15, 16, 59, 60, 61, 62] (by decide +kernel) (by decide +kernel)
set_option maxRecDepth 20000 in
theorem gX11_names_X7_isEmpty : GoodIn wsX11_names (wsV RX11 382 RX7 yX7_isEmpty wsX7_isEmpty) := goodIn_app (goodIn_of _ (by decide +kernel)) ggX11_names_X7_isEmpty
theorem dX11_names_0 : decode cX11_names 0 = .ok (.iload_n 1, 1) := by decide +kernel
theorem dX11_names_1 : decode cX11_names 1 = .ok (.invokestatic 354, 3) := by decide +kernel
theorem dX11_names_4 : decode cX11_names 4 = .ok (.ifCond .eq 14, 3) := by decide +kernel
theorem dX11_names_7 : decode cX11_names 7 = .ok (.iload_n 3, 1) := by decide +kernel
theorem dX11_names_8 : decode cX11_names 8 = .ok (.iconst 1, 1) := by decide +kernel
theorem dX11_names_9 : decode cX11_names 9 = .ok (.if_icmp .lt 9, 3) := by decide +kernel
theorem dX11_names_12 : decode cX11_names 12 = .ok (.iload_n 3, 1) := by decide +kernel
theorem dX11_names_13 : decode cX11_names 13 = .ok (.bipush 20, 2) := by decide +kernel
theorem dX11_names_15 : decode cX11_names 15 = .ok (.if_icmp .le 5, 3) := by decide +kernel
theorem dX11_names_18 : decode cX11_names 18 = .ok (.iconst (-1), 1) := by decide +kernel
theorem dX11_names_19 : decode cX11_names 19 = .ok (.ireturn, 1) := by decide +kernel
theorem dX11_names_20 : decode cX11_names 20 = .ok (.aload_n 0, 1) := by decide +kernel
theorem dX11_names_21 : decode cX11_names 21 = .ok (.getfield 98, 3) := by decide +kernel
theorem dX11_names_24 : decode cX11_names 24 = .ok (.iload_n 1, 1) := by decide +kernel
theorem dX11_names_25 : decode cX11_names 25 = .ok (.invokevirtual 382, 3) := by decide +kernel
theorem dX11_names_28 : decode cX11_names 28 = .ok (.ifCond .eq 5, 3) := by decide +kernel
theorem dX11_names_31 : decode cX11_names 31 = .ok (.iconst 0, 1) := by decide +kernel
theorem dX11_names_32 : decode cX11_names 32 = .ok (.ireturn, 1) := by decide +kernel
set_option maxRecDepth 20000 in
theorem ggX11_count_X6_allCopies : GoodIn wsX11_count wsX6_allCopies := goodIn_r _ [16, 17, 18, 19, 20, 21, 15, 22, 23, 24, 25, 26, 61, 62, 63, 64, 65, 66, 67, 68, 69, 70, 71, 72, 53, 54, 55, 56, 57, 58] (by decide +kernel) (by decide +kernel)
set_option maxRecDepth 20000 in
theorem gX11_count_X6_allCopies : GoodIn wsX11_count (wsV RX11 411 RX6 yX6_allCopies wsX6_allCopies) := goodIn_app (goodIn_of _ (by decide +kernel)) ggX11_count_X6_allCopies
set_option maxRecDepth 20000 in
theorem ggX11_count_X6_allKept : GoodIn wsX11_count wsX6_allKept := goodIn_r _ [30, 17, 18, 31, 32, 33, 15, 34, 35, 24, 25, 26, 61, 62, 63, 64, 65, 66, 67, 68, 69, 70, 71, 72, 53, 54, 55, 56, 57, 58] (by decide +kernel) (by decide +kernel)
set_option maxRecDepth 20000 in
theorem gX11_count_X6_allKept : GoodIn wsX11_count (wsV RX11 414 RX6 yX6_allKept wsX6_allKept) := goodIn_app (goodIn_of _ (by decide +kernel)) ggX11_count_X6_allKept
theorem dX11_count_0 : decode cX11_count 0 = .ok (.iload_n 1, 1) := by decide +kernel
theorem dX11_count_1 : decode cX11_count 1 = .ok (.tableswitch 108 0 7 #[47, 55, 63, 68, 76, 84, 92, 100], 47) := by decide +kernel
theorem dX11_count_48 : decode cX11_count 48 = .ok (.aload_n 0, 1) := by decide +kernel
theorem dX11_count_49 : decode cX11_count 49 = .ok (.getfield 19, 3) := by decide +kernel
theorem dX11_count_52 : decode cX11_count 52 = .ok (.getfield 117, 3) := by decide +kernel
theorem dX11_count_55 : decode cX11_count 55 = .ok (.ireturn, 1) := by decide +kernel
theorem dX11_count_56 : decode cX11_count 56 = .ok (.aload_n 0, 1) := by decide +kernel
theorem dX11_count_57 : decode cX11_count 57 = .ok (.getfield 26, 3) := by decide +kernel
theorem dX11_count_60 : decode cX11_count 60 = .ok (.getfield 134, 3) := by decide +kernel
theorem dX11_count_63 : decode cX11_count 63 = .ok (.ireturn, 1) := by decide +kernel
theorem dX11_count_64 : decode cX11_count 64 = .ok (.aload_n 0, 1) := by decide +kernel
theorem dX11_count_65 : decode cX11_count 65 = .ok (.getfield 52, 3) := by decide +kernel
theorem dX11_count_68 : decode cX11_count 68 = .ok (.ireturn, 1) := by decide +kernel
theorem dX11_count_69 : decode cX11_count 69 = .ok (.aload_n 0, 1) := by decide +kernel
theorem dX11_count_70 : decode cX11_count 70 = .ok (.getfield 10, 3) := by decide +kernel
theorem dX11_count_73 : decode cX11_count 73 = .ok (.getfield 102, 3) := by decide +kernel
theorem dX11_count_76 : decode cX11_count 76 = .ok (.ireturn, 1) := by decide +kernel
theorem dX11_count_77 : decode cX11_count 77 = .ok (.aload_n 0, 1) := by decide +kernel
theorem dX11_count_78 : decode cX11_count 78 = .ok (.getfield 66, 3) := by decide +kernel
theorem dX11_count_81 : decode cX11_count 81 = .ok (.invokevirtual 411, 3) := by decide +kernel
theorem dX11_count_84 : decode cX11_count 84 = .ok (.ireturn, 1) := by decide +kernel
theorem dX11_count_85 : decode cX11_count 85 = .ok (.aload_n 0, 1) := by decide +kernel
theorem dX11_count_86 : decode cX11_count 86 = .ok (.getfield 66, 3) := by decide +kernel
theorem dX11_count_89 : decode cX11_count 89 = .ok (.invokevirtual 414, 3) := by decide +kernel
theorem dX11_count_92 : decode cX11_count 92 = .ok (.ireturn, 1) := by decide +kernel
theorem dX11_count_93 : decode cX11_count 93 = .ok (.aload_n 0, 1) := by decide +kernel
theorem dX11_count_94 : decode cX11_count 94 = .ok (.getfield 66, 3) := by decide +kernel
theorem dX11_count_97 : decode cX11_count 97 = .ok (.getfield 417, 3) := by decide +kernel
theorem dX11_count_100 : decode cX11_count 100 = .ok (.ireturn, 1) := by decide +kernel
theorem dX11_count_101 : decode cX11_count 101 = .ok (.aload_n 0, 1) := by decide +kernel
theorem dX11_count_102 : decode cX11_count 102 = .ok (.getfield 91, 3) := by decide +kernel
theorem dX11_count_105 : decode cX11_count 105 = .ok (.getfield 344, 3) := by decide +kernel
theorem dX11_count_108 : decode cX11_count 108 = .ok (.ireturn, 1) := by decide +kernel
theorem dX11_count_109 : decode cX11_count 109 = .ok (.iconst (-1), 1) := by decide +kernel
theorem dX11_count_110 : decode cX11_count 110 = .ok (.ireturn, 1) := by decide +kernel
theorem dX11_isShelf_0 : decode cX11_isShelf 0 = .ok (.iload_n 0, 1) := by decide +kernel
theorem dX11_isShelf_1 : decode cX11_isShelf 1 = .ok (.ifCond .lt 13, 3) := by decide +kernel
theorem dX11_isShelf_4 : decode cX11_isShelf 4 = .ok (.iload_n 0, 1) := by decide +kernel
theorem dX11_isShelf_5 : decode cX11_isShelf 5 = .ok (.bipush 6, 2) := by decide +kernel
theorem dX11_isShelf_7 : decode cX11_isShelf 7 = .ok (.if_icmp .ge 7, 3) := by decide +kernel
theorem dX11_isShelf_10 : decode cX11_isShelf 10 = .ok (.iconst 1, 1) := by decide +kernel
theorem dX11_isShelf_11 : decode cX11_isShelf 11 = .ok (.goto 4, 3) := by decide +kernel
theorem dX11_isShelf_14 : decode cX11_isShelf 14 = .ok (.iconst 0, 1) := by decide +kernel
theorem dX11_isShelf_15 : decode cX11_isShelf 15 = .ok (.ireturn, 1) := by decide +kernel
theorem dX12_init_0 : decode cX12_init 0 = .ok (.aload_n 0, 1) := by decide +kernel
theorem dX12_init_1 : decode cX12_init 1 = .ok (.invokespecial 1, 3) := by decide +kernel
theorem dX12_init_4 : decode cX12_init 4 = .ok (.aload_n 0, 1) := by decide +kernel
theorem dX12_init_5 : decode cX12_init 5 = .ok (.bipush 40, 2) := by decide +kernel
theorem dX12_init_7 : decode cX12_init 7 = .ok (.newarray .int, 2) := by decide +kernel
theorem dX12_init_9 : decode cX12_init 9 = .ok (.putfield 7, 3) := by decide +kernel
theorem dX12_init_12 : decode cX12_init 12 = .ok (.aload_n 0, 1) := by decide +kernel
theorem dX12_init_13 : decode cX12_init 13 = .ok (.sipush 240, 3) := by decide +kernel
theorem dX12_init_16 : decode cX12_init 16 = .ok (.newarray .int, 2) := by decide +kernel
theorem dX12_init_18 : decode cX12_init 18 = .ok (.putfield 13, 3) := by decide +kernel
theorem dX12_init_21 : decode cX12_init 21 = .ok (.aload_n 0, 1) := by decide +kernel
theorem dX12_init_22 : decode cX12_init 22 = .ok (.bipush 12, 2) := by decide +kernel
theorem dX12_init_24 : decode cX12_init 24 = .ok (.newarray .int, 2) := by decide +kernel
theorem dX12_init_26 : decode cX12_init 26 = .ok (.putfield 16, 3) := by decide +kernel
theorem dX12_init_29 : decode cX12_init 29 = .ok (.aload_n 0, 1) := by decide +kernel
theorem dX12_init_30 : decode cX12_init 30 = .ok (.bipush 12, 2) := by decide +kernel
theorem dX12_init_32 : decode cX12_init 32 = .ok (.newarray .int, 2) := by decide +kernel
theorem dX12_init_34 : decode cX12_init 34 = .ok (.putfield 19, 3) := by decide +kernel
theorem dX12_init_37 : decode cX12_init 37 = .ok (.aload_n 0, 1) := by decide +kernel
theorem dX12_init_38 : decode cX12_init 38 = .ok (.bipush 12, 2) := by decide +kernel
theorem dX12_init_40 : decode cX12_init 40 = .ok (.newarray .int, 2) := by decide +kernel
theorem dX12_init_42 : decode cX12_init 42 = .ok (.putfield 22, 3) := by decide +kernel
theorem dX12_init_45 : decode cX12_init 45 = .ok (.aload_n 0, 1) := by decide +kernel
theorem dX12_init_46 : decode cX12_init 46 = .ok (.bipush 12, 2) := by decide +kernel
theorem dX12_init_48 : decode cX12_init 48 = .ok (.newarray .int, 2) := by decide +kernel
theorem dX12_init_50 : decode cX12_init 50 = .ok (.dup, 1) := by decide +kernel
theorem dX12_init_51 : decode cX12_init 51 = .ok (.iconst 0, 1) := by decide +kernel
theorem dX12_init_52 : decode cX12_init 52 = .ok (.iconst (-1), 1) := by decide +kernel
theorem dX12_init_53 : decode cX12_init 53 = .ok (.iastore, 1) := by decide +kernel
theorem dX12_init_54 : decode cX12_init 54 = .ok (.dup, 1) := by decide +kernel
theorem dX12_init_55 : decode cX12_init 55 = .ok (.iconst 1, 1) := by decide +kernel
theorem dX12_init_56 : decode cX12_init 56 = .ok (.iconst (-1), 1) := by decide +kernel
theorem dX12_init_57 : decode cX12_init 57 = .ok (.iastore, 1) := by decide +kernel
theorem dX12_init_58 : decode cX12_init 58 = .ok (.dup, 1) := by decide +kernel
theorem dX12_init_59 : decode cX12_init 59 = .ok (.iconst 2, 1) := by decide +kernel
theorem dX12_init_60 : decode cX12_init 60 = .ok (.iconst (-1), 1) := by decide +kernel
theorem dX12_init_61 : decode cX12_init 61 = .ok (.iastore, 1) := by decide +kernel
theorem dX12_init_62 : decode cX12_init 62 = .ok (.dup, 1) := by decide +kernel
theorem dX12_init_63 : decode cX12_init 63 = .ok (.iconst 3, 1) := by decide +kernel
theorem dX12_init_64 : decode cX12_init 64 = .ok (.iconst (-1), 1) := by decide +kernel
theorem dX12_init_65 : decode cX12_init 65 = .ok (.iastore, 1) := by decide +kernel
theorem dX12_init_66 : decode cX12_init 66 = .ok (.dup, 1) := by decide +kernel
theorem dX12_init_67 : decode cX12_init 67 = .ok (.iconst 4, 1) := by decide +kernel
theorem dX12_init_68 : decode cX12_init 68 = .ok (.iconst (-1), 1) := by decide +kernel
theorem dX12_init_69 : decode cX12_init 69 = .ok (.iastore, 1) := by decide +kernel
theorem dX12_init_70 : decode cX12_init 70 = .ok (.dup, 1) := by decide +kernel
theorem dX12_init_71 : decode cX12_init 71 = .ok (.iconst 5, 1) := by decide +kernel
theorem dX12_init_72 : decode cX12_init 72 = .ok (.iconst (-1), 1) := by decide +kernel
theorem dX12_init_73 : decode cX12_init 73 = .ok (.iastore, 1) := by decide +kernel
theorem dX12_init_74 : decode cX12_init 74 = .ok (.dup, 1) := by decide +kernel
theorem dX12_init_75 : decode cX12_init 75 = .ok (.bipush 6, 2) := by decide +kernel
theorem dX12_init_77 : decode cX12_init 77 = .ok (.iconst (-1), 1) := by decide +kernel
theorem dX12_init_78 : decode cX12_init 78 = .ok (.iastore, 1) := by decide +kernel
theorem dX12_init_79 : decode cX12_init 79 = .ok (.dup, 1) := by decide +kernel
theorem dX12_init_80 : decode cX12_init 80 = .ok (.bipush 7, 2) := by decide +kernel
theorem dX12_init_82 : decode cX12_init 82 = .ok (.iconst (-1), 1) := by decide +kernel
theorem dX12_init_83 : decode cX12_init 83 = .ok (.iastore, 1) := by decide +kernel
theorem dX12_init_84 : decode cX12_init 84 = .ok (.dup, 1) := by decide +kernel
theorem dX12_init_85 : decode cX12_init 85 = .ok (.bipush 8, 2) := by decide +kernel
theorem dX12_init_87 : decode cX12_init 87 = .ok (.iconst (-1), 1) := by decide +kernel
theorem dX12_init_88 : decode cX12_init 88 = .ok (.iastore, 1) := by decide +kernel
theorem dX12_init_89 : decode cX12_init 89 = .ok (.dup, 1) := by decide +kernel
theorem dX12_init_90 : decode cX12_init 90 = .ok (.bipush 9, 2) := by decide +kernel
theorem dX12_init_92 : decode cX12_init 92 = .ok (.iconst (-1), 1) := by decide +kernel
theorem dX12_init_93 : decode cX12_init 93 = .ok (.iastore, 1) := by decide +kernel
theorem dX12_init_94 : decode cX12_init 94 = .ok (.dup, 1) := by decide +kernel
theorem dX12_init_95 : decode cX12_init 95 = .ok (.bipush 10, 2) := by decide +kernel
theorem dX12_init_97 : decode cX12_init 97 = .ok (.iconst (-1), 1) := by decide +kernel
theorem dX12_init_98 : decode cX12_init 98 = .ok (.iastore, 1) := by decide +kernel
theorem dX12_init_99 : decode cX12_init 99 = .ok (.dup, 1) := by decide +kernel
theorem dX12_init_100 : decode cX12_init 100 = .ok (.bipush 11, 2) := by decide +kernel
theorem dX12_init_102 : decode cX12_init 102 = .ok (.iconst (-1), 1) := by decide +kernel
theorem dX12_init_103 : decode cX12_init 103 = .ok (.iastore, 1) := by decide +kernel
theorem dX12_init_104 : decode cX12_init 104 = .ok (.putfield 25, 3) := by decide +kernel
theorem dX12_init_107 : decode cX12_init 107 = .ok (.aload_n 0, 1) := by decide +kernel
theorem dX12_init_108 : decode cX12_init 108 = .ok (.bipush 12, 2) := by decide +kernel
theorem dX12_init_110 : decode cX12_init 110 = .ok (.newarray .boolean, 2) := by decide +kernel
theorem dX12_init_112 : decode cX12_init 112 = .ok (.putfield 28, 3) := by decide +kernel
theorem dX12_init_115 : decode cX12_init 115 = .ok (.aload_n 0, 1) := by decide +kernel
theorem dX12_init_116 : decode cX12_init 116 = .ok (.bipush 11, 2) := by decide +kernel
theorem dX12_init_118 : decode cX12_init 118 = .ok (.newarray .int, 2) := by decide +kernel
theorem dX12_init_120 : decode cX12_init 120 = .ok (.putfield 32, 3) := by decide +kernel
theorem dX12_init_123 : decode cX12_init 123 = .ok (.aload_n 0, 1) := by decide +kernel
theorem dX12_init_124 : decode cX12_init 124 = .ok (.bipush 11, 2) := by decide +kernel
theorem dX12_init_126 : decode cX12_init 126 = .ok (.newarray .int, 2) := by decide +kernel
theorem dX12_init_128 : decode cX12_init 128 = .ok (.putfield 35, 3) := by decide +kernel
theorem dX12_init_131 : decode cX12_init 131 = .ok (.aload_n 0, 1) := by decide +kernel
theorem dX12_init_132 : decode cX12_init 132 = .ok (.bipush 11, 2) := by decide +kernel
theorem dX12_init_134 : decode cX12_init 134 = .ok (.newarray .int, 2) := by decide +kernel
theorem dX12_init_136 : decode cX12_init 136 = .ok (.putfield 38, 3) := by decide +kernel
theorem dX12_init_139 : decode cX12_init 139 = .ok (.aload_n 0, 1) := by decide +kernel
theorem dX12_init_140 : decode cX12_init 140 = .ok (.bipush 11, 2) := by decide +kernel
theorem dX12_init_142 : decode cX12_init 142 = .ok (.newarray .int, 2) := by decide +kernel
theorem dX12_init_144 : decode cX12_init 144 = .ok (.putfield 41, 3) := by decide +kernel
theorem dX12_init_147 : decode cX12_init 147 = .ok (.aload_n 0, 1) := by decide +kernel
theorem dX12_init_148 : decode cX12_init 148 = .ok (.bipush 11, 2) := by decide +kernel
theorem dX12_init_150 : decode cX12_init 150 = .ok (.newarray .int, 2) := by decide +kernel
theorem dX12_init_152 : decode cX12_init 152 = .ok (.putfield 44, 3) := by decide +kernel
theorem dX12_init_155 : decode cX12_init 155 = .ok (.aload_n 0, 1) := by decide +kernel
theorem dX12_init_156 : decode cX12_init 156 = .ok (.bipush 11, 2) := by decide +kernel
theorem dX12_init_158 : decode cX12_init 158 = .ok (.newarray .int, 2) := by decide +kernel
theorem dX12_init_160 : decode cX12_init 160 = .ok (.putfield 47, 3) := by decide +kernel
theorem dX12_init_163 : decode cX12_init 163 = .ok (.aload_n 0, 1) := by decide +kernel
theorem dX12_init_164 : decode cX12_init 164 = .ok (.sipush 880, 3) := by decide +kernel
theorem dX12_init_167 : decode cX12_init 167 = .ok (.newarray .int, 2) := by decide +kernel
theorem dX12_init_169 : decode cX12_init 169 = .ok (.putfield 50, 3) := by decide +kernel
theorem dX12_init_172 : decode cX12_init 172 = .ok (.aload_n 0, 1) := by decide +kernel
theorem dX12_init_173 : decode cX12_init 173 = .ok (.sipush 132, 3) := by decide +kernel
theorem dX12_init_176 : decode cX12_init 176 = .ok (.newarray .int, 2) := by decide +kernel
theorem dX12_init_178 : decode cX12_init 178 = .ok (.putfield 53, 3) := by decide +kernel
theorem dX12_init_181 : decode cX12_init 181 = .ok (.aload_n 0, 1) := by decide +kernel
theorem dX12_init_182 : decode cX12_init 182 = .ok (.sipush 132, 3) := by decide +kernel
theorem dX12_init_185 : decode cX12_init 185 = .ok (.newarray .int, 2) := by decide +kernel
theorem dX12_init_187 : decode cX12_init 187 = .ok (.putfield 56, 3) := by decide +kernel
theorem dX12_init_190 : decode cX12_init 190 = .ok (.aload_n 0, 1) := by decide +kernel
theorem dX12_init_191 : decode cX12_init 191 = .ok (.bipush 11, 2) := by decide +kernel
theorem dX12_init_193 : decode cX12_init 193 = .ok (.newarray .int, 2) := by decide +kernel
theorem dX12_init_195 : decode cX12_init 195 = .ok (.putfield 59, 3) := by decide +kernel
theorem dX12_init_198 : decode cX12_init 198 = .ok (.aload_n 0, 1) := by decide +kernel
theorem dX12_init_199 : decode cX12_init 199 = .ok (.sipush 11000, 3) := by decide +kernel
theorem dX12_init_202 : decode cX12_init 202 = .ok (.newarray .int, 2) := by decide +kernel
theorem dX12_init_204 : decode cX12_init 204 = .ok (.putfield 62, 3) := by decide +kernel
theorem dX12_init_207 : decode cX12_init 207 = .ok (.aload_n 0, 1) := by decide +kernel
theorem dX12_init_208 : decode cX12_init 208 = .ok (.bipush 80, 2) := by decide +kernel
theorem dX12_init_210 : decode cX12_init 210 = .ok (.newarray .int, 2) := by decide +kernel
theorem dX12_init_212 : decode cX12_init 212 = .ok (.putfield 65, 3) := by decide +kernel
theorem dX12_init_215 : decode cX12_init 215 = .ok (.aload_n 0, 1) := by decide +kernel
theorem dX12_init_216 : decode cX12_init 216 = .ok (.sipush 480, 3) := by decide +kernel
theorem dX12_init_219 : decode cX12_init 219 = .ok (.newarray .int, 2) := by decide +kernel
theorem dX12_init_221 : decode cX12_init 221 = .ok (.putfield 68, 3) := by decide +kernel
theorem dX12_init_224 : decode cX12_init 224 = .ok (.aload_n 0, 1) := by decide +kernel
theorem dX12_init_225 : decode cX12_init 225 = .ok (.sipush 480, 3) := by decide +kernel
theorem dX12_init_228 : decode cX12_init 228 = .ok (.newarray .int, 2) := by decide +kernel
theorem dX12_init_230 : decode cX12_init 230 = .ok (.putfield 71, 3) := by decide +kernel
theorem dX12_init_233 : decode cX12_init 233 = .ok (.aload_n 0, 1) := by decide +kernel
theorem dX12_init_234 : decode cX12_init 234 = .ok (.sipush 480, 3) := by decide +kernel
theorem dX12_init_237 : decode cX12_init 237 = .ok (.newarray .int, 2) := by decide +kernel
theorem dX12_init_239 : decode cX12_init 239 = .ok (.putfield 74, 3) := by decide +kernel
theorem dX12_init_242 : decode cX12_init 242 = .ok (.aload_n 0, 1) := by decide +kernel
theorem dX12_init_243 : decode cX12_init 243 = .ok (.sipush 480, 3) := by decide +kernel
theorem dX12_init_246 : decode cX12_init 246 = .ok (.newarray .int, 2) := by decide +kernel
theorem dX12_init_248 : decode cX12_init 248 = .ok (.putfield 77, 3) := by decide +kernel
theorem dX12_init_251 : decode cX12_init 251 = .ok (.aload_n 0, 1) := by decide +kernel
theorem dX12_init_252 : decode cX12_init 252 = .ok (.sipush 480, 3) := by decide +kernel
theorem dX12_init_255 : decode cX12_init 255 = .ok (.newarray .int, 2) := by decide +kernel
theorem dX12_init_257 : decode cX12_init 257 = .ok (.putfield 80, 3) := by decide +kernel
theorem dX12_init_260 : decode cX12_init 260 = .ok (.aload_n 0, 1) := by decide +kernel
theorem dX12_init_261 : decode cX12_init 261 = .ok (.bipush 40, 2) := by decide +kernel
theorem dX12_init_263 : decode cX12_init 263 = .ok (.newarray .int, 2) := by decide +kernel
theorem dX12_init_265 : decode cX12_init 265 = .ok (.putfield 83, 3) := by decide +kernel
theorem dX12_init_268 : decode cX12_init 268 = .ok (.aload_n 0, 1) := by decide +kernel
theorem dX12_init_269 : decode cX12_init 269 = .ok (.iconst 5, 1) := by decide +kernel
theorem dX12_init_270 : decode cX12_init 270 = .ok (.newarray .int, 2) := by decide +kernel
theorem dX12_init_272 : decode cX12_init 272 = .ok (.putfield 86, 3) := by decide +kernel
theorem dX12_init_275 : decode cX12_init 275 = .ok (.aload_n 0, 1) := by decide +kernel
theorem dX12_init_276 : decode cX12_init 276 = .ok (.iconst 5, 1) := by decide +kernel
theorem dX12_init_277 : decode cX12_init 277 = .ok (.newarray .int, 2) := by decide +kernel
theorem dX12_init_279 : decode cX12_init 279 = .ok (.putfield 89, 3) := by decide +kernel
theorem dX12_init_282 : decode cX12_init 282 = .ok (.aload_n 0, 1) := by decide +kernel
theorem dX12_init_283 : decode cX12_init 283 = .ok (.bipush 6, 2) := by decide +kernel
theorem dX12_init_285 : decode cX12_init 285 = .ok (.newarray .int, 2) := by decide +kernel
theorem dX12_init_287 : decode cX12_init 287 = .ok (.putfield 92, 3) := by decide +kernel
theorem dX12_init_290 : decode cX12_init 290 = .ok (.aload_n 0, 1) := by decide +kernel
theorem dX12_init_291 : decode cX12_init 291 = .ok (.iconst (-1), 1) := by decide +kernel
theorem dX12_init_292 : decode cX12_init 292 = .ok (.putfield 95, 3) := by decide +kernel
theorem dX12_init_295 : decode cX12_init 295 = .ok (.aload_n 0, 1) := by decide +kernel
theorem dX12_init_296 : decode cX12_init 296 = .ok (.bipush 24, 2) := by decide +kernel
theorem dX12_init_298 : decode cX12_init 298 = .ok (.newarray .int, 2) := by decide +kernel
theorem dX12_init_300 : decode cX12_init 300 = .ok (.putfield 99, 3) := by decide +kernel
theorem dX12_init_303 : decode cX12_init 303 = .ok (.aload_n 0, 1) := by decide +kernel
theorem dX12_init_304 : decode cX12_init 304 = .ok (.bipush 6, 2) := by decide +kernel
theorem dX12_init_306 : decode cX12_init 306 = .ok (.newarray .int, 2) := by decide +kernel
theorem dX12_init_308 : decode cX12_init 308 = .ok (.dup, 1) := by decide +kernel
theorem dX12_init_309 : decode cX12_init 309 = .ok (.iconst 0, 1) := by decide +kernel
theorem dX12_init_310 : decode cX12_init 310 = .ok (.iconst (-1), 1) := by decide +kernel
theorem dX12_init_311 : decode cX12_init 311 = .ok (.iastore, 1) := by decide +kernel
theorem dX12_init_312 : decode cX12_init 312 = .ok (.dup, 1) := by decide +kernel
theorem dX12_init_313 : decode cX12_init 313 = .ok (.iconst 1, 1) := by decide +kernel
theorem dX12_init_314 : decode cX12_init 314 = .ok (.iconst (-1), 1) := by decide +kernel
theorem dX12_init_315 : decode cX12_init 315 = .ok (.iastore, 1) := by decide +kernel
theorem dX12_init_316 : decode cX12_init 316 = .ok (.dup, 1) := by decide +kernel
theorem dX12_init_317 : decode cX12_init 317 = .ok (.iconst 2, 1) := by decide +kernel
theorem dX12_init_318 : decode cX12_init 318 = .ok (.iconst (-1), 1) := by decide +kernel
theorem dX12_init_319 : decode cX12_init 319 = .ok (.iastore, 1) := by decide +kernel
theorem dX12_init_320 : decode cX12_init 320 = .ok (.dup, 1) := by decide +kernel
theorem dX12_init_321 : decode cX12_init 321 = .ok (.iconst 3, 1) := by decide +kernel
theorem dX12_init_322 : decode cX12_init 322 = .ok (.iconst (-1), 1) := by decide +kernel
theorem dX12_init_323 : decode cX12_init 323 = .ok (.iastore, 1) := by decide +kernel
theorem dX12_init_324 : decode cX12_init 324 = .ok (.dup, 1) := by decide +kernel
theorem dX12_init_325 : decode cX12_init 325 = .ok (.iconst 4, 1) := by decide +kernel
theorem dX12_init_326 : decode cX12_init 326 = .ok (.iconst (-1), 1) := by decide +kernel
theorem dX12_init_327 : decode cX12_init 327 = .ok (.iastore, 1) := by decide +kernel
theorem dX12_init_328 : decode cX12_init 328 = .ok (.dup, 1) := by decide +kernel
theorem dX12_init_329 : decode cX12_init 329 = .ok (.iconst 5, 1) := by decide +kernel
theorem dX12_init_330 : decode cX12_init 330 = .ok (.iconst (-1), 1) := by decide +kernel
theorem dX12_init_331 : decode cX12_init 331 = .ok (.iastore, 1) := by decide +kernel
theorem dX12_init_332 : decode cX12_init 332 = .ok (.putfield 102, 3) := by decide +kernel
theorem dX12_init_335 : decode cX12_init 335 = .ok (.aload_n 0, 1) := by decide +kernel
theorem dX12_init_336 : decode cX12_init 336 = .ok (.bipush 6, 2) := by decide +kernel
theorem dX12_init_338 : decode cX12_init 338 = .ok (.newarray .int, 2) := by decide +kernel
theorem dX12_init_340 : decode cX12_init 340 = .ok (.dup, 1) := by decide +kernel
theorem dX12_init_341 : decode cX12_init 341 = .ok (.iconst 0, 1) := by decide +kernel
theorem dX12_init_342 : decode cX12_init 342 = .ok (.iconst (-1), 1) := by decide +kernel
theorem dX12_init_343 : decode cX12_init 343 = .ok (.iastore, 1) := by decide +kernel
theorem dX12_init_344 : decode cX12_init 344 = .ok (.dup, 1) := by decide +kernel
theorem dX12_init_345 : decode cX12_init 345 = .ok (.iconst 1, 1) := by decide +kernel
theorem dX12_init_346 : decode cX12_init 346 = .ok (.iconst (-1), 1) := by decide +kernel
theorem dX12_init_347 : decode cX12_init 347 = .ok (.iastore, 1) := by decide +kernel
theorem dX12_init_348 : decode cX12_init 348 = .ok (.dup, 1) := by decide +kernel
theorem dX12_init_349 : decode cX12_init 349 = .ok (.iconst 2, 1) := by decide +kernel
theorem dX12_init_350 : decode cX12_init 350 = .ok (.iconst (-1), 1) := by decide +kernel
theorem dX12_init_351 : decode cX12_init 351 = .ok (.iastore, 1) := by decide +kernel
theorem dX12_init_352 : decode cX12_init 352 = .ok (.dup, 1) := by decide +kernel
theorem dX12_init_353 : decode cX12_init 353 = .ok (.iconst 3, 1) := by decide +kernel
theorem dX12_init_354 : decode cX12_init 354 = .ok (.iconst (-1), 1) := by decide +kernel
theorem dX12_init_355 : decode cX12_init 355 = .ok (.iastore, 1) := by decide +kernel
theorem dX12_init_356 : decode cX12_init 356 = .ok (.dup, 1) := by decide +kernel
theorem dX12_init_357 : decode cX12_init 357 = .ok (.iconst 4, 1) := by decide +kernel
theorem dX12_init_358 : decode cX12_init 358 = .ok (.iconst (-1), 1) := by decide +kernel
theorem dX12_init_359 : decode cX12_init 359 = .ok (.iastore, 1) := by decide +kernel
theorem dX12_init_360 : decode cX12_init 360 = .ok (.dup, 1) := by decide +kernel
theorem dX12_init_361 : decode cX12_init 361 = .ok (.iconst 5, 1) := by decide +kernel
theorem dX12_init_362 : decode cX12_init 362 = .ok (.iconst (-1), 1) := by decide +kernel
theorem dX12_init_363 : decode cX12_init 363 = .ok (.iastore, 1) := by decide +kernel
theorem dX12_init_364 : decode cX12_init 364 = .ok (.putfield 105, 3) := by decide +kernel
theorem dX12_init_367 : decode cX12_init 367 = .ok (.aload_n 0, 1) := by decide +kernel
theorem dX12_init_368 : decode cX12_init 368 = .ok (.bipush 6, 2) := by decide +kernel
theorem dX12_init_370 : decode cX12_init 370 = .ok (.newarray .int, 2) := by decide +kernel
theorem dX12_init_372 : decode cX12_init 372 = .ok (.putfield 108, 3) := by decide +kernel
theorem dX12_init_375 : decode cX12_init 375 = .ok (.aload_n 0, 1) := by decide +kernel
theorem dX12_init_376 : decode cX12_init 376 = .ok (.sipush 360, 3) := by decide +kernel
theorem dX12_init_379 : decode cX12_init 379 = .ok (.newarray .long, 2) := by decide +kernel
theorem dX12_init_381 : decode cX12_init 381 = .ok (.putfield 111, 3) := by decide +kernel
theorem dX12_init_384 : decode cX12_init 384 = .ok (.aload_n 0, 1) := by decide +kernel
theorem dX12_init_385 : decode cX12_init 385 = .ok (.bipush 6, 2) := by decide +kernel
theorem dX12_init_387 : decode cX12_init 387 = .ok (.newarray .int, 2) := by decide +kernel
theorem dX12_init_389 : decode cX12_init 389 = .ok (.putfield 115, 3) := by decide +kernel
theorem dX12_init_392 : decode cX12_init 392 = .ok (.aload_n 0, 1) := by decide +kernel
theorem dX12_init_393 : decode cX12_init 393 = .ok (.bipush 12, 2) := by decide +kernel
theorem dX12_init_395 : decode cX12_init 395 = .ok (.newarray .int, 2) := by decide +kernel
theorem dX12_init_397 : decode cX12_init 397 = .ok (.putfield 118, 3) := by decide +kernel
theorem dX12_init_400 : decode cX12_init 400 = .ok (.aload_n 0, 1) := by decide +kernel
theorem dX12_init_401 : decode cX12_init 401 = .ok (.iconst 4, 1) := by decide +kernel
theorem dX12_init_402 : decode cX12_init 402 = .ok (.newarray .int, 2) := by decide +kernel
theorem dX12_init_404 : decode cX12_init 404 = .ok (.putfield 121, 3) := by decide +kernel
theorem dX12_init_407 : decode cX12_init 407 = .ok (.aload_n 0, 1) := by decide +kernel
theorem dX12_init_408 : decode cX12_init 408 = .ok (.bipush 12, 2) := by decide +kernel
theorem dX12_init_410 : decode cX12_init 410 = .ok (.newarray .int, 2) := by decide +kernel
theorem dX12_init_412 : decode cX12_init 412 = .ok (.putfield 124, 3) := by decide +kernel
theorem dX12_init_415 : decode cX12_init 415 = .ok (.aload_n 0, 1) := by decide +kernel
theorem dX12_init_416 : decode cX12_init 416 = .ok (.sipush 1280, 3) := by decide +kernel
theorem dX12_init_419 : decode cX12_init 419 = .ok (.newarray .int, 2) := by decide +kernel
theorem dX12_init_421 : decode cX12_init 421 = .ok (.putfield 127, 3) := by decide +kernel
theorem dX12_init_424 : decode cX12_init 424 = .ok (.aload_n 0, 1) := by decide +kernel
theorem dX12_init_425 : decode cX12_init 425 = .ok (.iconst 5, 1) := by decide +kernel
theorem dX12_init_426 : decode cX12_init 426 = .ok (.newarray .int, 2) := by decide +kernel
theorem dX12_init_428 : decode cX12_init 428 = .ok (.putfield 130, 3) := by decide +kernel
theorem dX12_init_431 : decode cX12_init 431 = .ok (.iconst 0, 1) := by decide +kernel
theorem dX12_init_432 : decode cX12_init 432 = .ok (.istore_n 1, 1) := by decide +kernel
theorem dX12_init_433 : decode cX12_init 433 = .ok (.iload_n 1, 1) := by decide +kernel
theorem dX12_init_434 : decode cX12_init 434 = .ok (.sipush 480, 3) := by decide +kernel
theorem dX12_init_437 : decode cX12_init 437 = .ok (.if_icmp .ge 17, 3) := by decide +kernel
theorem dX12_init_440 : decode cX12_init 440 = .ok (.aload_n 0, 1) := by decide +kernel
theorem dX12_init_441 : decode cX12_init 441 = .ok (.getfield 74, 3) := by decide +kernel
theorem dX12_init_444 : decode cX12_init 444 = .ok (.iload_n 1, 1) := by decide +kernel
theorem dX12_init_445 : decode cX12_init 445 = .ok (.bipush (-2), 2) := by decide +kernel
theorem dX12_init_447 : decode cX12_init 447 = .ok (.iastore, 1) := by decide +kernel
theorem dX12_init_448 : decode cX12_init 448 = .ok (.iinc 1 1, 3) := by decide +kernel
theorem dX12_init_451 : decode cX12_init 451 = .ok (.goto (-18), 3) := by decide +kernel
theorem dX12_init_454 : decode cX12_init 454 = .ok (.return_, 1) := by decide +kernel
theorem dX12_in_0 : decode cX12_in 0 = .ok (.iload_n 0, 1) := by decide +kernel
theorem dX12_in_1 : decode cX12_in 1 = .ok (.iload_n 1, 1) := by decide +kernel
theorem dX12_in_2 : decode cX12_in 2 = .ok (.if_icmp .lt 12, 3) := by decide +kernel
theorem dX12_in_5 : decode cX12_in 5 = .ok (.iload_n 0, 1) := by decide +kernel
theorem dX12_in_6 : decode cX12_in 6 = .ok (.iload_n 2, 1) := by decide +kernel
theorem dX12_in_7 : decode cX12_in 7 = .ok (.if_icmp .gt 7, 3) := by decide +kernel
theorem dX12_in_10 : decode cX12_in 10 = .ok (.iconst 1, 1) := by decide +kernel
theorem dX12_in_11 : decode cX12_in 11 = .ok (.goto 4, 3) := by decide +kernel
theorem dX12_in_14 : decode cX12_in 14 = .ok (.iconst 0, 1) := by decide +kernel
theorem dX12_in_15 : decode cX12_in 15 = .ok (.ireturn, 1) := by decide +kernel
set_option maxRecDepth 20000 in
theorem ggX12_isName_X12_in : GoodIn wsX12_isName wsX12_in := goodIn_r _ [5] (by decide +kernel) (by decide +kernel)
set_option maxRecDepth 20000 in
theorem gX12_isName_X12_in : GoodIn wsX12_isName (va_wsS RX12 136 yX12_in wsX12_in) := goodIn_app (goodIn_of _ (by decide +kernel)) ggX12_isName_X12_in
theorem dX12_isName_0 : decode cX12_isName 0 = .ok (.iload_n 1, 1) := by decide +kernel
theorem dX12_isName_1 : decode cX12_isName 1 = .ok (.iconst 0, 1) := by decide +kernel
theorem dX12_isName_2 : decode cX12_isName 2 = .ok (.aload_n 0, 1) := by decide +kernel
theorem dX12_isName_3 : decode cX12_isName 3 = .ok (.getfield 133, 3) := by decide +kernel
theorem dX12_isName_6 : decode cX12_isName 6 = .ok (.iconst 1, 1) := by decide +kernel
theorem dX12_isName_7 : decode cX12_isName 7 = .ok (.isub, 1) := by decide +kernel
theorem dX12_isName_8 : decode cX12_isName 8 = .ok (.invokestatic 136, 3) := by decide +kernel
theorem dX12_isName_11 : decode cX12_isName 11 = .ok (.ireturn, 1) := by decide +kernel
set_option maxRecDepth 20000 in
theorem ggX12_isKeeper_X12_in : GoodIn wsX12_isKeeper wsX12_in := goodIn_r _ [5] (by decide +kernel) (by decide +kernel)
set_option maxRecDepth 20000 in
theorem gX12_isKeeper_X12_in : GoodIn wsX12_isKeeper (va_wsS RX12 136 yX12_in wsX12_in) := goodIn_app (goodIn_of _ (by decide +kernel)) ggX12_isKeeper_X12_in
theorem dX12_isKeeper_0 : decode cX12_isKeeper 0 = .ok (.iload_n 1, 1) := by decide +kernel
theorem dX12_isKeeper_1 : decode cX12_isKeeper 1 = .ok (.iconst 0, 1) := by decide +kernel
theorem dX12_isKeeper_2 : decode cX12_isKeeper 2 = .ok (.aload_n 0, 1) := by decide +kernel
theorem dX12_isKeeper_3 : decode cX12_isKeeper 3 = .ok (.getfield 140, 3) := by decide +kernel
theorem dX12_isKeeper_6 : decode cX12_isKeeper 6 = .ok (.iconst 1, 1) := by decide +kernel
theorem dX12_isKeeper_7 : decode cX12_isKeeper 7 = .ok (.isub, 1) := by decide +kernel
theorem dX12_isKeeper_8 : decode cX12_isKeeper 8 = .ok (.invokestatic 136, 3) := by decide +kernel
theorem dX12_isKeeper_11 : decode cX12_isKeeper 11 = .ok (.ireturn, 1) := by decide +kernel
set_option maxRecDepth 20000 in
theorem ggX12_isTable_X12_in : GoodIn wsX12_isTable wsX12_in := goodIn_r _ [5] (by decide +kernel) (by decide +kernel)
set_option maxRecDepth 20000 in
theorem gX12_isTable_X12_in : GoodIn wsX12_isTable (va_wsS RX12 136 yX12_in wsX12_in) := goodIn_app (goodIn_of _ (by decide +kernel)) ggX12_isTable_X12_in
theorem dX12_isTable_0 : decode cX12_isTable 0 = .ok (.iload_n 1, 1) := by decide +kernel
theorem dX12_isTable_1 : decode cX12_isTable 1 = .ok (.iconst 0, 1) := by decide +kernel
theorem dX12_isTable_2 : decode cX12_isTable 2 = .ok (.aload_n 0, 1) := by decide +kernel
theorem dX12_isTable_3 : decode cX12_isTable 3 = .ok (.getfield 143, 3) := by decide +kernel
theorem dX12_isTable_6 : decode cX12_isTable 6 = .ok (.iconst 1, 1) := by decide +kernel
theorem dX12_isTable_7 : decode cX12_isTable 7 = .ok (.isub, 1) := by decide +kernel
theorem dX12_isTable_8 : decode cX12_isTable 8 = .ok (.invokestatic 136, 3) := by decide +kernel
theorem dX12_isTable_11 : decode cX12_isTable 11 = .ok (.ireturn, 1) := by decide +kernel
set_option maxRecDepth 20000 in
theorem ggX12_feed_X12_in : GoodIn wsX12_feed wsX12_in := goodIn_r _ [6] (by decide +kernel) (by decide +kernel)
set_option maxRecDepth 20000 in
theorem gX12_feed_X12_in : GoodIn wsX12_feed (va_wsS RX12 136 yX12_in wsX12_in) := goodIn_app (goodIn_of _ (by decide +kernel)) ggX12_feed_X12_in
theorem dX12_feed_0 : decode cX12_feed 0 = .ok (.iload_n 1, 1) := by decide +kernel
theorem dX12_feed_1 : decode cX12_feed 1 = .ok (.iconst 1, 1) := by decide +kernel
theorem dX12_feed_2 : decode cX12_feed 2 = .ok (.iconst 4, 1) := by decide +kernel
theorem dX12_feed_3 : decode cX12_feed 3 = .ok (.invokestatic 136, 3) := by decide +kernel
theorem dX12_feed_6 : decode cX12_feed 6 = .ok (.ifCond .ne 5, 3) := by decide +kernel
theorem dX12_feed_9 : decode cX12_feed 9 = .ok (.iconst (-1), 1) := by decide +kernel
theorem dX12_feed_10 : decode cX12_feed 10 = .ok (.ireturn, 1) := by decide +kernel
theorem dX12_feed_11 : decode cX12_feed 11 = .ok (.aload_n 0, 1) := by decide +kernel
theorem dX12_feed_12 : decode cX12_feed 12 = .ok (.getfield 146, 3) := by decide +kernel
theorem dX12_feed_15 : decode cX12_feed 15 = .ok (.iload_n 1, 1) := by decide +kernel
theorem dX12_feed_16 : decode cX12_feed 16 = .ok (.iadd, 1) := by decide +kernel
theorem dX12_feed_17 : decode cX12_feed 17 = .ok (.bipush 80, 2) := by decide +kernel
theorem dX12_feed_19 : decode cX12_feed 19 = .ok (.if_icmp .le 6, 3) := by decide +kernel
theorem dX12_feed_25 : decode cX12_feed 25 = .ok (.iconst 0, 1) := by decide +kernel
theorem dX12_feed_26 : decode cX12_feed 26 = .ok (.istore_n 3, 1) := by decide +kernel
theorem dX12_feed_27 : decode cX12_feed 27 = .ok (.iload_n 3, 1) := by decide +kernel
theorem dX12_feed_28 : decode cX12_feed 28 = .ok (.iload_n 1, 1) := by decide +kernel
theorem dX12_feed_29 : decode cX12_feed 29 = .ok (.if_icmp .ge 38, 3) := by decide +kernel
theorem dX12_feed_32 : decode cX12_feed 32 = .ok (.aload_n 0, 1) := by decide +kernel
theorem dX12_feed_33 : decode cX12_feed 33 = .ok (.getfield 65, 3) := by decide +kernel
theorem dX12_feed_36 : decode cX12_feed 36 = .ok (.aload_n 0, 1) := by decide +kernel
theorem dX12_feed_37 : decode cX12_feed 37 = .ok (.getfield 146, 3) := by decide +kernel
theorem dX12_feed_40 : decode cX12_feed 40 = .ok (.iload_n 2, 1) := by decide +kernel
theorem dX12_feed_41 : decode cX12_feed 41 = .ok (.bipush 8, 2) := by decide +kernel
theorem dX12_feed_43 : decode cX12_feed 43 = .ok (.iload_n 3, 1) := by decide +kernel
theorem dX12_feed_44 : decode cX12_feed 44 = .ok (.imul, 1) := by decide +kernel
theorem dX12_feed_45 : decode cX12_feed 45 = .ok (.ishr, 1) := by decide +kernel
theorem dX12_feed_46 : decode cX12_feed 46 = .ok (.sipush 255, 3) := by decide +kernel
theorem dX12_feed_49 : decode cX12_feed 49 = .ok (.iand, 1) := by decide +kernel
theorem dX12_feed_50 : decode cX12_feed 50 = .ok (.iastore, 1) := by decide +kernel
theorem dX12_feed_51 : decode cX12_feed 51 = .ok (.aload_n 0, 1) := by decide +kernel
theorem dX12_feed_52 : decode cX12_feed 52 = .ok (.dup, 1) := by decide +kernel
theorem dX12_feed_53 : decode cX12_feed 53 = .ok (.getfield 146, 3) := by decide +kernel
theorem dX12_feed_56 : decode cX12_feed 56 = .ok (.iconst 1, 1) := by decide +kernel
theorem dX12_feed_57 : decode cX12_feed 57 = .ok (.iadd, 1) := by decide +kernel
theorem dX12_feed_58 : decode cX12_feed 58 = .ok (.putfield 146, 3) := by decide +kernel
theorem dX12_feed_61 : decode cX12_feed 61 = .ok (.iinc 3 1, 3) := by decide +kernel
theorem dX12_feed_64 : decode cX12_feed 64 = .ok (.goto (-37), 3) := by decide +kernel
theorem dX12_feed_67 : decode cX12_feed 67 = .ok (.aload_n 0, 1) := by decide +kernel
theorem dX12_feed_68 : decode cX12_feed 68 = .ok (.getfield 146, 3) := by decide +kernel
theorem dX12_feed_71 : decode cX12_feed 71 = .ok (.ireturn, 1) := by decide +kernel
set_option maxRecDepth 20000 in
theorem ggX12_name_X12_in : GoodIn wsX12_name wsX12_in := goodIn_r _ [8] (by decide +kernel) (by decide +kernel)
set_option maxRecDepth 20000 in
theorem gX12_name_X12_in : GoodIn wsX12_name (va_wsS RX12 136 yX12_in wsX12_in) := goodIn_app (goodIn_of _ (by decide +kernel)) ggX12_name_X12_in
theorem dX12_name_0 : decode cX12_name 0 = .ok (.aload_n 0, 1) := by decide +kernel
theorem dX12_name_1 : decode cX12_name 1 = .ok (.getfield 146, 3) := by decide +kernel
theorem dX12_name_4 : decode cX12_name 4 = .ok (.iconst 1, 1) := by decide +kernel
theorem dX12_name_5 : decode cX12_name 5 = .ok (.bipush 6, 2) := by decide +kernel
theorem dX12_name_7 : decode cX12_name 7 = .ok (.invokestatic 136, 3) := by decide +kernel
theorem dX12_name_10 : decode cX12_name 10 = .ok (.ifCond .ne 5, 3) := by decide +kernel
theorem dX12_name_13 : decode cX12_name 13 = .ok (.iconst (-1), 1) := by decide +kernel
theorem dX12_name_14 : decode cX12_name 14 = .ok (.ireturn, 1) := by decide +kernel
set_option maxRecDepth 20000 in
theorem ggX12_number_X12_isName : GoodIn wsX12_number wsX12_isName := goodIn_r _ [5, 6, 7, 8, 4, 9, 17, 18, 19, 20, 21, 22, 23, 24, 25, 26, 27, 28, 29, 30, 31, 32, 33, 34, 35, 36, 37, 38, 39, 40, 41, 42, 43, 44, 45, 46, 47, 48, 49, 50, 51, 52, 53, 54, 55, 56, 57, 58, 59, 60, 61, 62, 63, 64, 65, 66, 67, 68, 69, 70, 71, 72, 73, 74, 75] (by decide +kernel) (by decide +kernel)
set_option maxRecDepth 20000 in
theorem gX12_number_X12_isName : GoodIn wsX12_number (wsV RX12 158 RX12 yX12_isName wsX12_isName) := goodIn_app (goodIn_of _ (by decide +kernel)) ggX12_number_X12_isName
theorem dX12_number_0 : decode cX12_number 0 = .ok (.aload_n 0, 1) := by decide +kernel
theorem dX12_number_1 : decode cX12_number 1 = .ok (.iload_n 1, 1) := by decide +kernel
theorem dX12_number_2 : decode cX12_number 2 = .ok (.invokevirtual 158, 3) := by decide +kernel
theorem dX12_number_5 : decode cX12_number 5 = .ok (.ifCond .eq 12, 3) := by decide +kernel
theorem dX12_number_17 : decode cX12_number 17 = .ok (.iconst (-1), 1) := by decide +kernel
theorem dX12_number_18 : decode cX12_number 18 = .ok (.ireturn, 1) := by decide +kernel
set_option maxRecDepth 20000 in
theorem ggX12_keeper_X12_in : GoodIn wsX12_keeper wsX12_in := goodIn_r _ [7] (by decide +kernel) (by decide +kernel)
set_option maxRecDepth 20000 in
theorem gX12_keeper_X12_in : GoodIn wsX12_keeper (va_wsS RX12 136 yX12_in wsX12_in) := goodIn_app (goodIn_of _ (by decide +kernel)) ggX12_keeper_X12_in
theorem dX12_keeper_0 : decode cX12_keeper 0 = .ok (.iload_n 1, 1) := by decide +kernel
theorem dX12_keeper_1 : decode cX12_keeper 1 = .ok (.iconst 0, 1) := by decide +kernel
theorem dX12_keeper_2 : decode cX12_keeper 2 = .ok (.iconst 5, 1) := by decide +kernel
theorem dX12_keeper_3 : decode cX12_keeper 3 = .ok (.invokestatic 136, 3) := by decide +kernel
theorem dX12_keeper_6 : decode cX12_keeper 6 = .ok (.ifCond .eq 13, 3) := by decide +kernel
theorem dX12_keeper_9 : decode cX12_keeper 9 = .ok (.iload_n 2, 1) := by decide +kernel
theorem dX12_keeper_10 : decode cX12_keeper 10 = .ok (.iconst 1, 1) := by decide +kernel
theorem dX12_keeper_11 : decode cX12_keeper 11 = .ok (.bipush 8, 2) := by decide +kernel
theorem dX12_keeper_13 : decode cX12_keeper 13 = .ok (.invokestatic 136, 3) := by decide +kernel
theorem dX12_keeper_16 : decode cX12_keeper 16 = .ok (.ifCond .ne 5, 3) := by decide +kernel
theorem dX12_keeper_19 : decode cX12_keeper 19 = .ok (.iconst (-1), 1) := by decide +kernel
theorem dX12_keeper_20 : decode cX12_keeper 20 = .ok (.ireturn, 1) := by decide +kernel
theorem dX12_keeper_21 : decode cX12_keeper 21 = .ok (.aload_n 0, 1) := by decide +kernel
theorem dX12_keeper_22 : decode cX12_keeper 22 = .ok (.getfield 140, 3) := by decide +kernel
theorem dX12_keeper_25 : decode cX12_keeper 25 = .ok (.bipush 12, 2) := by decide +kernel
theorem dX12_keeper_27 : decode cX12_keeper 27 = .ok (.if_icmp .ne 6, 3) := by decide +kernel
theorem dX12_keeper_33 : decode cX12_keeper 33 = .ok (.aload_n 0, 1) := by decide +kernel
theorem dX12_keeper_34 : decode cX12_keeper 34 = .ok (.getfield 16, 3) := by decide +kernel
theorem dX12_keeper_37 : decode cX12_keeper 37 = .ok (.aload_n 0, 1) := by decide +kernel
theorem dX12_keeper_38 : decode cX12_keeper 38 = .ok (.getfield 140, 3) := by decide +kernel
theorem dX12_keeper_41 : decode cX12_keeper 41 = .ok (.iload_n 1, 1) := by decide +kernel
theorem dX12_keeper_42 : decode cX12_keeper 42 = .ok (.iastore, 1) := by decide +kernel
theorem dX12_keeper_43 : decode cX12_keeper 43 = .ok (.aload_n 0, 1) := by decide +kernel
theorem dX12_keeper_44 : decode cX12_keeper 44 = .ok (.getfield 19, 3) := by decide +kernel
theorem dX12_keeper_47 : decode cX12_keeper 47 = .ok (.aload_n 0, 1) := by decide +kernel
theorem dX12_keeper_48 : decode cX12_keeper 48 = .ok (.getfield 140, 3) := by decide +kernel
theorem dX12_keeper_51 : decode cX12_keeper 51 = .ok (.iload_n 2, 1) := by decide +kernel
theorem dX12_keeper_52 : decode cX12_keeper 52 = .ok (.iastore, 1) := by decide +kernel
theorem dX12_keeper_53 : decode cX12_keeper 53 = .ok (.aload_n 0, 1) := by decide +kernel
theorem dX12_keeper_54 : decode cX12_keeper 54 = .ok (.dup, 1) := by decide +kernel
theorem dX12_keeper_55 : decode cX12_keeper 55 = .ok (.getfield 140, 3) := by decide +kernel
theorem dX12_keeper_58 : decode cX12_keeper 58 = .ok (.iconst 1, 1) := by decide +kernel
theorem dX12_keeper_59 : decode cX12_keeper 59 = .ok (.iadd, 1) := by decide +kernel
theorem dX12_keeper_60 : decode cX12_keeper 60 = .ok (.putfield 140, 3) := by decide +kernel
theorem dX12_keeper_63 : decode cX12_keeper 63 = .ok (.aload_n 0, 1) := by decide +kernel
theorem dX12_keeper_64 : decode cX12_keeper 64 = .ok (.getfield 140, 3) := by decide +kernel
theorem dX12_keeper_67 : decode cX12_keeper 67 = .ok (.iconst 1, 1) := by decide +kernel
theorem dX12_keeper_68 : decode cX12_keeper 68 = .ok (.isub, 1) := by decide +kernel
theorem dX12_keeper_69 : decode cX12_keeper 69 = .ok (.ireturn, 1) := by decide +kernel
set_option maxRecDepth 20000 in
theorem ggX12_become_X12_isKeeper : GoodIn wsX12_become wsX12_isKeeper := goodIn_r _ [9, 10, 11, 12, 8, 13, 14, 15, 16, 17, 18, 19, 20, 21, 22, 23, 24, 25, 26, 27, 28, 29, 30, 31, 32, 33, 34, 35, 36, 37, 38, 39, 40, 41, 42, 43, 44, 45, 46, 47, 48, 49, 50, 51, 52, 53, 54, 55, 56, 57, 58, 59, 60, 61, 62, 63, 64, 65, 66, 67, 68, 69, 70, 71, 72] (by decide +kernel) (by decide +kernel)
set_option maxRecDepth 20000 in
theorem gX12_become_X12_isKeeper : GoodIn wsX12_become (wsV RX12 166 RX12 yX12_isKeeper wsX12_isKeeper) := goodIn_app (goodIn_of _ (by decide +kernel)) ggX12_become_X12_isKeeper
theorem dX12_become_0 : decode cX12_become 0 = .ok (.aload_n 0, 1) := by decide +kernel
theorem dX12_become_1 : decode cX12_become 1 = .ok (.iload_n 1, 1) := by decide +kernel
theorem dX12_become_2 : decode cX12_become 2 = .ok (.invokevirtual 166, 3) := by decide +kernel
theorem dX12_become_5 : decode cX12_become 5 = .ok (.ifCond .eq 13, 3) := by decide +kernel
theorem dX12_become_18 : decode cX12_become 18 = .ok (.iconst (-1), 1) := by decide +kernel
theorem dX12_become_19 : decode cX12_become 19 = .ok (.ireturn, 1) := by decide +kernel
set_option maxRecDepth 20000 in
theorem ggX12_strength_X12_isKeeper : GoodIn wsX12_strength wsX12_isKeeper := goodIn_r _ [6, 7, 8, 9, 5, 10, 11, 12, 13, 14, 15, 16, 17, 18, 19, 20, 21, 22, 23, 24, 25, 26, 27, 28, 29, 30, 31, 32, 33, 34, 35, 36, 37, 38, 39, 40, 41, 42, 43, 44, 45, 46, 47, 48, 49, 50, 51, 52, 53, 54, 55, 56, 57, 58, 59, 60, 61, 62, 63, 64, 65, 66, 67, 68, 69] (by decide +kernel) (by decide +kernel)
set_option maxRecDepth 20000 in
theorem gX12_strength_X12_isKeeper : GoodIn wsX12_strength (wsV RX12 166 RX12 yX12_isKeeper wsX12_isKeeper) := goodIn_app (goodIn_of _ (by decide +kernel)) ggX12_strength_X12_isKeeper
theorem dX12_strength_0 : decode cX12_strength 0 = .ok (.aload_n 0, 1) := by decide +kernel
theorem dX12_strength_1 : decode cX12_strength 1 = .ok (.iload_n 1, 1) := by decide +kernel
theorem dX12_strength_2 : decode cX12_strength 2 = .ok (.invokevirtual 166, 3) := by decide +kernel
theorem dX12_strength_5 : decode cX12_strength 5 = .ok (.ifCond .eq 13, 3) := by decide +kernel
theorem dX12_strength_18 : decode cX12_strength 18 = .ok (.iconst (-1), 1) := by decide +kernel
theorem dX12_strength_19 : decode cX12_strength 19 = .ok (.ireturn, 1) := by decide +kernel
set_option maxRecDepth 20000 in
theorem ggX12_ofKeeper_X12_isKeeper : GoodIn wsX12_ofKeeper wsX12_isKeeper := goodIn_r _ [11, 12, 13, 14, 10, 15, 26, 27, 28, 29, 30, 31, 32, 33, 34, 35, 36, 37, 38, 39, 40, 41, 42, 43, 44, 45, 46, 47, 48, 49, 50, 51, 52, 53, 54, 55, 56, 57, 58, 59, 60, 61, 62, 63, 64, 65, 66, 67, 68, 69, 70, 71, 72, 73, 74, 75, 76, 77, 78, 79, 80, 81, 82, 83, 84] (by decide +kernel) (by decide +kernel)
set_option maxRecDepth 20000 in
theorem gX12_ofKeeper_X12_isKeeper : GoodIn wsX12_ofKeeper (wsV RX12 166 RX12 yX12_isKeeper wsX12_isKeeper) := goodIn_app (goodIn_of _ (by decide +kernel)) ggX12_ofKeeper_X12_isKeeper
theorem dX12_ofKeeper_0 : decode cX12_ofKeeper 0 = .ok (.aload_n 0, 1) := by decide +kernel
theorem dX12_ofKeeper_1 : decode cX12_ofKeeper 1 = .ok (.iload_n 1, 1) := by decide +kernel
theorem dX12_ofKeeper_2 : decode cX12_ofKeeper 2 = .ok (.invokevirtual 166, 3) := by decide +kernel
theorem dX12_ofKeeper_5 : decode cX12_ofKeeper 5 = .ok (.ifCond .ne 6, 3) := by decide +kernel
theorem dX12_ofKeeper_8 : decode cX12_ofKeeper 8 = .ok (.ldc 169, 2) := by decide +kernel
theorem dX12_ofKeeper_10 : decode cX12_ofKeeper 10 = .ok (.ireturn, 1) := by decide +kernel
theorem dX12_table_0 : decode cX12_table 0 = .ok (.iload_n 1, 1) := by decide +kernel
theorem dX12_table_1 : decode cX12_table 1 = .ok (.ifCond .le 13, 3) := by decide +kernel
theorem dX12_table_4 : decode cX12_table 4 = .ok (.iload_n 1, 1) := by decide +kernel
theorem dX12_table_5 : decode cX12_table 5 = .ok (.iconst 1, 1) := by decide +kernel
theorem dX12_table_6 : decode cX12_table 6 = .ok (.aload_n 0, 1) := by decide +kernel
theorem dX12_table_7 : decode cX12_table 7 = .ok (.getfield 140, 3) := by decide +kernel
theorem dX12_table_10 : decode cX12_table 10 = .ok (.ishl, 1) := by decide +kernel
theorem dX12_table_11 : decode cX12_table 11 = .ok (.if_icmp .lt 5, 3) := by decide +kernel
theorem dX12_table_14 : decode cX12_table 14 = .ok (.iconst (-1), 1) := by decide +kernel
theorem dX12_table_15 : decode cX12_table 15 = .ok (.ireturn, 1) := by decide +kernel
set_option maxRecDepth 20000 in
theorem ggX12_seat_X12_isTable : GoodIn wsX12_seat wsX12_isTable := goodIn_r _ [6, 7, 8, 9, 5, 10, 11, 12, 13, 14, 15, 16, 17, 18, 19, 20, 21, 22, 23, 24, 25, 26, 27, 28, 29, 30, 31, 32, 33, 34, 35, 36, 37, 38, 39, 40, 41, 42, 43, 44, 45, 46, 47, 48, 49, 50, 51, 52, 53, 54, 55, 56, 57, 58, 59, 60, 61, 62, 63, 64, 65, 66, 67, 68, 69] (by decide +kernel) (by decide +kernel)
set_option maxRecDepth 20000 in
theorem gX12_seat_X12_isTable : GoodIn wsX12_seat (wsV RX12 266 RX12 yX12_isTable wsX12_isTable) := goodIn_app (goodIn_of _ (by decide +kernel)) ggX12_seat_X12_isTable
theorem dX12_seat_0 : decode cX12_seat 0 = .ok (.aload_n 0, 1) := by decide +kernel
theorem dX12_seat_1 : decode cX12_seat 1 = .ok (.iload_n 1, 1) := by decide +kernel
theorem dX12_seat_2 : decode cX12_seat 2 = .ok (.invokevirtual 266, 3) := by decide +kernel
theorem dX12_seat_5 : decode cX12_seat 5 = .ok (.ifCond .eq 14, 3) := by decide +kernel
theorem dX12_seat_19 : decode cX12_seat 19 = .ok (.iconst (-1), 1) := by decide +kernel
theorem dX12_seat_20 : decode cX12_seat 20 = .ok (.goto 36, 3) := by decide +kernel
theorem dX12_seat_56 : decode cX12_seat 56 = .ok (.ireturn, 1) := by decide +kernel
set_option maxRecDepth 20000 in
theorem ggX12_picked_X12_isTable : GoodIn wsX12_picked wsX12_isTable := goodIn_r _ [7, 8, 9, 10, 6, 11, 39, 40, 41, 42, 43, 44, 45, 46, 47, 48, 49, 50, 51, 52, 53, 54, 55, 56, 57, 58, 59, 60, 61, 62, 63, 64, 65, 66, 67, 68, 69, 70, 71, 72, 73, 74, 75, 76, 77, 78, 79, 80, 81, 82, 83, 84, 85, 86, 87, 88, 89, 90, 91, 92, 93, 94, 95, 96, 97] (by decide +kernel) (by decide +kernel)
set_option maxRecDepth 20000 in
theorem gX12_picked_X12_isTable : GoodIn wsX12_picked (wsV RX12 266 RX12 yX12_isTable wsX12_isTable) := goodIn_app (goodIn_of _ (by decide +kernel)) ggX12_picked_X12_isTable
theorem dX12_picked_0 : decode cX12_picked 0 = .ok (.aload_n 0, 1) := by decide +kernel
theorem dX12_picked_1 : decode cX12_picked 1 = .ok (.iload_n 1, 1) := by decide +kernel
theorem dX12_picked_2 : decode cX12_picked 2 = .ok (.invokevirtual 266, 3) := by decide +kernel
theorem dX12_picked_5 : decode cX12_picked 5 = .ok (.ifCond .eq 14, 3) := by decide +kernel
theorem dX12_picked_19 : decode cX12_picked 19 = .ok (.iconst (-1), 1) := by decide +kernel
theorem dX12_picked_20 : decode cX12_picked 20 = .ok (.ireturn, 1) := by decide +kernel
set_option maxRecDepth 20000 in
theorem ggX12_keeperOf_X12_isTable : GoodIn wsX12_keeperOf wsX12_isTable := goodIn_r _ [7, 8, 9, 10, 6, 11, 72, 73, 74, 75, 76, 77, 78, 79, 80, 81, 82, 83, 84, 85, 86, 87, 88, 89, 90, 91, 92, 93, 94, 95, 96, 97, 98, 99, 100, 101, 102, 103, 104, 105, 106, 107, 108, 109, 110, 111, 112, 113, 114, 115, 116, 117, 118, 119, 120, 121, 122, 123, 124, 125, 126, 127, 128, 129, 130] (by decide +kernel) (by decide +kernel)
set_option maxRecDepth 20000 in
theorem gX12_keeperOf_X12_isTable : GoodIn wsX12_keeperOf (wsV RX12 266 RX12 yX12_isTable wsX12_isTable) := goodIn_app (goodIn_of _ (by decide +kernel)) ggX12_keeperOf_X12_isTable
theorem dX12_keeperOf_0 : decode cX12_keeperOf 0 = .ok (.aload_n 0, 1) := by decide +kernel
theorem dX12_keeperOf_1 : decode cX12_keeperOf 1 = .ok (.iload_n 1, 1) := by decide +kernel
theorem dX12_keeperOf_2 : decode cX12_keeperOf 2 = .ok (.invokevirtual 266, 3) := by decide +kernel
theorem dX12_keeperOf_5 : decode cX12_keeperOf 5 = .ok (.ifCond .eq 11, 3) := by decide +kernel
theorem dX12_keeperOf_16 : decode cX12_keeperOf 16 = .ok (.iconst (-1), 1) := by decide +kernel
theorem dX12_keeperOf_17 : decode cX12_keeperOf 17 = .ok (.ireturn, 1) := by decide +kernel
set_option maxRecDepth 20000 in
theorem ggX12_tooFew_X12_isTable : GoodIn wsX12_tooFew wsX12_isTable := goodIn_r _ [7, 8, 9, 10, 6, 11, 68, 69, 70, 71, 72, 73, 74, 75, 76, 77, 78, 79, 80, 81, 82, 83, 84, 85, 86, 87, 88, 89, 90, 91, 92, 93, 94, 95, 96, 97, 98, 99, 100, 101, 102, 103, 104, 105, 106, 107, 108, 109, 110, 111, 112, 113, 114, 115, 116, 117, 118, 119, 120, 121, 122, 123, 124, 125, 126] (by decide +kernel) (by decide +kernel)
set_option maxRecDepth 20000 in
theorem gX12_tooFew_X12_isTable : GoodIn wsX12_tooFew (wsV RX12 266 RX12 yX12_isTable wsX12_isTable) := goodIn_app (goodIn_of _ (by decide +kernel)) ggX12_tooFew_X12_isTable
theorem dX12_tooFew_0 : decode cX12_tooFew 0 = .ok (.aload_n 0, 1) := by decide +kernel
theorem dX12_tooFew_1 : decode cX12_tooFew 1 = .ok (.iload_n 1, 1) := by decide +kernel
theorem dX12_tooFew_2 : decode cX12_tooFew 2 = .ok (.invokevirtual 266, 3) := by decide +kernel
theorem dX12_tooFew_5 : decode cX12_tooFew 5 = .ok (.ifCond .ne 5, 3) := by decide +kernel
theorem dX12_tooFew_8 : decode cX12_tooFew 8 = .ok (.iconst (-1), 1) := by decide +kernel
theorem dX12_tooFew_9 : decode cX12_tooFew 9 = .ok (.ireturn, 1) := by decide +kernel
set_option maxRecDepth 20000 in
theorem ggX12_share_X12_isTable : GoodIn wsX12_share wsX12_isTable := goodIn_r _ [6, 7, 8, 9, 5, 10, 60, 61, 62, 63, 64, 65, 66, 67, 68, 69, 70, 71, 72, 73, 74, 75, 76, 77, 78, 79, 80, 81, 82, 83, 84, 85, 86, 87, 88, 89, 90, 91, 92, 93, 94, 95, 96, 97, 98, 99, 100, 101, 102, 103, 104, 105, 106, 107, 108, 109, 110, 111, 112, 113, 114, 115, 116, 117, 118] (by decide +kernel) (by decide +kernel)
set_option maxRecDepth 20000 in
theorem gX12_share_X12_isTable : GoodIn wsX12_share (wsV RX12 266 RX12 yX12_isTable wsX12_isTable) := goodIn_app (goodIn_of _ (by decide +kernel)) ggX12_share_X12_isTable
theorem dX12_share_0 : decode cX12_share 0 = .ok (.aload_n 0, 1) := by decide +kernel
theorem dX12_share_1 : decode cX12_share 1 = .ok (.iload_n 1, 1) := by decide +kernel
theorem dX12_share_2 : decode cX12_share 2 = .ok (.invokevirtual 266, 3) := by decide +kernel
theorem dX12_share_5 : decode cX12_share 5 = .ok (.ifCond .eq 20, 3) := by decide +kernel
theorem dX12_share_25 : decode cX12_share 25 = .ok (.iconst (-1), 1) := by decide +kernel
theorem dX12_share_26 : decode cX12_share 26 = .ok (.ireturn, 1) := by decide +kernel
set_option maxRecDepth 20000 in
theorem ggX12_ofTable_X12_isTable : GoodIn wsX12_ofTable wsX12_isTable := goodIn_r _ [10, 11, 12, 13, 9, 14, 51, 52, 53, 54, 55, 56, 57, 58, 59, 60, 61, 62, 63, 64, 65, 66, 67, 68, 69, 70, 71, 72, 73, 74, 75, 76, 77, 78, 79, 80, 81, 82, 83, 84, 85, 86, 87, 88, 89, 90, 91, 92, 93, 94, 95, 96, 97, 98, 99, 100, 101, 102, 103, 104, 105, 106, 107, 108, 109] (by decide +kernel) (by decide +kernel)
set_option maxRecDepth 20000 in
theorem gX12_ofTable_X12_isTable : GoodIn wsX12_ofTable (wsV RX12 266 RX12 yX12_isTable wsX12_isTable) := goodIn_app (goodIn_of _ (by decide +kernel)) ggX12_ofTable_X12_isTable
theorem dX12_ofTable_0 : decode cX12_ofTable 0 = .ok (.aload_n 0, 1) := by decide +kernel
theorem dX12_ofTable_1 : decode cX12_ofTable 1 = .ok (.iload_n 1, 1) := by decide +kernel
theorem dX12_ofTable_2 : decode cX12_ofTable 2 = .ok (.invokevirtual 266, 3) := by decide +kernel
theorem dX12_ofTable_5 : decode cX12_ofTable 5 = .ok (.ifCond .ne 5, 3) := by decide +kernel
theorem dX12_ofTable_8 : decode cX12_ofTable 8 = .ok (.iconst (-1), 1) := by decide +kernel
theorem dX12_ofTable_9 : decode cX12_ofTable 9 = .ok (.ireturn, 1) := by decide +kernel
set_option maxRecDepth 20000 in
theorem ggX12_moves_X12_isTable : GoodIn wsX12_moves wsX12_isTable := goodIn_r _ [8, 9, 10, 11, 7, 12, 75, 76, 77, 78, 79, 80, 81, 82, 83, 84, 85, 86, 87, 88, 89, 90, 91, 92, 93, 94, 95, 96, 97, 98, 99, 100, 101, 102, 103, 104, 105, 106, 107, 108, 109, 110, 111, 112, 113, 114, 115, 116, 117, 118, 119, 120, 121, 122, 123, 124, 125, 126, 127, 128, 129, 130, 131, 132, 133] (by decide +kernel) (by decide +kernel)
set_option maxRecDepth 20000 in
theorem gX12_moves_X12_isTable : GoodIn wsX12_moves (wsV RX12 266 RX12 yX12_isTable wsX12_isTable) := goodIn_app (goodIn_of _ (by decide +kernel)) ggX12_moves_X12_isTable
theorem dX12_moves_0 : decode cX12_moves 0 = .ok (.aload_n 0, 1) := by decide +kernel
theorem dX12_moves_1 : decode cX12_moves 1 = .ok (.iload_n 1, 1) := by decide +kernel
theorem dX12_moves_2 : decode cX12_moves 2 = .ok (.invokevirtual 266, 3) := by decide +kernel
theorem dX12_moves_5 : decode cX12_moves 5 = .ok (.ifCond .eq 20, 3) := by decide +kernel
theorem dX12_moves_25 : decode cX12_moves 25 = .ok (.iconst (-1), 1) := by decide +kernel
theorem dX12_moves_26 : decode cX12_moves 26 = .ok (.ireturn, 1) := by decide +kernel
set_option maxRecDepth 20000 in
theorem ggX12_knows_X12_isKeeper : GoodIn wsX12_knows wsX12_isKeeper := goodIn_r _ [8, 9, 10, 11, 7, 12, 13, 14, 15, 16, 17, 18, 19, 20, 21, 22, 23, 24, 25, 26, 27, 28, 29, 30, 31, 32, 33, 34, 35, 36, 37, 38, 39, 40, 41, 42, 43, 44, 45, 46, 47, 48, 49, 50, 51, 52, 53, 54, 55, 56, 57, 58, 59, 60, 61, 62, 63, 64, 65, 66, 67, 68, 69, 70, 71] (by decide +kernel) (by decide +kernel)
set_option maxRecDepth 20000 in
theorem gX12_knows_X12_isKeeper : GoodIn wsX12_knows (wsV RX12 166 RX12 yX12_isKeeper wsX12_isKeeper) := goodIn_app (goodIn_of _ (by decide +kernel)) ggX12_knows_X12_isKeeper
theorem dX12_knows_0 : decode cX12_knows 0 = .ok (.aload_n 0, 1) := by decide +kernel
theorem dX12_knows_1 : decode cX12_knows 1 = .ok (.iload_n 1, 1) := by decide +kernel
theorem dX12_knows_2 : decode cX12_knows 2 = .ok (.invokevirtual 166, 3) := by decide +kernel
theorem dX12_knows_5 : decode cX12_knows 5 = .ok (.ifCond .eq 17, 3) := by decide +kernel
theorem dX12_knows_22 : decode cX12_knows 22 = .ok (.ldc 169, 2) := by decide +kernel
theorem dX12_knows_24 : decode cX12_knows 24 = .ok (.ireturn, 1) := by decide +kernel
set_option maxRecDepth 20000 in
theorem ggX12_write_X12_isKeeper : GoodIn wsX12_write wsX12_isKeeper := goodIn_r _ [13, 14, 15, 16, 12, 17, 99, 100, 101, 102, 103, 104, 105, 106, 107, 108, 109, 110, 111, 112, 113, 114, 115, 116, 117, 118, 119, 120, 121, 122, 123, 124, 125, 126, 127, 128, 129, 130, 131, 132, 133, 134, 135, 136, 137, 138, 139, 140, 141, 142, 143, 144, 145, 146, 147, 148, 149, 150, 151, 152, 153, 154, 155, 156, 157] (by decide +kernel) (by decide +kernel)
set_option maxRecDepth 20000 in
theorem gX12_write_X12_isKeeper : GoodIn wsX12_write (wsV RX12 166 RX12 yX12_isKeeper wsX12_isKeeper) := goodIn_app (goodIn_of _ (by decide +kernel)) ggX12_write_X12_isKeeper
theorem dX12_write_0 : decode cX12_write 0 = .ok (.aload_n 0, 1) := by decide +kernel
theorem dX12_write_1 : decode cX12_write 1 = .ok (.iload_n 1, 1) := by decide +kernel
theorem dX12_write_2 : decode cX12_write 2 = .ok (.invokevirtual 166, 3) := by decide +kernel
theorem dX12_write_5 : decode cX12_write 5 = .ok (.ifCond .eq 11, 3) := by decide +kernel
theorem dX12_write_16 : decode cX12_write 16 = .ok (.iconst (-1), 1) := by decide +kernel
theorem dX12_write_17 : decode cX12_write 17 = .ok (.ireturn, 1) := by decide +kernel
set_option maxRecDepth 20000 in
theorem ggX12_read_X12_isKeeper : GoodIn wsX12_read wsX12_isKeeper := goodIn_r _ [9, 10, 11, 12, 8, 13, 79, 80, 81, 82, 83, 84, 85, 86, 87, 88, 89, 90, 91, 92, 93, 94, 95, 96, 97, 98, 99, 100, 101, 102, 103, 104, 105, 106, 107, 108, 109, 110, 111, 112, 113, 114, 115, 116, 117, 118, 119, 120, 121, 122, 123, 124, 125, 126, 127, 128, 129, 130, 131, 132, 133, 134, 135, 136, 137] (by decide +kernel) (by decide +kernel)
set_option maxRecDepth 20000 in
theorem gX12_read_X12_isKeeper : GoodIn wsX12_read (wsV RX12 166 RX12 yX12_isKeeper wsX12_isKeeper) := goodIn_app (goodIn_of _ (by decide +kernel)) ggX12_read_X12_isKeeper
theorem dX12_read_0 : decode cX12_read 0 = .ok (.aload_n 0, 1) := by decide +kernel
theorem dX12_read_1 : decode cX12_read 1 = .ok (.iload_n 1, 1) := by decide +kernel
theorem dX12_read_2 : decode cX12_read 2 = .ok (.invokevirtual 166, 3) := by decide +kernel
theorem dX12_read_5 : decode cX12_read 5 = .ok (.ifCond .eq 11, 3) := by decide +kernel
theorem dX12_read_16 : decode cX12_read 16 = .ok (.iconst (-1), 1) := by decide +kernel
theorem dX12_read_17 : decode cX12_read 17 = .ok (.ireturn, 1) := by decide +kernel
set_option maxRecDepth 20000 in
theorem ggX12_onShelf_X12_isKeeper : GoodIn wsX12_onShelf wsX12_isKeeper := goodIn_r _ [9, 10, 11, 12, 8, 13, 19, 20, 21, 22, 23, 24, 25, 26, 27, 28, 29, 30, 31, 32, 33, 34, 35, 36, 37, 38, 39, 40, 41, 42, 43, 44, 45, 46, 47, 48, 49, 50, 51, 52, 53, 54, 55, 56, 57, 58, 59, 60, 61, 62, 63, 64, 65, 66, 67, 68, 69, 70, 71, 72, 73, 74, 75, 76, 77] (by decide +kernel) (by decide +kernel)
set_option maxRecDepth 20000 in
theorem gX12_onShelf_X12_isKeeper : GoodIn wsX12_onShelf (wsV RX12 166 RX12 yX12_isKeeper wsX12_isKeeper) := goodIn_app (goodIn_of _ (by decide +kernel)) ggX12_onShelf_X12_isKeeper
theorem dX12_onShelf_0 : decode cX12_onShelf 0 = .ok (.aload_n 0, 1) := by decide +kernel
theorem dX12_onShelf_1 : decode cX12_onShelf 1 = .ok (.iload_n 1, 1) := by decide +kernel
theorem dX12_onShelf_2 : decode cX12_onShelf 2 = .ok (.invokevirtual 166, 3) := by decide +kernel
theorem dX12_onShelf_5 : decode cX12_onShelf 5 = .ok (.ifCond .eq 11, 3) := by decide +kernel
theorem dX12_onShelf_16 : decode cX12_onShelf 16 = .ok (.iconst (-1), 1) := by decide +kernel
theorem dX12_onShelf_17 : decode cX12_onShelf 17 = .ok (.ireturn, 1) := by decide +kernel
set_option maxRecDepth 20000 in
theorem ggX12_fall_X12_isKeeper : GoodIn wsX12_fall wsX12_isKeeper := goodIn_r _ [9, 10, 11, 12, 8, 13, 14, 15, 16, 17, 18, 19, 20, 21, 22, 23, 24, 25, 26, 27, 28, 29, 30, 31, 32, 33, 34, 35, 36, 37, 38, 39, 40, 41, 42, 43, 44, 45, 46, 47, 48, 49, 50, 51, 52, 53, 54, 55, 56, 57, 58, 59, 60, 61, 62, 63, 64, 65, 66, 67, 68, 69, 70, 71, 72] (by decide +kernel) (by decide +kernel)
set_option maxRecDepth 20000 in
theorem gX12_fall_X12_isKeeper : GoodIn wsX12_fall (wsV RX12 166 RX12 yX12_isKeeper wsX12_isKeeper) := goodIn_app (goodIn_of _ (by decide +kernel)) ggX12_fall_X12_isKeeper
theorem dX12_fall_0 : decode cX12_fall 0 = .ok (.aload_n 0, 1) := by decide +kernel
theorem dX12_fall_1 : decode cX12_fall 1 = .ok (.iload_n 1, 1) := by decide +kernel
theorem dX12_fall_2 : decode cX12_fall 2 = .ok (.invokevirtual 166, 3) := by decide +kernel
theorem dX12_fall_5 : decode cX12_fall 5 = .ok (.ifCond .eq 12, 3) := by decide +kernel
theorem dX12_fall_17 : decode cX12_fall 17 = .ok (.iconst (-1), 1) := by decide +kernel
theorem dX12_fall_18 : decode cX12_fall 18 = .ok (.ireturn, 1) := by decide +kernel
set_option maxRecDepth 20000 in
theorem ggX12_half_X12_isName : GoodIn wsX12_half wsX12_isName := goodIn_r _ [8, 9, 10, 11, 7, 12, 24, 25, 26, 27, 28, 29, 30, 31, 32, 33, 34, 35, 36, 37, 38, 39, 40, 41, 42, 43, 44, 45, 46, 47, 48, 49, 50, 51, 52, 53, 54, 55, 56, 57, 58, 59, 60, 61, 62, 63, 64, 65, 66, 67, 68, 69, 70, 71, 72, 73, 74, 75, 76, 77, 78, 79, 80, 81, 82] (by decide +kernel) (by decide +kernel)
set_option maxRecDepth 20000 in
theorem gX12_half_X12_isName : GoodIn wsX12_half (wsV RX12 158 RX12 yX12_isName wsX12_isName) := goodIn_app (goodIn_of _ (by decide +kernel)) ggX12_half_X12_isName
theorem dX12_half_0 : decode cX12_half 0 = .ok (.aload_n 0, 1) := by decide +kernel
theorem dX12_half_1 : decode cX12_half 1 = .ok (.iload_n 1, 1) := by decide +kernel
theorem dX12_half_2 : decode cX12_half 2 = .ok (.invokevirtual 158, 3) := by decide +kernel
theorem dX12_half_5 : decode cX12_half 5 = .ok (.ifCond .eq 24, 3) := by decide +kernel
theorem dX12_half_29 : decode cX12_half 29 = .ok (.iconst (-1), 1) := by decide +kernel
theorem dX12_half_30 : decode cX12_half 30 = .ok (.ireturn, 1) := by decide +kernel
set_option maxRecDepth 20000 in
theorem ggX12_mend_X12_isTable : GoodIn wsX12_mend wsX12_isTable := goodIn_r _ [11, 12, 13, 14, 10, 15, 84, 85, 86, 87, 88, 89, 90, 91, 92, 93, 94, 95, 96, 97, 98, 99, 100, 101, 102, 103, 104, 105, 106, 107, 108, 109, 110, 111, 112, 113, 114, 115, 116, 117, 118, 119, 120, 121, 122, 123, 124, 125, 126, 127, 128, 129, 130, 131, 132, 133, 134, 135, 136, 137, 138, 139, 140, 141, 142] (by decide +kernel) (by decide +kernel)
set_option maxRecDepth 20000 in
theorem gX12_mend_X12_isTable : GoodIn wsX12_mend (wsV RX12 266 RX12 yX12_isTable wsX12_isTable) := goodIn_app (goodIn_of _ (by decide +kernel)) ggX12_mend_X12_isTable
theorem dX12_mend_0 : decode cX12_mend 0 = .ok (.aload_n 0, 1) := by decide +kernel
theorem dX12_mend_1 : decode cX12_mend 1 = .ok (.iload_n 1, 1) := by decide +kernel
theorem dX12_mend_2 : decode cX12_mend 2 = .ok (.invokevirtual 266, 3) := by decide +kernel
theorem dX12_mend_5 : decode cX12_mend 5 = .ok (.ifCond .ne 5, 3) := by decide +kernel
theorem dX12_mend_8 : decode cX12_mend 8 = .ok (.iconst (-1), 1) := by decide +kernel
theorem dX12_mend_9 : decode cX12_mend 9 = .ok (.ireturn, 1) := by decide +kernel
set_option maxRecDepth 20000 in
theorem ggX12_trees_X12_isKeeper : GoodIn wsX12_trees wsX12_isKeeper := goodIn_r _ [5, 6, 7, 8, 4, 9, 24, 25, 26, 27, 28, 29, 30, 31, 32, 33, 34, 35, 36, 37, 38, 39, 40, 41, 42, 43, 44, 45, 46, 47, 48, 49, 50, 51, 52, 53, 54, 55, 56, 57, 58, 59, 60, 61, 62, 63, 64, 65, 66, 67, 68, 69, 70, 71, 72, 73, 74, 75, 76, 77, 78, 79, 80, 81, 82] (by decide +kernel) (by decide +kernel)
set_option maxRecDepth 20000 in
theorem gX12_trees_X12_isKeeper : GoodIn wsX12_trees (wsV RX12 166 RX12 yX12_isKeeper wsX12_isKeeper) := goodIn_app (goodIn_of _ (by decide +kernel)) ggX12_trees_X12_isKeeper
theorem dX12_trees_0 : decode cX12_trees 0 = .ok (.aload_n 0, 1) := by decide +kernel
theorem dX12_trees_1 : decode cX12_trees 1 = .ok (.iload_n 1, 1) := by decide +kernel
theorem dX12_trees_2 : decode cX12_trees 2 = .ok (.invokevirtual 166, 3) := by decide +kernel
theorem dX12_trees_5 : decode cX12_trees 5 = .ok (.ifCond .eq 25, 3) := by decide +kernel
theorem dX12_trees_30 : decode cX12_trees 30 = .ok (.iconst (-1), 1) := by decide +kernel
theorem dX12_trees_31 : decode cX12_trees 31 = .ok (.ireturn, 1) := by decide +kernel
set_option maxRecDepth 20000 in
theorem ggX12_noon_X12_isTable : GoodIn wsX12_noon wsX12_isTable := goodIn_r _ [6, 7, 8, 9, 5, 10, 14, 15, 16, 17, 18, 19, 20, 21, 22, 23, 24, 25, 26, 27, 28, 29, 30, 31, 32, 33, 34, 35, 36, 37, 38, 39, 40, 41, 42, 43, 44, 45, 46, 47, 48, 49, 50, 51, 52, 53, 54, 55, 56, 57, 58, 59, 60, 61, 62, 63, 64, 65, 66, 67, 68, 69, 70, 71, 72] (by decide +kernel) (by decide +kernel)
set_option maxRecDepth 20000 in
theorem gX12_noon_X12_isTable : GoodIn wsX12_noon (wsV RX12 266 RX12 yX12_isTable wsX12_isTable) := goodIn_app (goodIn_of _ (by decide +kernel)) ggX12_noon_X12_isTable
theorem dX12_noon_0 : decode cX12_noon 0 = .ok (.aload_n 0, 1) := by decide +kernel
theorem dX12_noon_1 : decode cX12_noon 1 = .ok (.iload_n 1, 1) := by decide +kernel
theorem dX12_noon_2 : decode cX12_noon 2 = .ok (.invokevirtual 266, 3) := by decide +kernel
theorem dX12_noon_5 : decode cX12_noon 5 = .ok (.ifCond .eq 25, 3) := by decide +kernel
theorem dX12_noon_30 : decode cX12_noon 30 = .ok (.iconst (-1), 1) := by decide +kernel
theorem dX12_noon_31 : decode cX12_noon 31 = .ok (.ireturn, 1) := by decide +kernel
set_option maxRecDepth 20000 in
theorem ggX12_lies_X12_isKeeper : GoodIn wsX12_lies wsX12_isKeeper := goodIn_r _ [6, 7, 8, 9, 5, 10, 11, 12, 13, 14, 15, 16, 17, 18, 19, 20, 21, 22, 23, 24, 25, 26, 27, 28, 29, 30, 31, 32, 33, 34, 35, 36, 37, 38, 39, 40, 41, 42, 43, 44, 45, 46, 47, 48, 49, 50, 51, 52, 53, 54, 55, 56, 57, 58, 59, 60, 61, 62, 63, 64, 65, 66, 67, 68, 69] (by decide +kernel) (by decide +kernel)
set_option maxRecDepth 20000 in
theorem gX12_lies_X12_isKeeper : GoodIn wsX12_lies (wsV RX12 166 RX12 yX12_isKeeper wsX12_isKeeper) := goodIn_app (goodIn_of _ (by decide +kernel)) ggX12_lies_X12_isKeeper
theorem dX12_lies_0 : decode cX12_lies 0 = .ok (.aload_n 0, 1) := by decide +kernel
theorem dX12_lies_1 : decode cX12_lies 1 = .ok (.iload_n 1, 1) := by decide +kernel
theorem dX12_lies_2 : decode cX12_lies 2 = .ok (.invokevirtual 166, 3) := by decide +kernel
theorem dX12_lies_5 : decode cX12_lies 5 = .ok (.ifCond .eq 38, 3) := by decide +kernel
theorem dX12_lies_43 : decode cX12_lies 43 = .ok (.iconst (-1), 1) := by decide +kernel
theorem dX12_lies_44 : decode cX12_lies 44 = .ok (.ireturn, 1) := by decide +kernel
set_option maxRecDepth 20000 in
theorem ggX12_comes_X12_isKeeper : GoodIn wsX12_comes wsX12_isKeeper := goodIn_r _ [7, 8, 9, 10, 6, 11, 16, 17, 18, 19, 20, 21, 22, 23, 24, 25, 26, 27, 28, 29, 30, 31, 32, 33, 34, 35, 36, 37, 38, 39, 40, 41, 42, 43, 44, 45, 46, 47, 48, 49, 50, 51, 52, 53, 54, 55, 56, 57, 58, 59, 60, 61, 62, 63, 64, 65, 66, 67, 68, 69, 70, 71, 72, 73, 74] (by decide +kernel) (by decide +kernel)
set_option maxRecDepth 20000 in
theorem gX12_comes_X12_isKeeper : GoodIn wsX12_comes (wsV RX12 166 RX12 yX12_isKeeper wsX12_isKeeper) := goodIn_app (goodIn_of _ (by decide +kernel)) ggX12_comes_X12_isKeeper
theorem dX12_comes_0 : decode cX12_comes 0 = .ok (.aload_n 0, 1) := by decide +kernel
theorem dX12_comes_1 : decode cX12_comes 1 = .ok (.iload_n 1, 1) := by decide +kernel
theorem dX12_comes_2 : decode cX12_comes 2 = .ok (.invokevirtual 166, 3) := by decide +kernel
theorem dX12_comes_5 : decode cX12_comes 5 = .ok (.ifCond .eq 11, 3) := by decide +kernel
theorem dX12_comes_16 : decode cX12_comes 16 = .ok (.iconst (-1), 1) := by decide +kernel
theorem dX12_comes_17 : decode cX12_comes 17 = .ok (.ireturn, 1) := by decide +kernel
set_option maxRecDepth 20000 in
theorem ggX12_order_X12_isTable : GoodIn wsX12_order wsX12_isTable := goodIn_r _ [12, 13, 14, 15, 11, 16, 150, 151, 152, 153, 154, 155, 156, 157, 158, 159, 160, 161, 162, 163, 164, 165, 166, 167, 168, 169, 170, 171, 172, 173, 174, 175, 176, 177, 178, 179, 180, 181, 182, 183, 184, 185, 186, 187, 188, 189, 190, 191, 192, 193, 194, 195, 196, 197, 198, 199, 200, 201, 202, 203, 204, 205, 206, 207, 208] (by decide +kernel) (by decide +kernel)
set_option maxRecDepth 20000 in
theorem gX12_order_X12_isTable : GoodIn wsX12_order (wsV RX12 266 RX12 yX12_isTable wsX12_isTable) := goodIn_app (goodIn_of _ (by decide +kernel)) ggX12_order_X12_isTable
theorem dX12_order_0 : decode cX12_order 0 = .ok (.aload_n 0, 1) := by decide +kernel
theorem dX12_order_1 : decode cX12_order 1 = .ok (.iload_n 1, 1) := by decide +kernel
theorem dX12_order_2 : decode cX12_order 2 = .ok (.invokevirtual 266, 3) := by decide +kernel
theorem dX12_order_5 : decode cX12_order 5 = .ok (.ifCond .eq 10, 3) := by decide +kernel
theorem dX12_order_15 : decode cX12_order 15 = .ok (.iconst (-1), 1) := by decide +kernel
theorem dX12_order_16 : decode cX12_order 16 = .ok (.ireturn, 1) := by decide +kernel
set_option maxRecDepth 20000 in
theorem ggX12_ordered_X12_in : GoodIn wsX12_ordered wsX12_in := goodIn_r _ [6] (by decide +kernel) (by decide +kernel)
set_option maxRecDepth 20000 in
theorem gX12_ordered_X12_in : GoodIn wsX12_ordered (va_wsS RX12 136 yX12_in wsX12_in) := goodIn_app (goodIn_of _ (by decide +kernel)) ggX12_ordered_X12_in
theorem dX12_ordered_0 : decode cX12_ordered 0 = .ok (.iload_n 1, 1) := by decide +kernel
theorem dX12_ordered_1 : decode cX12_ordered 1 = .ok (.iconst 0, 1) := by decide +kernel
theorem dX12_ordered_2 : decode cX12_ordered 2 = .ok (.aload_n 0, 1) := by decide +kernel
theorem dX12_ordered_3 : decode cX12_ordered 3 = .ok (.getfield 325, 3) := by decide +kernel
theorem dX12_ordered_6 : decode cX12_ordered 6 = .ok (.iconst 1, 1) := by decide +kernel
theorem dX12_ordered_7 : decode cX12_ordered 7 = .ok (.isub, 1) := by decide +kernel
theorem dX12_ordered_8 : decode cX12_ordered 8 = .ok (.invokestatic 136, 3) := by decide +kernel
theorem dX12_ordered_11 : decode cX12_ordered 11 = .ok (.ifCond .eq 12, 3) := by decide +kernel
theorem dX12_ordered_23 : decode cX12_ordered 23 = .ok (.iconst (-1), 1) := by decide +kernel
theorem dX12_ordered_24 : decode cX12_ordered 24 = .ok (.ireturn, 1) := by decide +kernel
theorem dX12_turning_0 : decode cX12_turning 0 = .ok (.aload_n 0, 1) := by decide +kernel
theorem dX12_turning_1 : decode cX12_turning 1 = .ok (.getfield 331, 3) := by decide +kernel
theorem dX12_turning_4 : decode cX12_turning 4 = .ok (.bipush 6, 2) := by decide +kernel
theorem dX12_turning_6 : decode cX12_turning 6 = .ok (.if_icmp .ne 6, 3) := by decide +kernel
theorem dX12_turning_12 : decode cX12_turning 12 = .ok (.aload_n 0, 1) := by decide +kernel
theorem dX12_turning_13 : decode cX12_turning 13 = .ok (.getfield 92, 3) := by decide +kernel
theorem dX12_turning_16 : decode cX12_turning 16 = .ok (.aload_n 0, 1) := by decide +kernel
theorem dX12_turning_17 : decode cX12_turning 17 = .ok (.getfield 331, 3) := by decide +kernel
theorem dX12_turning_20 : decode cX12_turning 20 = .ok (.iload_n 1, 1) := by decide +kernel
theorem dX12_turning_21 : decode cX12_turning 21 = .ok (.iastore, 1) := by decide +kernel
theorem dX12_turning_22 : decode cX12_turning 22 = .ok (.aload_n 0, 1) := by decide +kernel
theorem dX12_turning_23 : decode cX12_turning 23 = .ok (.dup, 1) := by decide +kernel
theorem dX12_turning_24 : decode cX12_turning 24 = .ok (.getfield 331, 3) := by decide +kernel
theorem dX12_turning_27 : decode cX12_turning 27 = .ok (.iconst 1, 1) := by decide +kernel
theorem dX12_turning_28 : decode cX12_turning 28 = .ok (.iadd, 1) := by decide +kernel
theorem dX12_turning_29 : decode cX12_turning 29 = .ok (.putfield 331, 3) := by decide +kernel
theorem dX12_turning_32 : decode cX12_turning 32 = .ok (.aload_n 0, 1) := by decide +kernel
theorem dX12_turning_33 : decode cX12_turning 33 = .ok (.getfield 331, 3) := by decide +kernel
theorem dX12_turning_36 : decode cX12_turning 36 = .ok (.ireturn, 1) := by decide +kernel
set_option maxRecDepth 20000 in
theorem ggX12_harm_X12_isTable : GoodIn wsX12_harm wsX12_isTable := goodIn_r _ [10, 11, 12, 13, 9, 14, 114, 115, 116, 117, 118, 119, 120, 121, 122, 123, 124, 125, 126, 127, 128, 129, 130, 131, 132, 133, 134, 135, 136, 137, 138, 139, 140, 141, 142, 143, 144, 145, 146, 147, 148, 149, 150, 151, 152, 153, 154, 155, 156, 157, 158, 159, 160, 161, 162, 163, 164, 165, 166, 167, 168, 169, 170, 171, 172] (by decide +kernel) (by decide +kernel)
set_option maxRecDepth 20000 in
theorem gX12_harm_X12_isTable : GoodIn wsX12_harm (wsV RX12 266 RX12 yX12_isTable wsX12_isTable) := goodIn_app (goodIn_of _ (by decide +kernel)) ggX12_harm_X12_isTable
theorem dX12_harm_0 : decode cX12_harm 0 = .ok (.aload_n 0, 1) := by decide +kernel
theorem dX12_harm_1 : decode cX12_harm 1 = .ok (.iload_n 1, 1) := by decide +kernel
theorem dX12_harm_2 : decode cX12_harm 2 = .ok (.invokevirtual 266, 3) := by decide +kernel
theorem dX12_harm_5 : decode cX12_harm 5 = .ok (.ifCond .eq 10, 3) := by decide +kernel
theorem dX12_harm_15 : decode cX12_harm 15 = .ok (.iconst (-1), 1) := by decide +kernel
theorem dX12_harm_16 : decode cX12_harm 16 = .ok (.ireturn, 1) := by decide +kernel
theorem dX12_harmed_0 : decode cX12_harmed 0 = .ok (.aload_n 0, 1) := by decide +kernel
theorem dX12_harmed_1 : decode cX12_harmed 1 = .ok (.getfield 95, 3) := by decide +kernel
theorem dX12_harmed_4 : decode cX12_harmed 4 = .ok (.ireturn, 1) := by decide +kernel
set_option maxRecDepth 20000 in
theorem ggX12_act_X12_isKeeper : GoodIn wsX12_act wsX12_isKeeper := goodIn_r _ [7, 8, 9, 10, 6, 11, 37, 38, 39, 40, 41, 42, 43, 44, 45, 46, 47, 48, 49, 50, 51, 52, 53, 54, 55, 56, 57, 58, 59, 60, 61, 62, 63, 64, 65, 66, 67, 68, 69, 70, 71, 72, 73, 74, 75, 76, 77, 78, 79, 80, 81, 82, 83, 84, 85, 86, 87, 88, 89, 90, 91, 92, 93, 94, 95] (by decide +kernel) (by decide +kernel)
set_option maxRecDepth 20000 in
theorem gX12_act_X12_isKeeper : GoodIn wsX12_act (wsV RX12 166 RX12 yX12_isKeeper wsX12_isKeeper) := goodIn_app (goodIn_of _ (by decide +kernel)) ggX12_act_X12_isKeeper
theorem dX12_act_0 : decode cX12_act 0 = .ok (.aload_n 0, 1) := by decide +kernel
theorem dX12_act_1 : decode cX12_act 1 = .ok (.iconst 0, 1) := by decide +kernel
theorem dX12_act_2 : decode cX12_act 2 = .ok (.putfield 334, 3) := by decide +kernel
theorem dX12_act_5 : decode cX12_act 5 = .ok (.aload_n 0, 1) := by decide +kernel
theorem dX12_act_6 : decode cX12_act 6 = .ok (.iload_n 1, 1) := by decide +kernel
theorem dX12_act_7 : decode cX12_act 7 = .ok (.invokevirtual 166, 3) := by decide +kernel
theorem dX12_act_10 : decode cX12_act 10 = .ok (.ifCond .eq 12, 3) := by decide +kernel
theorem dX12_act_22 : decode cX12_act 22 = .ok (.iconst 0, 1) := by decide +kernel
theorem dX12_act_23 : decode cX12_act 23 = .ok (.ireturn, 1) := by decide +kernel
theorem dX12_trace_0 : decode cX12_trace 0 = .ok (.iload_n 1, 1) := by decide +kernel
theorem dX12_trace_1 : decode cX12_trace 1 = .ok (.ifCond .lt 26, 3) := by decide +kernel
theorem dX12_trace_4 : decode cX12_trace 4 = .ok (.iload_n 1, 1) := by decide +kernel
theorem dX12_trace_5 : decode cX12_trace 5 = .ok (.aload_n 0, 1) := by decide +kernel
theorem dX12_trace_6 : decode cX12_trace 6 = .ok (.getfield 334, 3) := by decide +kernel
theorem dX12_trace_9 : decode cX12_trace 9 = .ok (.if_icmp .ge 18, 3) := by decide +kernel
theorem dX12_trace_27 : decode cX12_trace 27 = .ok (.iconst (-1), 1) := by decide +kernel
theorem dX12_trace_28 : decode cX12_trace 28 = .ok (.ireturn, 1) := by decide +kernel
set_option maxRecDepth 20000 in
theorem ggX12_isShelf_X12_in : GoodIn wsX12_isShelf wsX12_in := goodIn_r _ [4] (by decide +kernel) (by decide +kernel)
set_option maxRecDepth 20000 in
theorem gX12_isShelf_X12_in : GoodIn wsX12_isShelf (va_wsS RX12 136 yX12_in wsX12_in) := goodIn_app (goodIn_of _ (by decide +kernel)) ggX12_isShelf_X12_in
theorem dX12_isShelf_0 : decode cX12_isShelf 0 = .ok (.iload_n 0, 1) := by decide +kernel
theorem dX12_isShelf_1 : decode cX12_isShelf 1 = .ok (.iconst 0, 1) := by decide +kernel
theorem dX12_isShelf_2 : decode cX12_isShelf 2 = .ok (.iconst 5, 1) := by decide +kernel
theorem dX12_isShelf_3 : decode cX12_isShelf 3 = .ok (.invokestatic 136, 3) := by decide +kernel
theorem dX12_isShelf_6 : decode cX12_isShelf 6 = .ok (.ireturn, 1) := by decide +kernel
set_option maxRecDepth 20000 in
theorem ggX12_keep_X12_isShelf : GoodIn wsX12_keep wsX12_isShelf := goodIn_r _ [6, 7, 8, 5, 9] (by decide +kernel) (by decide +kernel)
set_option maxRecDepth 20000 in
theorem gX12_keep_X12_isShelf : GoodIn wsX12_keep (va_wsS RX12 355 yX12_isShelf wsX12_isShelf) := goodIn_app (goodIn_of _ (by decide +kernel)) ggX12_keep_X12_isShelf
set_option maxRecDepth 20000 in
theorem ggX12_keep_X12_isKeeper : GoodIn wsX12_keep wsX12_isKeeper := goodIn_r _ [13, 14, 7, 8, 5, 9, 15, 16, 17, 18, 19, 20, 21, 22, 23, 24, 25, 26, 27, 28, 29, 30, 31, 32, 33, 34, 35, 36, 37, 38, 39, 40, 41, 42, 43, 44, 45, 46, 47, 48, 49, 50, 51, 52, 53, 54, 55, 56, 57, 58, 59, 60, 61, 62, 63, 64, 65, 66, 67, 68, 69, 70, 71, 72, 73] (by decide +kernel) (by decide +kernel)
set_option maxRecDepth 20000 in
theorem gX12_keep_X12_isKeeper : GoodIn wsX12_keep (wsV RX12 166 RX12 yX12_isKeeper wsX12_isKeeper) := goodIn_app (goodIn_of _ (by decide +kernel)) ggX12_keep_X12_isKeeper
theorem dX12_keep_0 : decode cX12_keep 0 = .ok (.iload_n 1, 1) := by decide +kernel
theorem dX12_keep_1 : decode cX12_keep 1 = .ok (.invokestatic 355, 3) := by decide +kernel
theorem dX12_keep_4 : decode cX12_keep 4 = .ok (.ifCond .eq 16, 3) := by decide +kernel
theorem dX12_keep_7 : decode cX12_keep 7 = .ok (.iload_n 2, 1) := by decide +kernel
theorem dX12_keep_8 : decode cX12_keep 8 = .ok (.iconst (-1), 1) := by decide +kernel
theorem dX12_keep_9 : decode cX12_keep 9 = .ok (.if_icmp .eq 13, 3) := by decide +kernel
theorem dX12_keep_12 : decode cX12_keep 12 = .ok (.aload_n 0, 1) := by decide +kernel
theorem dX12_keep_13 : decode cX12_keep 13 = .ok (.iload_n 2, 1) := by decide +kernel
theorem dX12_keep_14 : decode cX12_keep 14 = .ok (.invokevirtual 166, 3) := by decide +kernel
theorem dX12_keep_17 : decode cX12_keep 17 = .ok (.ifCond .ne 5, 3) := by decide +kernel
theorem dX12_keep_20 : decode cX12_keep 20 = .ok (.iconst (-1), 1) := by decide +kernel
theorem dX12_keep_21 : decode cX12_keep 21 = .ok (.ireturn, 1) := by decide +kernel
theorem dX12_keep_22 : decode cX12_keep 22 = .ok (.aload_n 0, 1) := by decide +kernel
theorem dX12_keep_23 : decode cX12_keep 23 = .ok (.getfield 102, 3) := by decide +kernel
theorem dX12_keep_26 : decode cX12_keep 26 = .ok (.iload_n 1, 1) := by decide +kernel
theorem dX12_keep_27 : decode cX12_keep 27 = .ok (.iload_n 2, 1) := by decide +kernel
theorem dX12_keep_28 : decode cX12_keep 28 = .ok (.iastore, 1) := by decide +kernel
theorem dX12_keep_29 : decode cX12_keep 29 = .ok (.aload_n 0, 1) := by decide +kernel
theorem dX12_keep_30 : decode cX12_keep 30 = .ok (.getfield 105, 3) := by decide +kernel
theorem dX12_keep_33 : decode cX12_keep 33 = .ok (.iload_n 1, 1) := by decide +kernel
theorem dX12_keep_34 : decode cX12_keep 34 = .ok (.iconst (-1), 1) := by decide +kernel
theorem dX12_keep_35 : decode cX12_keep 35 = .ok (.iastore, 1) := by decide +kernel
theorem dX12_keep_36 : decode cX12_keep 36 = .ok (.iconst 1, 1) := by decide +kernel
theorem dX12_keep_37 : decode cX12_keep 37 = .ok (.ireturn, 1) := by decide +kernel
set_option maxRecDepth 20000 in
theorem ggX12_row_X12_isShelf : GoodIn wsX12_row wsX12_isShelf := goodIn_r _ [8, 9, 10, 7, 11] (by decide +kernel) (by decide +kernel)
set_option maxRecDepth 20000 in
theorem gX12_row_X12_isShelf : GoodIn wsX12_row (va_wsS RX12 355 yX12_isShelf wsX12_isShelf) := goodIn_app (goodIn_of _ (by decide +kernel)) ggX12_row_X12_isShelf
set_option maxRecDepth 20000 in
theorem ggX12_row_X12_in : GoodIn wsX12_row wsX12_in := goodIn_r _ [11] (by decide +kernel) (by decide +kernel)
set_option maxRecDepth 20000 in
theorem gX12_row_X12_in : GoodIn wsX12_row (va_wsS RX12 136 yX12_in wsX12_in) := goodIn_app (goodIn_of _ (by decide +kernel)) ggX12_row_X12_in
theorem dX12_row_0 : decode cX12_row 0 = .ok (.iload_n 1, 1) := by decide +kernel
theorem dX12_row_1 : decode cX12_row 1 = .ok (.invokestatic 355, 3) := by decide +kernel
theorem dX12_row_4 : decode cX12_row 4 = .ok (.ifCond .eq 18, 3) := by decide +kernel
theorem dX12_row_7 : decode cX12_row 7 = .ok (.iload_n 2, 1) := by decide +kernel
theorem dX12_row_8 : decode cX12_row 8 = .ok (.iconst 0, 1) := by decide +kernel
theorem dX12_row_9 : decode cX12_row 9 = .ok (.iconst 4, 1) := by decide +kernel
theorem dX12_row_10 : decode cX12_row 10 = .ok (.invokestatic 136, 3) := by decide +kernel
theorem dX12_row_13 : decode cX12_row 13 = .ok (.ifCond .eq 9, 3) := by decide +kernel
theorem dX12_row_16 : decode cX12_row 16 = .ok (.iload_n 3, 1) := by decide +kernel
theorem dX12_row_17 : decode cX12_row 17 = .ok (.bipush 60, 2) := by decide +kernel
theorem dX12_row_19 : decode cX12_row 19 = .ok (.if_icmp .le 5, 3) := by decide +kernel
theorem dX12_row_22 : decode cX12_row 22 = .ok (.iconst (-1), 1) := by decide +kernel
theorem dX12_row_23 : decode cX12_row 23 = .ok (.ireturn, 1) := by decide +kernel
theorem dX12_row_24 : decode cX12_row 24 = .ok (.iload_n 3, 1) := by decide +kernel
theorem dX12_row_25 : decode cX12_row 25 = .ok (.ifCond .ge 6, 3) := by decide +kernel
theorem dX12_row_28 : decode cX12_row 28 = .ok (.bipush (-14), 2) := by decide +kernel
theorem dX12_row_30 : decode cX12_row 30 = .ok (.ireturn, 1) := by decide +kernel
theorem dX12_row_31 : decode cX12_row 31 = .ok (.aload_n 0, 1) := by decide +kernel
theorem dX12_row_32 : decode cX12_row 32 = .ok (.getfield 102, 3) := by decide +kernel
theorem dX12_row_35 : decode cX12_row 35 = .ok (.iload_n 1, 1) := by decide +kernel
theorem dX12_row_36 : decode cX12_row 36 = .ok (.iconst (-1), 1) := by decide +kernel
theorem dX12_row_37 : decode cX12_row 37 = .ok (.iastore, 1) := by decide +kernel
theorem dX12_row_38 : decode cX12_row 38 = .ok (.aload_n 0, 1) := by decide +kernel
theorem dX12_row_39 : decode cX12_row 39 = .ok (.getfield 105, 3) := by decide +kernel
theorem dX12_row_42 : decode cX12_row 42 = .ok (.iload_n 1, 1) := by decide +kernel
theorem dX12_row_43 : decode cX12_row 43 = .ok (.iload_n 2, 1) := by decide +kernel
theorem dX12_row_44 : decode cX12_row 44 = .ok (.iastore, 1) := by decide +kernel
theorem dX12_row_45 : decode cX12_row 45 = .ok (.aload_n 0, 1) := by decide +kernel
theorem dX12_row_46 : decode cX12_row 46 = .ok (.getfield 108, 3) := by decide +kernel
theorem dX12_row_49 : decode cX12_row 49 = .ok (.iload_n 1, 1) := by decide +kernel
theorem dX12_row_50 : decode cX12_row 50 = .ok (.iload_n 3, 1) := by decide +kernel
theorem dX12_row_51 : decode cX12_row 51 = .ok (.iastore, 1) := by decide +kernel
theorem dX12_row_52 : decode cX12_row 52 = .ok (.iconst 0, 1) := by decide +kernel
theorem dX12_row_53 : decode cX12_row 53 = .ok (.istore 4, 2) := by decide +kernel
theorem dX12_row_55 : decode cX12_row 55 = .ok (.iload 4, 2) := by decide +kernel
theorem dX12_row_57 : decode cX12_row 57 = .ok (.bipush 60, 2) := by decide +kernel
theorem dX12_row_59 : decode cX12_row 59 = .ok (.if_icmp .ge 22, 3) := by decide +kernel
theorem dX12_row_62 : decode cX12_row 62 = .ok (.aload_n 0, 1) := by decide +kernel
theorem dX12_row_63 : decode cX12_row 63 = .ok (.getfield 111, 3) := by decide +kernel
theorem dX12_row_66 : decode cX12_row 66 = .ok (.bipush 60, 2) := by decide +kernel
theorem dX12_row_68 : decode cX12_row 68 = .ok (.iload_n 1, 1) := by decide +kernel
theorem dX12_row_69 : decode cX12_row 69 = .ok (.imul, 1) := by decide +kernel
theorem dX12_row_70 : decode cX12_row 70 = .ok (.iload 4, 2) := by decide +kernel
theorem dX12_row_72 : decode cX12_row 72 = .ok (.iadd, 1) := by decide +kernel
theorem dX12_row_73 : decode cX12_row 73 = .ok (.lconst 0, 1) := by decide +kernel
theorem dX12_row_74 : decode cX12_row 74 = .ok (.lastore, 1) := by decide +kernel
theorem dX12_row_75 : decode cX12_row 75 = .ok (.iinc 4 1, 3) := by decide +kernel
theorem dX12_row_78 : decode cX12_row 78 = .ok (.goto (-23), 3) := by decide +kernel
theorem dX12_row_81 : decode cX12_row 81 = .ok (.iconst 1, 1) := by decide +kernel
theorem dX12_row_82 : decode cX12_row 82 = .ok (.ireturn, 1) := by decide +kernel
set_option maxRecDepth 20000 in
theorem ggX12_barred_X12_isShelf : GoodIn wsX12_barred wsX12_isShelf := goodIn_r _ [7, 8, 9, 6, 10] (by decide +kernel) (by decide +kernel)
set_option maxRecDepth 20000 in
theorem gX12_barred_X12_isShelf : GoodIn wsX12_barred (va_wsS RX12 355 yX12_isShelf wsX12_isShelf) := goodIn_app (goodIn_of _ (by decide +kernel)) ggX12_barred_X12_isShelf
theorem dX12_barred_0 : decode cX12_barred 0 = .ok (.iload_n 1, 1) := by decide +kernel
theorem dX12_barred_1 : decode cX12_barred 1 = .ok (.invokestatic 355, 3) := by decide +kernel
theorem dX12_barred_4 : decode cX12_barred 4 = .ok (.ifCond .ne 5, 3) := by decide +kernel
theorem dX12_barred_7 : decode cX12_barred 7 = .ok (.iconst (-1), 1) := by decide +kernel
theorem dX12_barred_8 : decode cX12_barred 8 = .ok (.ireturn, 1) := by decide +kernel
theorem dX12_barred_9 : decode cX12_barred 9 = .ok (.aload_n 0, 1) := by decide +kernel
theorem dX12_barred_10 : decode cX12_barred 10 = .ok (.getfield 105, 3) := by decide +kernel
theorem dX12_barred_13 : decode cX12_barred 13 = .ok (.iload_n 1, 1) := by decide +kernel
theorem dX12_barred_14 : decode cX12_barred 14 = .ok (.iaload, 1) := by decide +kernel
theorem dX12_barred_15 : decode cX12_barred 15 = .ok (.ifCond .ge 20, 3) := by decide +kernel
theorem dX12_barred_18 : decode cX12_barred 18 = .ok (.aload_n 0, 1) := by decide +kernel
theorem dX12_barred_19 : decode cX12_barred 19 = .ok (.getfield 102, 3) := by decide +kernel
theorem dX12_barred_22 : decode cX12_barred 22 = .ok (.iload_n 1, 1) := by decide +kernel
theorem dX12_barred_23 : decode cX12_barred 23 = .ok (.iaload, 1) := by decide +kernel
theorem dX12_barred_24 : decode cX12_barred 24 = .ok (.ifCond .ge 8, 3) := by decide +kernel
theorem dX12_barred_27 : decode cX12_barred 27 = .ok (.bipush (-11), 2) := by decide +kernel
theorem dX12_barred_29 : decode cX12_barred 29 = .ok (.goto 5, 3) := by decide +kernel
theorem dX12_barred_34 : decode cX12_barred 34 = .ok (.ireturn, 1) := by decide +kernel
set_option maxRecDepth 20000 in
theorem ggX12_put_X12_barred : GoodIn wsX12_put wsX12_barred := goodIn_r _ [7, 1, 8, 9, 10, 11, 6, 12, 13, 14, 15, 16, 17, 18, 19, 20, 21, 22, 23, 24, 25, 26, 27, 28, 29, 30, 31, 32, 33, 34, 35, 36, 37, 38, 39, 40, 41, 42, 43, 44, 45, 46, 47, 48, 49, 50, 51, 52, 53, 54, 55, 56, 57, 58, 59, 60, 61, 62, 63, 64, 65, 66, 67, 68, 69, 70, 71, 72, 73, 74] (by decide +kernel) (by decide +kernel)
set_option maxRecDepth 20000 in
theorem gX12_put_X12_barred : GoodIn wsX12_put (wsV RX12 358 RX12 yX12_barred wsX12_barred) := goodIn_app (goodIn_of _ (by decide +kernel)) ggX12_put_X12_barred
theorem dX12_put_0 : decode cX12_put 0 = .ok (.aload_n 0, 1) := by decide +kernel
theorem dX12_put_1 : decode cX12_put 1 = .ok (.iload_n 1, 1) := by decide +kernel
theorem dX12_put_2 : decode cX12_put 2 = .ok (.iload_n 2, 1) := by decide +kernel
theorem dX12_put_3 : decode cX12_put 3 = .ok (.invokevirtual 358, 3) := by decide +kernel
theorem dX12_put_6 : decode cX12_put 6 = .ok (.istore 5, 2) := by decide +kernel
theorem dX12_put_8 : decode cX12_put 8 = .ok (.iload 5, 2) := by decide +kernel
theorem dX12_put_10 : decode cX12_put 10 = .ok (.ifCond .eq 6, 3) := by decide +kernel
theorem dX12_put_13 : decode cX12_put 13 = .ok (.iload 5, 2) := by decide +kernel
theorem dX12_put_15 : decode cX12_put 15 = .ok (.ireturn, 1) := by decide +kernel
set_option maxRecDepth 20000 in
theorem ggX12_element_X12_barred : GoodIn wsX12_element wsX12_barred := goodIn_r _ [7, 8, 9, 10, 11, 12, 6, 13, 14, 15, 16, 17, 18, 19, 20, 21, 22, 23, 24, 25, 26, 27, 28, 29, 30, 31, 32, 33, 34, 35, 36, 37, 38, 39, 40, 41, 42, 43, 44, 45, 46, 47, 48, 49, 50, 51, 52, 53, 54, 55, 56, 57, 58, 59, 60, 61, 62, 63, 64, 65, 66, 67, 68, 69, 70, 71, 72, 73, 74, 75] (by decide +kernel) (by decide +kernel)
set_option maxRecDepth 20000 in
theorem gX12_element_X12_barred : GoodIn wsX12_element (wsV RX12 358 RX12 yX12_barred wsX12_barred) := goodIn_app (goodIn_of _ (by decide +kernel)) ggX12_element_X12_barred
theorem dX12_element_0 : decode cX12_element 0 = .ok (.aload_n 0, 1) := by decide +kernel
theorem dX12_element_1 : decode cX12_element 1 = .ok (.iload_n 1, 1) := by decide +kernel
theorem dX12_element_2 : decode cX12_element 2 = .ok (.iload_n 2, 1) := by decide +kernel
theorem dX12_element_3 : decode cX12_element 3 = .ok (.invokevirtual 358, 3) := by decide +kernel
theorem dX12_element_6 : decode cX12_element 6 = .ok (.ifCond .eq 9, 3) := by decide +kernel
theorem dX12_element_9 : decode cX12_element 9 = .ok (.ldc2_w 361, 3) := by decide +kernel
theorem dX12_element_12 : decode cX12_element 12 = .ok (.goto 14, 3) := by decide +kernel
theorem dX12_element_26 : decode cX12_element 26 = .ok (.lreturn, 1) := by decide +kernel
set_option maxRecDepth 20000 in
theorem ggX12_shift_X12_isShelf : GoodIn wsX12_shift wsX12_isShelf := goodIn_r _ [8, 9, 10, 7, 11] (by decide +kernel) (by decide +kernel)
set_option maxRecDepth 20000 in
theorem gX12_shift_X12_isShelf : GoodIn wsX12_shift (va_wsS RX12 355 yX12_isShelf wsX12_isShelf) := goodIn_app (goodIn_of _ (by decide +kernel)) ggX12_shift_X12_isShelf
theorem dX12_shift_0 : decode cX12_shift 0 = .ok (.iload_n 1, 1) := by decide +kernel
theorem dX12_shift_1 : decode cX12_shift 1 = .ok (.invokestatic 355, 3) := by decide +kernel
theorem dX12_shift_4 : decode cX12_shift 4 = .ok (.ifCond .eq 10, 3) := by decide +kernel
theorem dX12_shift_7 : decode cX12_shift 7 = .ok (.iload_n 3, 1) := by decide +kernel
theorem dX12_shift_8 : decode cX12_shift 8 = .ok (.invokestatic 355, 3) := by decide +kernel
theorem dX12_shift_11 : decode cX12_shift 11 = .ok (.ifCond .ne 5, 3) := by decide +kernel
theorem dX12_shift_14 : decode cX12_shift 14 = .ok (.iconst (-1), 1) := by decide +kernel
theorem dX12_shift_15 : decode cX12_shift 15 = .ok (.ireturn, 1) := by decide +kernel
theorem dX12_shift_16 : decode cX12_shift 16 = .ok (.aload_n 0, 1) := by decide +kernel
theorem dX12_shift_17 : decode cX12_shift 17 = .ok (.getfield 105, 3) := by decide +kernel
theorem dX12_shift_20 : decode cX12_shift 20 = .ok (.iload_n 1, 1) := by decide +kernel
theorem dX12_shift_21 : decode cX12_shift 21 = .ok (.iaload, 1) := by decide +kernel
theorem dX12_shift_22 : decode cX12_shift 22 = .ok (.ifCond .ge 12, 3) := by decide +kernel
theorem dX12_shift_25 : decode cX12_shift 25 = .ok (.aload_n 0, 1) := by decide +kernel
theorem dX12_shift_26 : decode cX12_shift 26 = .ok (.getfield 102, 3) := by decide +kernel
theorem dX12_shift_29 : decode cX12_shift 29 = .ok (.iload_n 1, 1) := by decide +kernel
theorem dX12_shift_30 : decode cX12_shift 30 = .ok (.iaload, 1) := by decide +kernel
theorem dX12_shift_31 : decode cX12_shift 31 = .ok (.ifCond .lt 21, 3) := by decide +kernel
theorem dX12_shift_52 : decode cX12_shift 52 = .ok (.bipush (-11), 2) := by decide +kernel
theorem dX12_shift_54 : decode cX12_shift 54 = .ok (.ireturn, 1) := by decide +kernel
set_option maxRecDepth 20000 in
theorem ggX12_taken_X12_isShelf : GoodIn wsX12_taken wsX12_isShelf := goodIn_r _ [7, 8, 9, 6, 10] (by decide +kernel) (by decide +kernel)
set_option maxRecDepth 20000 in
theorem gX12_taken_X12_isShelf : GoodIn wsX12_taken (va_wsS RX12 355 yX12_isShelf wsX12_isShelf) := goodIn_app (goodIn_of _ (by decide +kernel)) ggX12_taken_X12_isShelf
set_option maxRecDepth 20000 in
theorem ggX12_taken_X12_in : GoodIn wsX12_taken wsX12_in := goodIn_r _ [10] (by decide +kernel) (by decide +kernel)
set_option maxRecDepth 20000 in
theorem gX12_taken_X12_in : GoodIn wsX12_taken (va_wsS RX12 136 yX12_in wsX12_in) := goodIn_app (goodIn_of _ (by decide +kernel)) ggX12_taken_X12_in
theorem dX12_taken_0 : decode cX12_taken 0 = .ok (.iload_n 1, 1) := by decide +kernel
theorem dX12_taken_1 : decode cX12_taken 1 = .ok (.invokestatic 355, 3) := by decide +kernel
theorem dX12_taken_4 : decode cX12_taken 4 = .ok (.ifCond .eq 13, 3) := by decide +kernel
theorem dX12_taken_7 : decode cX12_taken 7 = .ok (.iload_n 2, 1) := by decide +kernel
theorem dX12_taken_8 : decode cX12_taken 8 = .ok (.iconst 0, 1) := by decide +kernel
theorem dX12_taken_9 : decode cX12_taken 9 = .ok (.bipush 6, 2) := by decide +kernel
theorem dX12_taken_11 : decode cX12_taken 11 = .ok (.invokestatic 136, 3) := by decide +kernel
theorem dX12_taken_14 : decode cX12_taken 14 = .ok (.ifCond .ne 5, 3) := by decide +kernel
theorem dX12_taken_17 : decode cX12_taken 17 = .ok (.iconst (-1), 1) := by decide +kernel
theorem dX12_taken_18 : decode cX12_taken 18 = .ok (.ireturn, 1) := by decide +kernel
theorem dX12_taken_19 : decode cX12_taken 19 = .ok (.aload_n 0, 1) := by decide +kernel
theorem dX12_taken_20 : decode cX12_taken 20 = .ok (.getfield 105, 3) := by decide +kernel
theorem dX12_taken_23 : decode cX12_taken 23 = .ok (.iload_n 1, 1) := by decide +kernel
theorem dX12_taken_24 : decode cX12_taken 24 = .ok (.iaload, 1) := by decide +kernel
theorem dX12_taken_25 : decode cX12_taken 25 = .ok (.ifCond .ge 15, 3) := by decide +kernel
theorem dX12_taken_28 : decode cX12_taken 28 = .ok (.aload_n 0, 1) := by decide +kernel
theorem dX12_taken_29 : decode cX12_taken 29 = .ok (.getfield 102, 3) := by decide +kernel
theorem dX12_taken_32 : decode cX12_taken 32 = .ok (.iload_n 1, 1) := by decide +kernel
theorem dX12_taken_33 : decode cX12_taken 33 = .ok (.iaload, 1) := by decide +kernel
theorem dX12_taken_34 : decode cX12_taken 34 = .ok (.ifCond .ge 6, 3) := by decide +kernel
theorem dX12_taken_37 : decode cX12_taken 37 = .ok (.bipush (-11), 2) := by decide +kernel
theorem dX12_taken_39 : decode cX12_taken 39 = .ok (.ireturn, 1) := by decide +kernel
set_option maxRecDepth 20000 in
theorem ggX12_names_X12_isShelf : GoodIn wsX12_names wsX12_isShelf := goodIn_r _ [10, 11, 12, 9, 13] (by decide +kernel) (by decide +kernel)
set_option maxRecDepth 20000 in
theorem gX12_names_X12_isShelf : GoodIn wsX12_names (va_wsS RX12 355 yX12_isShelf wsX12_isShelf) := goodIn_app (goodIn_of _ (by decide +kernel)) ggX12_names_X12_isShelf
set_option maxRecDepth 20000 in
theorem ggX12_names_X12_in : GoodIn wsX12_names wsX12_in := goodIn_r _ [13] (by decide +kernel) (by decide +kernel)
set_option maxRecDepth 20000 in
theorem gX12_names_X12_in : GoodIn wsX12_names (va_wsS RX12 136 yX12_in wsX12_in) := goodIn_app (goodIn_of _ (by decide +kernel)) ggX12_names_X12_in
theorem dX12_names_0 : decode cX12_names 0 = .ok (.iload_n 1, 1) := by decide +kernel
theorem dX12_names_1 : decode cX12_names 1 = .ok (.invokestatic 355, 3) := by decide +kernel
theorem dX12_names_4 : decode cX12_names 4 = .ok (.ifCond .eq 13, 3) := by decide +kernel
theorem dX12_names_7 : decode cX12_names 7 = .ok (.iload_n 3, 1) := by decide +kernel
theorem dX12_names_8 : decode cX12_names 8 = .ok (.iconst 1, 1) := by decide +kernel
theorem dX12_names_9 : decode cX12_names 9 = .ok (.bipush 20, 2) := by decide +kernel
theorem dX12_names_11 : decode cX12_names 11 = .ok (.invokestatic 136, 3) := by decide +kernel
theorem dX12_names_14 : decode cX12_names 14 = .ok (.ifCond .ne 5, 3) := by decide +kernel
theorem dX12_names_17 : decode cX12_names 17 = .ok (.iconst (-1), 1) := by decide +kernel
theorem dX12_names_18 : decode cX12_names 18 = .ok (.ireturn, 1) := by decide +kernel
theorem dX12_names_19 : decode cX12_names 19 = .ok (.aload_n 0, 1) := by decide +kernel
theorem dX12_names_20 : decode cX12_names 20 = .ok (.getfield 102, 3) := by decide +kernel
theorem dX12_names_23 : decode cX12_names 23 = .ok (.iload_n 1, 1) := by decide +kernel
theorem dX12_names_24 : decode cX12_names 24 = .ok (.iaload, 1) := by decide +kernel
theorem dX12_names_25 : decode cX12_names 25 = .ok (.ifCond .ge 12, 3) := by decide +kernel
theorem dX12_names_28 : decode cX12_names 28 = .ok (.aload_n 0, 1) := by decide +kernel
theorem dX12_names_29 : decode cX12_names 29 = .ok (.getfield 105, 3) := by decide +kernel
theorem dX12_names_32 : decode cX12_names 32 = .ok (.iload_n 1, 1) := by decide +kernel
theorem dX12_names_33 : decode cX12_names 33 = .ok (.iaload, 1) := by decide +kernel
theorem dX12_names_34 : decode cX12_names 34 = .ok (.ifCond .le 6, 3) := by decide +kernel
theorem dX12_names_40 : decode cX12_names 40 = .ok (.aload_n 0, 1) := by decide +kernel
theorem dX12_names_41 : decode cX12_names 41 = .ok (.getfield 105, 3) := by decide +kernel
theorem dX12_names_44 : decode cX12_names 44 = .ok (.iload_n 1, 1) := by decide +kernel
theorem dX12_names_45 : decode cX12_names 45 = .ok (.iaload, 1) := by decide +kernel
theorem dX12_names_46 : decode cX12_names 46 = .ok (.ifCond .ne 12, 3) := by decide +kernel
theorem dX12_names_58 : decode cX12_names 58 = .ok (.iconst 0, 1) := by decide +kernel
theorem dX12_names_59 : decode cX12_names 59 = .ok (.istore 4, 2) := by decide +kernel
theorem dX12_names_61 : decode cX12_names 61 = .ok (.iload_n 2, 1) := by decide +kernel
theorem dX12_names_62 : decode cX12_names 62 = .ok (.ifCond .ge 8, 3) := by decide +kernel
theorem dX12_names_65 : decode cX12_names 65 = .ok (.iload 4, 2) := by decide +kernel
theorem dX12_names_67 : decode cX12_names 67 = .ok (.goto 4, 3) := by decide +kernel
theorem dX12_names_70 : decode cX12_names 70 = .ok (.iload_n 2, 1) := by decide +kernel
theorem dX12_names_71 : decode cX12_names 71 = .ok (.istore 5, 2) := by decide +kernel
theorem dX12_names_73 : decode cX12_names 73 = .ok (.iconst 0, 1) := by decide +kernel
theorem dX12_names_74 : decode cX12_names 74 = .ok (.istore 6, 2) := by decide +kernel
theorem dX12_names_76 : decode cX12_names 76 = .ok (.iconst 1, 1) := by decide +kernel
theorem dX12_names_77 : decode cX12_names 77 = .ok (.istore 7, 2) := by decide +kernel
theorem dX12_names_79 : decode cX12_names 79 = .ok (.iconst 0, 1) := by decide +kernel
theorem dX12_names_80 : decode cX12_names 80 = .ok (.istore 8, 2) := by decide +kernel
theorem dX12_names_82 : decode cX12_names 82 = .ok (.iload 8, 2) := by decide +kernel
theorem dX12_names_84 : decode cX12_names 84 = .ok (.iload_n 3, 1) := by decide +kernel
theorem dX12_names_85 : decode cX12_names 85 = .ok (.if_icmp .ge 202, 3) := by decide +kernel
theorem dX12_names_88 : decode cX12_names 88 = .ok (.iload 7, 2) := by decide +kernel
theorem dX12_names_90 : decode cX12_names 90 = .ok (.ifCond .eq 197, 3) := by decide +kernel
theorem dX12_names_93 : decode cX12_names 93 = .ok (.iload 5, 2) := by decide +kernel
theorem dX12_names_95 : decode cX12_names 95 = .ok (.iload 4, 2) := by decide +kernel
theorem dX12_names_97 : decode cX12_names 97 = .ok (.if_icmp .ge 19, 3) := by decide +kernel
theorem dX12_names_116 : decode cX12_names 116 = .ok (.iconst 0, 1) := by decide +kernel
theorem dX12_names_117 : decode cX12_names 117 = .ok (.istore 9, 2) := by decide +kernel
theorem dX12_names_119 : decode cX12_names 119 = .ok (.iload 9, 2) := by decide +kernel
theorem dX12_names_121 : decode cX12_names 121 = .ok (.iconst 1, 1) := by decide +kernel
theorem dX12_names_122 : decode cX12_names 122 = .ok (.bipush 6, 2) := by decide +kernel
theorem dX12_names_124 : decode cX12_names 124 = .ok (.invokestatic 136, 3) := by decide +kernel
theorem dX12_names_127 : decode cX12_names 127 = .ok (.ifCond .eq 17, 3) := by decide +kernel
theorem dX12_names_144 : decode cX12_names 144 = .ok (.iconst 0, 1) := by decide +kernel
theorem dX12_names_145 : decode cX12_names 145 = .ok (.istore 7, 2) := by decide +kernel
theorem dX12_names_147 : decode cX12_names 147 = .ok (.iconst 0, 1) := by decide +kernel
theorem dX12_names_148 : decode cX12_names 148 = .ok (.istore 10, 2) := by decide +kernel
theorem dX12_names_150 : decode cX12_names 150 = .ok (.iload 10, 2) := by decide +kernel
theorem dX12_names_152 : decode cX12_names 152 = .ok (.iload 9, 2) := by decide +kernel
theorem dX12_names_154 : decode cX12_names 154 = .ok (.if_icmp .ge 43, 3) := by decide +kernel
theorem dX12_names_197 : decode cX12_names 197 = .ok (.iload 7, 2) := by decide +kernel
theorem dX12_names_199 : decode cX12_names 199 = .ok (.ifCond .eq 16, 3) := by decide +kernel
theorem dX12_names_215 : decode cX12_names 215 = .ok (.iconst 0, 1) := by decide +kernel
theorem dX12_names_216 : decode cX12_names 216 = .ok (.istore 10, 2) := by decide +kernel
theorem dX12_names_218 : decode cX12_names 218 = .ok (.iload 7, 2) := by decide +kernel
theorem dX12_names_220 : decode cX12_names 220 = .ok (.ifCond .eq 21, 3) := by decide +kernel
theorem dX12_names_241 : decode cX12_names 241 = .ok (.iconst 0, 1) := by decide +kernel
theorem dX12_names_242 : decode cX12_names 242 = .ok (.istore 7, 2) := by decide +kernel
theorem dX12_names_244 : decode cX12_names 244 = .ok (.iload 7, 2) := by decide +kernel
theorem dX12_names_246 : decode cX12_names 246 = .ok (.ifCond .eq 17, 3) := by decide +kernel
theorem dX12_names_263 : decode cX12_names 263 = .ok (.iload 5, 2) := by decide +kernel
theorem dX12_names_265 : decode cX12_names 265 = .ok (.iload 7, 2) := by decide +kernel
theorem dX12_names_267 : decode cX12_names 267 = .ok (.ifCond .eq 10, 3) := by decide +kernel
theorem dX12_names_277 : decode cX12_names 277 = .ok (.iconst 0, 1) := by decide +kernel
theorem dX12_names_278 : decode cX12_names 278 = .ok (.iadd, 1) := by decide +kernel
theorem dX12_names_279 : decode cX12_names 279 = .ok (.istore 5, 2) := by decide +kernel
theorem dX12_names_281 : decode cX12_names 281 = .ok (.iinc 8 1, 3) := by decide +kernel
theorem dX12_names_284 : decode cX12_names 284 = .ok (.goto (-202), 3) := by decide +kernel
theorem dX12_names_287 : decode cX12_names 287 = .ok (.iload 6, 2) := by decide +kernel
theorem dX12_names_289 : decode cX12_names 289 = .ok (.ireturn, 1) := by decide +kernel
theorem dX12_count_0 : decode cX12_count 0 = .ok (.iconst 0, 1) := by decide +kernel
theorem dX12_count_1 : decode cX12_count 1 = .ok (.istore_n 2, 1) := by decide +kernel
theorem dX12_count_2 : decode cX12_count 2 = .ok (.iload_n 1, 1) := by decide +kernel
theorem dX12_count_3 : decode cX12_count 3 = .ok (.tableswitch 111 0 7 #[45, 50, 55, 60, 65, 65, 101, 106], 45) := by decide +kernel
theorem dX12_count_48 : decode cX12_count 48 = .ok (.aload_n 0, 1) := by decide +kernel
theorem dX12_count_49 : decode cX12_count 49 = .ok (.getfield 133, 3) := by decide +kernel
theorem dX12_count_52 : decode cX12_count 52 = .ok (.ireturn, 1) := by decide +kernel
theorem dX12_count_53 : decode cX12_count 53 = .ok (.aload_n 0, 1) := by decide +kernel
theorem dX12_count_54 : decode cX12_count 54 = .ok (.getfield 140, 3) := by decide +kernel
theorem dX12_count_57 : decode cX12_count 57 = .ok (.ireturn, 1) := by decide +kernel
theorem dX12_count_58 : decode cX12_count 58 = .ok (.aload_n 0, 1) := by decide +kernel
theorem dX12_count_59 : decode cX12_count 59 = .ok (.getfield 143, 3) := by decide +kernel
theorem dX12_count_62 : decode cX12_count 62 = .ok (.ireturn, 1) := by decide +kernel
theorem dX12_count_63 : decode cX12_count 63 = .ok (.aload_n 0, 1) := by decide +kernel
theorem dX12_count_64 : decode cX12_count 64 = .ok (.getfield 146, 3) := by decide +kernel
theorem dX12_count_67 : decode cX12_count 67 = .ok (.ireturn, 1) := by decide +kernel
theorem dX12_count_68 : decode cX12_count 68 = .ok (.iconst 0, 1) := by decide +kernel
theorem dX12_count_69 : decode cX12_count 69 = .ok (.istore_n 3, 1) := by decide +kernel
theorem dX12_count_70 : decode cX12_count 70 = .ok (.iload_n 3, 1) := by decide +kernel
theorem dX12_count_71 : decode cX12_count 71 = .ok (.aload_n 0, 1) := by decide +kernel
theorem dX12_count_72 : decode cX12_count 72 = .ok (.getfield 140, 3) := by decide +kernel
theorem dX12_count_75 : decode cX12_count 75 = .ok (.if_icmp .ge 27, 3) := by decide +kernel
theorem dX12_count_102 : decode cX12_count 102 = .ok (.iload_n 2, 1) := by decide +kernel
theorem dX12_count_103 : decode cX12_count 103 = .ok (.ireturn, 1) := by decide +kernel
theorem dX12_count_104 : decode cX12_count 104 = .ok (.aload_n 0, 1) := by decide +kernel
theorem dX12_count_105 : decode cX12_count 105 = .ok (.getfield 290, 3) := by decide +kernel
theorem dX12_count_108 : decode cX12_count 108 = .ok (.ireturn, 1) := by decide +kernel
theorem dX12_count_109 : decode cX12_count 109 = .ok (.aload_n 0, 1) := by decide +kernel
theorem dX12_count_110 : decode cX12_count 110 = .ok (.getfield 334, 3) := by decide +kernel
theorem dX12_count_113 : decode cX12_count 113 = .ok (.ireturn, 1) := by decide +kernel
theorem dX12_count_114 : decode cX12_count 114 = .ok (.iconst (-1), 1) := by decide +kernel
theorem dX12_count_115 : decode cX12_count 115 = .ok (.ireturn, 1) := by decide +kernel
theorem dJ7_fill_d0a16_0 : decode cJ7_fill_d0a16 0 = .ok (.iconst 0, 1) := by decide +kernel
theorem dJ7_fill_d0a16_1 : decode cJ7_fill_d0a16 1 = .ok (.istore_n 3, 1) := by decide +kernel
theorem dJ7_fill_d0a16_2 : decode cJ7_fill_d0a16 2 = .ok (.aload_n 0, 1) := by decide +kernel
theorem dJ7_fill_d0a16_3 : decode cJ7_fill_d0a16 3 = .ok (.arraylength, 1) := by decide +kernel
theorem dJ7_fill_d0a16_4 : decode cJ7_fill_d0a16 4 = .ok (.istore 4, 2) := by decide +kernel
theorem dJ7_fill_d0a16_6 : decode cJ7_fill_d0a16 6 = .ok (.iload_n 3, 1) := by decide +kernel
theorem dJ7_fill_d0a16_7 : decode cJ7_fill_d0a16 7 = .ok (.iload 4, 2) := by decide +kernel
theorem dJ7_fill_d0a16_9 : decode cJ7_fill_d0a16 9 = .ok (.if_icmp .ge 13, 3) := by decide +kernel
theorem dJ7_fill_d0a16_12 : decode cJ7_fill_d0a16 12 = .ok (.aload_n 0, 1) := by decide +kernel
theorem dJ7_fill_d0a16_13 : decode cJ7_fill_d0a16 13 = .ok (.iload_n 3, 1) := by decide +kernel
theorem dJ7_fill_d0a16_14 : decode cJ7_fill_d0a16 14 = .ok (.lload_n 1, 1) := by decide +kernel
theorem dJ7_fill_d0a16_15 : decode cJ7_fill_d0a16 15 = .ok (.lastore, 1) := by decide +kernel
theorem dJ7_fill_d0a16_16 : decode cJ7_fill_d0a16 16 = .ok (.iinc 3 1, 3) := by decide +kernel
theorem dJ7_fill_d0a16_19 : decode cJ7_fill_d0a16 19 = .ok (.goto (-13), 3) := by decide +kernel
theorem dJ7_fill_d0a16_22 : decode cJ7_fill_d0a16 22 = .ok (.return_, 1) := by decide +kernel
theorem dJ7_fill_53178_0 : decode cJ7_fill_53178 0 = .ok (.iconst 0, 1) := by decide +kernel
theorem dJ7_fill_53178_1 : decode cJ7_fill_53178 1 = .ok (.istore_n 2, 1) := by decide +kernel
theorem dJ7_fill_53178_2 : decode cJ7_fill_53178 2 = .ok (.aload_n 0, 1) := by decide +kernel
theorem dJ7_fill_53178_3 : decode cJ7_fill_53178 3 = .ok (.arraylength, 1) := by decide +kernel
theorem dJ7_fill_53178_4 : decode cJ7_fill_53178 4 = .ok (.istore_n 3, 1) := by decide +kernel
theorem dJ7_fill_53178_5 : decode cJ7_fill_53178 5 = .ok (.iload_n 2, 1) := by decide +kernel
theorem dJ7_fill_53178_6 : decode cJ7_fill_53178 6 = .ok (.iload_n 3, 1) := by decide +kernel
theorem dJ7_fill_53178_7 : decode cJ7_fill_53178 7 = .ok (.if_icmp .ge 13, 3) := by decide +kernel
theorem dJ7_fill_53178_10 : decode cJ7_fill_53178 10 = .ok (.aload_n 0, 1) := by decide +kernel
theorem dJ7_fill_53178_11 : decode cJ7_fill_53178 11 = .ok (.iload_n 2, 1) := by decide +kernel
theorem dJ7_fill_53178_12 : decode cJ7_fill_53178 12 = .ok (.iload_n 1, 1) := by decide +kernel
theorem dJ7_fill_53178_13 : decode cJ7_fill_53178 13 = .ok (.iastore, 1) := by decide +kernel
theorem dJ7_fill_53178_14 : decode cJ7_fill_53178 14 = .ok (.iinc 2 1, 3) := by decide +kernel
theorem dJ7_fill_53178_17 : decode cJ7_fill_53178 17 = .ok (.goto (-12), 3) := by decide +kernel
theorem dJ7_fill_53178_20 : decode cJ7_fill_53178 20 = .ok (.return_, 1) := by decide +kernel
set_option maxRecDepth 20000 in
theorem ggL_law_X11_init : GoodIn wsL_law wsX11_init := goodIn_r _ [9, 10, 11, 12, 13, 14, 15, 16, 17, 18, 19, 20, 21, 22, 23, 24, 25, 26, 27, 28, 29, 30, 31, 32, 33, 34, 35, 36, 37, 38, 39, 40, 41, 42, 43, 44, 45, 46, 47, 48, 49, 50, 51, 52, 53, 54, 55, 56, 57, 58, 59, 60, 61, 62, 63, 64, 65, 66, 67, 68, 69, 70, 71, 72, 73, 74, 75, 76, 77, 78, 79, 80, 81, 82, 83, 84, 85, 86, 87, 88, 89, 90, 91, 92, 93, 94, 95, 96, 97, 98, 99, 100, 101, 102, 103, 104, 105, 106, 107, 108, 109, 110, 111, 112, 113, 114, 115, 116, 117, 118, 119, 120, 121, 122, 123, 124, 125, 126, 127, 128, 129, 130, 131, 132, 133, 134, 135, 136, 137, 138, 139, 140, 141, 142, 143, 144, 145, 146, 147, 148, 149, 150, 151, 152, 153, 154, 155, 156, 157, 158, 159, 160, 161, 162, 163, 164, 165, 166, 167, 168, 169, 170, 171, 172, 173, 174, 175, 176, 177, 178, 179, 180, 181, 182, 183, 184, 185, 186, 187, 1366, 1367, 1294, 1295, 1296, 1297, 1298, 1299, 1300, 1301, 1302, 1303, 1304, 1305, 1306, 1368, 1369, 1370, 1371, 1372, 1373, 1374, 1375, 1376, 1377, 1378, 1379, 1380, 1381, 1382, 1383, 1384, 1385, 1386, 1387, 1388, 1389, 1390, 1391, 1392, 1393, 1394, 1395, 1396, 1397, 1398, 1399, 1400, 1401, 1402, 1403, 1404, 1405, 1406, 1407, 1408, 1409, 1410, 1411, 1412, 1413, 1414, 1415, 1416, 1417, 1418, 1419, 1420, 1421, 1422, 1423, 1424, 1425, 1426, 1427, 1428, 1429, 1430, 1431, 1432, 1433, 1434, 1435, 1436, 1437, 1438, 1439, 1440, 1441, 1442, 1443] (by decide +kernel) (by decide +kernel)
set_option maxRecDepth 20000 in
theorem gL_law_X11_init : GoodIn wsL_law (wsX11_init) := ggL_law_X11_init
set_option maxRecDepth 20000 in
theorem ggL_law_X12_init : GoodIn wsL_law wsX12_init := goodIn_r _ [190, 191, 11, 12, 70, 192, 193, 194, 195, 196, 197, 81, 198, 199, 200, 201, 202, 203, 204, 205, 206, 207, 208, 209, 210, 211, 212, 213, 214, 215, 216, 217, 218, 219, 220, 221, 222, 223, 224, 182, 225, 226, 227, 228, 229, 230, 231, 1307, 1308, 1309, 1310, 1311, 1312, 1313, 1314, 1315, 1316, 1317, 1318, 1319, 1320, 1321, 1322, 1323, 1324, 1325, 1326, 1327, 1328, 1329, 1330, 1331, 1332, 1333, 1334, 1335, 1336, 1337, 1338, 1339, 1340, 1341, 1342, 1343, 1344, 1345, 1346, 1347, 1348, 1349, 1350, 1351, 1352, 1353, 1354, 1355, 1356, 1357, 1358, 1359, 1360, 1361, 1362, 1363, 1364, 1365] (by decide +kernel) (by decide +kernel)
set_option maxRecDepth 20000 in
theorem gL_law_X12_init : GoodIn wsL_law (wsX12_init) := ggL_law_X12_init
set_option maxRecDepth 20000 in
theorem ggL_law_X11_feed : GoodIn wsL_law wsX11_feed := goodIn_r _ [235, 16, 236, 237, 238, 239, 15, 240, 64, 63, 1294, 1295, 1296, 1297, 1298, 1299, 1300, 1301, 1302, 1303, 1304, 1305, 1306, 1366, 1367] (by decide +kernel) (by decide +kernel)
set_option maxRecDepth 20000 in
theorem gL_law_X11_feed : GoodIn wsL_law (wsV RL 13 RX11 yX11_feed wsX11_feed) := goodIn_app (goodIn_of _ (by decide +kernel)) ggL_law_X11_feed
set_option maxRecDepth 20000 in
theorem ggL_law_X12_feed : GoodIn wsL_law wsX12_feed := goodIn_r _ [244, 245, 210, 246, 247, 5, 248, 1307, 1308, 1309, 1310, 1311, 1312, 1313, 1314, 1315, 1316, 1317, 1318, 1319, 1320, 1321, 1322, 1323, 1324, 1325, 1326, 1327, 1328, 1329, 1330, 1331, 1332, 1333, 1334, 1335, 1336, 1337, 1338, 1339, 1340, 1341, 1342, 1343, 1344, 1345, 1346, 1347, 1348, 1349, 1350, 1351, 1352, 1353, 1354, 1355, 1356, 1357, 1358, 1359, 1360, 1361, 1362, 1363, 1364, 1365] (by decide +kernel) (by decide +kernel)
set_option maxRecDepth 20000 in
theorem gL_law_X12_feed : GoodIn wsL_law (wsV RL 17 RX12 yX12_feed wsX12_feed) := goodIn_app (goodIn_of _ (by decide +kernel)) ggL_law_X12_feed
set_option maxRecDepth 20000 in
theorem ggL_law_X11_name : GoodIn wsL_law wsX11_name := goodIn_r _ [252, 16, 236, 20, 253, 254, 255, 256, 257, 19, 258, 73, 71, 69, 259, 260, 261, 262, 263, 264, 265, 266, 267, 268, 269, 1294, 1295, 1296, 1297, 1298, 1299, 1300, 1301, 1302, 1303, 1304, 1305, 1306, 1366, 1367, 1368, 1369, 1370, 1371] (by decide +kernel) (by decide +kernel)
set_option maxRecDepth 20000 in
theorem gL_law_X11_name : GoodIn wsL_law (wsV RL 18 RX11 yX11_name wsX11_name) := goodIn_app (goodIn_of _ (by decide +kernel)) ggL_law_X11_name
set_option maxRecDepth 20000 in
theorem ggL_law_X12_name : GoodIn wsL_law wsX12_name := goodIn_r _ [273, 245, 226, 210, 274, 246, 247, 5, 248, 275, 276, 277, 278, 192, 193, 279, 280, 281, 282, 1307, 1308, 1309, 1310, 1311, 1312, 1313, 1314, 1315, 1316, 1317, 1318, 1319, 1320, 1321, 1322, 1323, 1324, 1325, 1326, 1327, 1328, 1329, 1330, 1331, 1332, 1333, 1334, 1335, 1336, 1337, 1338, 1339, 1340, 1341, 1342, 1343, 1344, 1345, 1346, 1347, 1348, 1349, 1350, 1351, 1352, 1353, 1354, 1355, 1356, 1357, 1358, 1359, 1360, 1361, 1362, 1363, 1364, 1365] (by decide +kernel) (by decide +kernel)
set_option maxRecDepth 20000 in
theorem gL_law_X12_name : GoodIn wsL_law (wsV RL 22 RX12 yX12_name wsX12_name) := goodIn_app (goodIn_of _ (by decide +kernel)) ggL_law_X12_name
set_option maxRecDepth 20000 in
theorem ggL_law_X11_number : GoodIn wsL_law wsX11_number := goodIn_r _ [286, 20, 287, 288, 289, 19, 290, 73, 291, 292, 293, 294, 71, 69, 295, 1294, 1295, 1296, 1297, 1298, 1299, 1300, 1301, 1302, 1303, 1304, 1305, 1306, 1368, 1369, 1370, 1371] (by decide +kernel) (by decide +kernel)
set_option maxRecDepth 20000 in
theorem gL_law_X11_number : GoodIn wsL_law (wsV RL 23 RX11 yX11_number wsX11_number) := goodIn_app (goodIn_of _ (by decide +kernel)) ggL_law_X11_number
set_option maxRecDepth 20000 in
theorem ggL_law_X12_number : GoodIn wsL_law wsX12_number := goodIn_r _ [299, 300, 301, 302, 5, 303, 274, 246, 247, 248, 304, 305, 306, 307, 192, 193, 308, 1307, 1308, 1309, 1310, 1311, 1312, 1313, 1314, 1315, 1316, 1317, 1318, 1319, 1320, 1321, 1322, 1323, 1324, 1325, 1326, 1327, 1328, 1329, 1330, 1331, 1332, 1333, 1334, 1335, 1336, 1337, 1338, 1339, 1340, 1341, 1342, 1343, 1344, 1345, 1346, 1347, 1348, 1349, 1350, 1351, 1352, 1353, 1354, 1355, 1356, 1357, 1358, 1359, 1360, 1361, 1362, 1363, 1364, 1365] (by decide +kernel) (by decide +kernel)
set_option maxRecDepth 20000 in
theorem gL_law_X12_number : GoodIn wsL_law (wsV RL 26 RX12 yX12_number wsX12_number) := goodIn_app (goodIn_of _ (by decide +kernel)) ggL_law_X12_number
set_option maxRecDepth 20000 in
theorem ggL_law_X11_keeper : GoodIn wsL_law wsX11_keeper := goodIn_r _ [312, 24, 313, 314, 315, 2, 316, 317, 318, 319, 23, 320, 77, 83, 78, 79, 80, 1294, 1295, 1296, 1297, 1298, 1299, 1300, 1301, 1302, 1303, 1304, 1305, 1306, 1372, 1373, 1374, 1375, 1376, 1377] (by decide +kernel) (by decide +kernel)
set_option maxRecDepth 20000 in
theorem gL_law_X11_keeper : GoodIn wsL_law (wsV RL 27 RX11 yX11_keeper wsX11_keeper) := goodIn_app (goodIn_of _ (by decide +kernel)) ggL_law_X11_keeper
set_option maxRecDepth 20000 in
theorem ggL_law_X12_keeper : GoodIn wsL_law wsX12_keeper := goodIn_r _ [324, 325, 194, 195, 246, 247, 5, 248, 1307, 1308, 1309, 1310, 1311, 1312, 1313, 1314, 1315, 1316, 1317, 1318, 1319, 1320, 1321, 1322, 1323, 1324, 1325, 1326, 1327, 1328, 1329, 1330, 1331, 1332, 1333, 1334, 1335, 1336, 1337, 1338, 1339, 1340, 1341, 1342, 1343, 1344, 1345, 1346, 1347, 1348, 1349, 1350, 1351, 1352, 1353, 1354, 1355, 1356, 1357, 1358, 1359, 1360, 1361, 1362, 1363, 1364, 1365] (by decide +kernel) (by decide +kernel)
set_option maxRecDepth 20000 in
theorem gL_law_X12_keeper : GoodIn wsL_law (wsV RL 30 RX12 yX12_keeper wsX12_keeper) := goodIn_app (goodIn_of _ (by decide +kernel)) ggL_law_X12_keeper
set_option maxRecDepth 20000 in
theorem ggL_law_X11_become : GoodIn wsL_law wsX11_become := goodIn_r _ [329, 24, 330, 42, 331, 332, 333, 23, 334, 83, 335, 336, 2, 337, 338, 339, 340, 41, 341, 139, 342, 140, 343, 131, 132, 344, 345, 346, 347, 130, 1294, 1295, 1296, 1297, 1298, 1299, 1300, 1301, 1302, 1303, 1304, 1305, 1306, 1372, 1373, 1374, 1375, 1376, 1377, 1408, 1409, 1410, 1411, 1412, 1413, 1414, 1415, 1416, 1417, 1418, 1419, 1368, 1369, 1370, 1371] (by decide +kernel) (by decide +kernel)
set_option maxRecDepth 20000 in
theorem gL_law_X11_become : GoodIn wsL_law (wsV RL 31 RX11 yX11_become wsX11_become) := goodIn_app (goodIn_of _ (by decide +kernel)) ggL_law_X11_become
set_option maxRecDepth 20000 in
theorem ggL_law_X12_become : GoodIn wsL_law wsX12_become := goodIn_r _ [351, 196, 213, 211, 212, 352, 353, 354, 5, 355, 325, 246, 247, 248, 1307, 1308, 1309, 1310, 1311, 1312, 1313, 1314, 1315, 1316, 1317, 1318, 1319, 1320, 1321, 1322, 1323, 1324, 1325, 1326, 1327, 1328, 1329, 1330, 1331, 1332, 1333, 1334, 1335, 1336, 1337, 1338, 1339, 1340, 1341, 1342, 1343, 1344, 1345, 1346, 1347, 1348, 1349, 1350, 1351, 1352, 1353, 1354, 1355, 1356, 1357, 1358, 1359, 1360, 1361, 1362, 1363, 1364, 1365] (by decide +kernel) (by decide +kernel)
set_option maxRecDepth 20000 in
theorem gL_law_X12_become : GoodIn wsL_law (wsV RL 34 RX12 yX12_become wsX12_become) := goodIn_app (goodIn_of _ (by decide +kernel)) ggL_law_X12_become
set_option maxRecDepth 20000 in
theorem ggL_law_X11_strength : GoodIn wsL_law wsX11_strength := goodIn_r _ [359, 24, 360, 331, 332, 333, 23, 334, 83, 314, 315, 2, 316, 1294, 1295, 1296, 1297, 1298, 1299, 1300, 1301, 1302, 1303, 1304, 1305, 1306, 1372, 1373, 1374, 1375, 1376, 1377] (by decide +kernel) (by decide +kernel)
set_option maxRecDepth 20000 in
theorem gL_law_X11_strength : GoodIn wsL_law (wsV RL 35 RX11 yX11_strength wsX11_strength) := goodIn_app (goodIn_of _ (by decide +kernel)) ggL_law_X11_strength
set_option maxRecDepth 20000 in
theorem ggL_law_X12_strength : GoodIn wsL_law wsX12_strength := goodIn_r _ [364, 195, 352, 353, 354, 5, 355, 325, 246, 247, 248, 1307, 1308, 1309, 1310, 1311, 1312, 1313, 1314, 1315, 1316, 1317, 1318, 1319, 1320, 1321, 1322, 1323, 1324, 1325, 1326, 1327, 1328, 1329, 1330, 1331, 1332, 1333, 1334, 1335, 1336, 1337, 1338, 1339, 1340, 1341, 1342, 1343, 1344, 1345, 1346, 1347, 1348, 1349, 1350, 1351, 1352, 1353, 1354, 1355, 1356, 1357, 1358, 1359, 1360, 1361, 1362, 1363, 1364, 1365] (by decide +kernel) (by decide +kernel)
set_option maxRecDepth 20000 in
theorem gL_law_X12_strength : GoodIn wsL_law (wsV RL 38 RX12 yX12_strength wsX12_strength) := goodIn_app (goodIn_of _ (by decide +kernel)) ggL_law_X12_strength
set_option maxRecDepth 20000 in
theorem ggL_law_X11_ofKeeper : GoodIn wsL_law wsX11_ofKeeper := goodIn_r _ [368, 24, 369, 330, 370, 360, 371, 42, 372, 331, 332, 333, 23, 334, 83, 373, 374, 375, 376, 77, 79, 377, 378, 379, 41, 380, 130, 381, 382, 383, 384, 385, 386, 387, 131, 1294, 1295, 1296, 1297, 1298, 1299, 1300, 1301, 1302, 1303, 1304, 1305, 1306, 1372, 1373, 1374, 1375, 1376, 1377, 1408, 1409, 1410, 1411, 1412, 1413, 1414, 1415, 1416, 1417, 1418, 1419] (by decide +kernel) (by decide +kernel)
set_option maxRecDepth 20000 in
theorem gL_law_X11_ofKeeper : GoodIn wsL_law (wsV RL 39 RX11 yX11_ofKeeper wsX11_ofKeeper) := goodIn_app (goodIn_of _ (by decide +kernel)) ggL_law_X11_ofKeeper
set_option maxRecDepth 20000 in
theorem ggL_law_X12_ofKeeper : GoodIn wsL_law wsX12_ofKeeper := goodIn_r _ [391, 392, 196, 194, 195, 197, 198, 352, 353, 354, 5, 355, 325, 246, 247, 248, 393, 394, 395, 396, 397, 398, 399, 400, 211, 212, 1307, 1308, 1309, 1310, 1311, 1312, 1313, 1314, 1315, 1316, 1317, 1318, 1319, 1320, 1321, 1322, 1323, 1324, 1325, 1326, 1327, 1328, 1329, 1330, 1331, 1332, 1333, 1334, 1335, 1336, 1337, 1338, 1339, 1340, 1341, 1342, 1343, 1344, 1345, 1346, 1347, 1348, 1349, 1350, 1351, 1352, 1353, 1354, 1355, 1356, 1357, 1358, 1359, 1360, 1361, 1362, 1363, 1364, 1365] (by decide +kernel) (by decide +kernel)
set_option maxRecDepth 20000 in
theorem gL_law_X12_ofKeeper : GoodIn wsL_law (wsV RL 42 RX12 yX12_ofKeeper wsX12_ofKeeper) := goodIn_app (goodIn_of _ (by decide +kernel)) ggL_law_X12_ofKeeper
set_option maxRecDepth 20000 in
theorem ggL_law_X11_table : GoodIn wsL_law wsX11_table := goodIn_r _ [404, 24, 313, 35, 38, 16, 253, 236, 28, 33, 36, 37, 34, 405, 406, 407, 408, 111, 119, 409, 374, 375, 23, 376, 77, 79, 410, 411, 412, 413, 414, 415, 416, 417, 418, 419, 420, 117, 121, 421, 267, 268, 269, 422, 423, 424, 27, 425, 426, 87, 427, 88, 89, 90, 428, 429, 430, 431, 432, 433, 434, 435, 91, 93, 94, 436, 437, 438, 92, 439, 440, 441, 442, 443, 444, 445, 446, 447, 448, 449, 450, 451, 452, 453, 454, 455, 456, 457, 458, 459, 460, 461, 462, 463, 464, 465, 466, 467, 468, 469, 470, 471, 472, 473, 474, 475, 476, 477, 478, 479, 480, 481, 482, 483, 484, 108, 109, 110, 11, 12, 112, 113, 114, 115, 116, 118, 70, 120, 62, 122, 123, 124, 485, 486, 487, 488, 489, 490, 491, 492, 493, 494, 495, 496, 186, 497, 498, 2, 499, 500, 501, 502, 503, 504, 505, 506, 507, 508, 509, 510, 1294, 1295, 1296, 1297, 1298, 1299, 1300, 1301, 1302, 1303, 1304, 1305, 1306, 1372, 1373, 1374, 1375, 1376, 1377, 1366, 1367, 1395, 1396, 1397, 1398, 1399, 1400, 1401, 1402, 1403, 1404, 1405, 1406, 1407, 1378, 1379, 1380, 1381, 1382, 1383, 1384, 1385] (by decide +kernel) (by decide +kernel)
set_option maxRecDepth 20000 in
theorem gL_law_X11_table : GoodIn wsL_law (wsV RL 43 RX11 yX11_table wsX11_table) := goodIn_app (goodIn_of _ (by decide +kernel)) ggL_law_X11_table
set_option maxRecDepth 20000 in
theorem ggL_law_X12_table : GoodIn wsL_law wsX12_table := goodIn_r _ [514, 325, 515, 199, 200, 206, 207, 194, 204, 245, 205, 210, 393, 394, 395, 5, 396, 196, 195, 516, 517, 518, 519, 520, 521, 522, 523, 524, 525, 526, 527, 528, 529, 530, 531, 532, 533, 534, 535, 201, 202, 203, 536, 537, 538, 539, 540, 541, 542, 543, 246, 247, 248, 544, 545, 546, 547, 548, 549, 550, 551, 552, 553, 554, 555, 556, 557, 558, 559, 560, 561, 562, 209, 208, 563, 564, 565, 566, 567, 1307, 1308, 1309, 1310, 1311, 1312, 1313, 1314, 1315, 1316, 1317, 1318, 1319, 1320, 1321, 1322, 1323, 1324, 1325, 1326, 1327, 1328, 1329, 1330, 1331, 1332, 1333, 1334, 1335, 1336, 1337, 1338, 1339, 1340, 1341, 1342, 1343, 1344, 1345, 1346, 1347, 1348, 1349, 1350, 1351, 1352, 1353, 1354, 1355, 1356, 1357, 1358, 1359, 1360, 1361, 1362, 1363, 1364, 1365] (by decide +kernel) (by decide +kernel)
set_option maxRecDepth 20000 in
theorem gL_law_X12_table : GoodIn wsL_law (wsV RL 46 RX12 yX12_table wsX12_table) := goodIn_app (goodIn_of _ (by decide +kernel)) ggL_law_X12_table
set_option maxRecDepth 20000 in
theorem ggL_law_X11_ofTable : GoodIn wsL_law wsX11_ofTable := goodIn_r _ [571, 572, 573, 574, 575, 576, 577, 578, 579, 2, 580, 35, 34, 581, 582, 583, 37, 584, 111, 120, 414, 415, 416, 417, 418, 419, 420, 585, 586, 587, 588, 118, 589, 185, 186, 187, 590, 591, 592, 593, 115, 122, 124, 594, 595, 596, 597, 494, 112, 119, 498, 499, 500, 1395, 1396, 1397, 1398, 1399, 1400, 1401, 1402, 1403, 1404, 1405, 1406, 1407, 1294, 1295, 1296, 1297, 1298, 1299, 1300, 1301, 1302, 1303, 1304, 1305, 1306] (by decide +kernel) (by decide +kernel)
set_option maxRecDepth 20000 in
theorem gL_law_X11_ofTable : GoodIn wsL_law (wsV RL 47 RX11 yX11_ofTable wsX11_ofTable) := goodIn_app (goodIn_of _ (by decide +kernel)) ggL_law_X11_ofTable
set_option maxRecDepth 20000 in
theorem ggL_law_X12_ofTable : GoodIn wsL_law wsX12_ofTable := goodIn_r _ [601, 199, 208, 201, 202, 203, 602, 603, 604, 5, 605, 515, 246, 247, 248, 606, 607, 608, 609, 325, 229, 610, 611, 612, 613, 227, 614, 615, 616, 617, 618, 619, 620, 621, 622, 200, 206, 563, 564, 565, 566, 567, 524, 525, 526, 527, 623, 624, 625, 626, 209, 1307, 1308, 1309, 1310, 1311, 1312, 1313, 1314, 1315, 1316, 1317, 1318, 1319, 1320, 1321, 1322, 1323, 1324, 1325, 1326, 1327, 1328, 1329, 1330, 1331, 1332, 1333, 1334, 1335, 1336, 1337, 1338, 1339, 1340, 1341, 1342, 1343, 1344, 1345, 1346, 1347, 1348, 1349, 1350, 1351, 1352, 1353, 1354, 1355, 1356, 1357, 1358, 1359, 1360, 1361, 1362, 1363, 1364, 1365] (by decide +kernel) (by decide +kernel)
set_option maxRecDepth 20000 in
theorem gL_law_X12_ofTable : GoodIn wsL_law (wsV RL 50 RX12 yX12_ofTable wsX12_ofTable) := goodIn_app (goodIn_of _ (by decide +kernel)) ggL_law_X12_ofTable
set_option maxRecDepth 20000 in
theorem ggL_law_X11_seat : GoodIn wsL_law wsX11_seat := goodIn_r _ [630, 631, 577, 578, 579, 2, 580, 35, 34, 632, 633, 634, 1395, 1396, 1397, 1398, 1399, 1400, 1401, 1402, 1403, 1404, 1405, 1406, 1407, 1294, 1295, 1296, 1297, 1298, 1299, 1300, 1301, 1302, 1303, 1304, 1305, 1306] (by decide +kernel) (by decide +kernel)
set_option maxRecDepth 20000 in
theorem gL_law_X11_seat : GoodIn wsL_law (wsV RL 51 RX11 yX11_seat wsX11_seat) := goodIn_app (goodIn_of _ (by decide +kernel)) ggL_law_X11_seat
set_option maxRecDepth 20000 in
theorem ggL_law_X12_seat : GoodIn wsL_law wsX12_seat := goodIn_r _ [638, 209, 602, 603, 604, 5, 605, 515, 246, 247, 248, 1307, 1308, 1309, 1310, 1311, 1312, 1313, 1314, 1315, 1316, 1317, 1318, 1319, 1320, 1321, 1322, 1323, 1324, 1325, 1326, 1327, 1328, 1329, 1330, 1331, 1332, 1333, 1334, 1335, 1336, 1337, 1338, 1339, 1340, 1341, 1342, 1343, 1344, 1345, 1346, 1347, 1348, 1349, 1350, 1351, 1352, 1353, 1354, 1355, 1356, 1357, 1358, 1359, 1360, 1361, 1362, 1363, 1364, 1365] (by decide +kernel) (by decide +kernel)
set_option maxRecDepth 20000 in
theorem gL_law_X12_seat : GoodIn wsL_law (wsV RL 54 RX12 yX12_seat wsX12_seat) := goodIn_app (goodIn_of _ (by decide +kernel)) ggL_law_X12_seat
set_option maxRecDepth 20000 in
theorem ggL_law_X11_picked : GoodIn wsL_law wsX11_picked := goodIn_r _ [642, 32, 643, 644, 577, 578, 579, 2, 580, 35, 34, 632, 633, 634, 645, 646, 647, 31, 648, 101, 105, 649, 650, 651, 652, 653, 654, 106, 99, 655, 595, 596, 37, 597, 494, 112, 119, 498, 499, 500, 656, 657, 658, 659, 660, 661, 662, 663, 664, 665, 666, 667, 668, 669, 670, 671, 672, 673, 674, 505, 506, 675, 676, 677, 678, 1294, 1295, 1296, 1297, 1298, 1299, 1300, 1301, 1302, 1303, 1304, 1305, 1306, 1386, 1387, 1388, 1389, 1390, 1391, 1392, 1393, 1394, 1395, 1396, 1397, 1398, 1399, 1400, 1401, 1402, 1403, 1404, 1405, 1406, 1407] (by decide +kernel) (by decide +kernel)
set_option maxRecDepth 20000 in
theorem gL_law_X11_picked : GoodIn wsL_law (wsV RL 55 RX11 yX11_picked wsX11_picked) := goodIn_app (goodIn_of _ (by decide +kernel)) ggL_law_X11_picked
set_option maxRecDepth 20000 in
theorem ggL_law_X12_picked : GoodIn wsL_law wsX12_picked := goodIn_r _ [682, 618, 227, 602, 603, 604, 5, 605, 515, 246, 247, 248, 614, 615, 616, 617, 199, 203, 619, 620, 621, 622, 325, 200, 206, 563, 564, 565, 566, 567, 524, 525, 526, 527, 623, 624, 625, 626, 209, 1307, 1308, 1309, 1310, 1311, 1312, 1313, 1314, 1315, 1316, 1317, 1318, 1319, 1320, 1321, 1322, 1323, 1324, 1325, 1326, 1327, 1328, 1329, 1330, 1331, 1332, 1333, 1334, 1335, 1336, 1337, 1338, 1339, 1340, 1341, 1342, 1343, 1344, 1345, 1346, 1347, 1348, 1349, 1350, 1351, 1352, 1353, 1354, 1355, 1356, 1357, 1358, 1359, 1360, 1361, 1362, 1363, 1364, 1365] (by decide +kernel) (by decide +kernel)
set_option maxRecDepth 20000 in
theorem gL_law_X12_picked : GoodIn wsL_law (wsV RL 59 RX12 yX12_picked wsX12_picked) := goodIn_app (goodIn_of _ (by decide +kernel)) ggL_law_X12_picked
set_option maxRecDepth 20000 in
theorem ggL_law_X11_keeperOf : GoodIn wsL_law wsX11_keeperOf := goodIn_r _ [686, 20, 32, 687, 688, 689, 577, 578, 579, 2, 580, 35, 34, 287, 288, 289, 19, 290, 73, 291, 292, 293, 294, 71, 69, 295, 690, 691, 692, 31, 693, 102, 103, 104, 101, 694, 695, 696, 415, 416, 417, 107, 697, 99, 698, 646, 647, 648, 105, 649, 650, 651, 652, 653, 654, 106, 655, 595, 596, 37, 597, 494, 112, 119, 498, 499, 500, 656, 657, 658, 659, 660, 661, 662, 663, 664, 665, 666, 667, 668, 669, 670, 671, 672, 673, 674, 505, 506, 675, 676, 677, 678, 699, 700, 701, 702, 100, 703, 704, 705, 706, 1294, 1295, 1296, 1297, 1298, 1299, 1300, 1301, 1302, 1303, 1304, 1305, 1306, 1395, 1396, 1397, 1398, 1399, 1400, 1401, 1402, 1403, 1404, 1405, 1406, 1407, 1386, 1387, 1388, 1389, 1390, 1391, 1392, 1393, 1394, 1368, 1369, 1370, 1371, 1372, 1373, 1374, 1375, 1376, 1377] (by decide +kernel) (by decide +kernel)
set_option maxRecDepth 20000 in
theorem gL_law_X11_keeperOf : GoodIn wsL_law (wsV RL 60 RX11 yX11_keeperOf wsX11_keeperOf) := goodIn_app (goodIn_of _ (by decide +kernel)) ggL_law_X11_keeperOf
set_option maxRecDepth 20000 in
theorem ggL_law_X12_keeperOf : GoodIn wsL_law wsX12_keeperOf := goodIn_r _ [710, 711, 228, 602, 603, 604, 5, 605, 515, 246, 247, 248, 300, 301, 302, 303, 274, 712, 713, 714, 715, 200, 304, 305, 306, 307, 192, 193, 308, 716, 717, 718, 719, 618, 201, 227, 202, 614, 615, 616, 617, 199, 203, 619, 620, 621, 622, 325, 206, 563, 564, 565, 566, 567, 524, 525, 526, 527, 623, 624, 625, 626, 209, 720, 721, 722, 723, 207, 724, 725, 726, 727, 1307, 1308, 1309, 1310, 1311, 1312, 1313, 1314, 1315, 1316, 1317, 1318, 1319, 1320, 1321, 1322, 1323, 1324, 1325, 1326, 1327, 1328, 1329, 1330, 1331, 1332, 1333, 1334, 1335, 1336, 1337, 1338, 1339, 1340, 1341, 1342, 1343, 1344, 1345, 1346, 1347, 1348, 1349, 1350, 1351, 1352, 1353, 1354, 1355, 1356, 1357, 1358, 1359, 1360, 1361, 1362, 1363, 1364, 1365] (by decide +kernel) (by decide +kernel)
set_option maxRecDepth 20000 in
theorem gL_law_X12_keeperOf : GoodIn wsL_law (wsV RL 63 RX12 yX12_keeperOf wsX12_keeperOf) := goodIn_app (goodIn_of _ (by decide +kernel)) ggL_law_X12_keeperOf
set_option maxRecDepth 20000 in
theorem ggL_law_X11_tooFew : GoodIn wsL_law wsX11_tooFew := goodIn_r _ [731, 20, 254, 32, 687, 732, 575, 577, 578, 579, 2, 580, 35, 34, 291, 292, 293, 19, 294, 71, 69, 295, 690, 691, 692, 31, 693, 102, 103, 104, 101, 694, 695, 696, 415, 416, 417, 107, 697, 99, 698, 646, 647, 648, 105, 649, 650, 651, 652, 653, 654, 106, 655, 595, 596, 37, 597, 494, 112, 119, 498, 499, 500, 656, 657, 658, 659, 660, 661, 662, 663, 664, 665, 666, 667, 668, 669, 670, 671, 672, 673, 674, 505, 506, 675, 676, 677, 678, 699, 700, 701, 702, 100, 703, 704, 705, 706, 733, 440, 441, 442, 443, 444, 445, 1294, 1295, 1296, 1297, 1298, 1299, 1300, 1301, 1302, 1303, 1304, 1305, 1306, 1368, 1369, 1370, 1371, 1395, 1396, 1397, 1398, 1399, 1400, 1401, 1402, 1403, 1404, 1405, 1406, 1407, 1386, 1387, 1388, 1389, 1390, 1391, 1392, 1393, 1394, 1372, 1373, 1374, 1375, 1376, 1377] (by decide +kernel) (by decide +kernel)
set_option maxRecDepth 20000 in
theorem gL_law_X11_tooFew : GoodIn wsL_law (wsV RL 64 RX11 yX11_tooFew wsX11_tooFew) := goodIn_app (goodIn_of _ (by decide +kernel)) ggL_law_X11_tooFew
set_option maxRecDepth 20000 in
theorem ggL_law_X12_tooFew : GoodIn wsL_law wsX12_tooFew := goodIn_r _ [737, 274, 202, 602, 603, 604, 5, 605, 515, 246, 247, 248, 712, 713, 714, 715, 200, 304, 305, 306, 307, 192, 193, 308, 716, 717, 718, 719, 711, 618, 201, 227, 228, 614, 615, 616, 617, 199, 203, 619, 620, 621, 622, 325, 206, 563, 564, 565, 566, 567, 524, 525, 526, 527, 623, 624, 625, 626, 209, 720, 721, 722, 723, 207, 724, 725, 726, 727, 1307, 1308, 1309, 1310, 1311, 1312, 1313, 1314, 1315, 1316, 1317, 1318, 1319, 1320, 1321, 1322, 1323, 1324, 1325, 1326, 1327, 1328, 1329, 1330, 1331, 1332, 1333, 1334, 1335, 1336, 1337, 1338, 1339, 1340, 1341, 1342, 1343, 1344, 1345, 1346, 1347, 1348, 1349, 1350, 1351, 1352, 1353, 1354, 1355, 1356, 1357, 1358, 1359, 1360, 1361, 1362, 1363, 1364, 1365] (by decide +kernel) (by decide +kernel)
set_option maxRecDepth 20000 in
theorem gL_law_X12_tooFew : GoodIn wsL_law (wsV RL 68 RX12 yX12_tooFew wsX12_tooFew) := goodIn_app (goodIn_of _ (by decide +kernel)) ggL_law_X12_tooFew
set_option maxRecDepth 20000 in
theorem ggL_law_X11_share : GoodIn wsL_law wsX11_share := goodIn_r _ [741, 24, 742, 20, 254, 687, 577, 578, 579, 2, 580, 35, 34, 331, 332, 333, 23, 334, 83, 743, 586, 587, 37, 588, 118, 120, 589, 185, 186, 187, 590, 591, 592, 593, 115, 122, 124, 111, 594, 595, 596, 597, 494, 112, 119, 498, 499, 500, 291, 292, 293, 19, 294, 71, 69, 295, 744, 1294, 1295, 1296, 1297, 1298, 1299, 1300, 1301, 1302, 1303, 1304, 1305, 1306, 1395, 1396, 1397, 1398, 1399, 1400, 1401, 1402, 1403, 1404, 1405, 1406, 1407, 1368, 1369, 1370, 1371, 1372, 1373, 1374, 1375, 1376, 1377] (by decide +kernel) (by decide +kernel)
set_option maxRecDepth 20000 in
theorem gL_law_X11_share : GoodIn wsL_law (wsV RL 69 RX11 yX11_share wsX11_share) := goodIn_app (goodIn_of _ (by decide +kernel)) ggL_law_X11_share
set_option maxRecDepth 20000 in
theorem ggL_law_X12_share : GoodIn wsL_law wsX12_share := goodIn_r _ [748, 229, 602, 603, 604, 5, 605, 515, 246, 247, 248, 352, 353, 354, 355, 325, 749, 750, 751, 752, 274, 200, 227, 304, 305, 306, 307, 192, 193, 308, 614, 615, 616, 617, 618, 199, 203, 619, 620, 621, 622, 206, 563, 564, 565, 566, 567, 524, 525, 526, 527, 623, 624, 625, 626, 209, 610, 611, 612, 613, 1307, 1308, 1309, 1310, 1311, 1312, 1313, 1314, 1315, 1316, 1317, 1318, 1319, 1320, 1321, 1322, 1323, 1324, 1325, 1326, 1327, 1328, 1329, 1330, 1331, 1332, 1333, 1334, 1335, 1336, 1337, 1338, 1339, 1340, 1341, 1342, 1343, 1344, 1345, 1346, 1347, 1348, 1349, 1350, 1351, 1352, 1353, 1354, 1355, 1356, 1357, 1358, 1359, 1360, 1361, 1362, 1363, 1364, 1365] (by decide +kernel) (by decide +kernel)
set_option maxRecDepth 20000 in
theorem gL_law_X12_share : GoodIn wsL_law (wsV RL 72 RX12 yX12_share wsX12_share) := goodIn_app (goodIn_of _ (by decide +kernel)) ggL_law_X12_share
set_option maxRecDepth 20000 in
theorem ggL_law_X11_moves : GoodIn wsL_law wsX11_moves := goodIn_r _ [756, 20, 254, 32, 687, 757, 577, 578, 579, 2, 580, 35, 34, 758, 759, 760, 37, 761, 111, 119, 291, 292, 293, 19, 294, 71, 69, 295, 690, 691, 692, 31, 693, 102, 103, 104, 101, 694, 695, 696, 415, 416, 417, 107, 697, 99, 698, 646, 647, 648, 105, 649, 650, 651, 652, 653, 654, 106, 655, 595, 596, 597, 494, 112, 498, 499, 500, 656, 657, 658, 659, 660, 661, 662, 663, 664, 665, 666, 667, 668, 669, 670, 671, 672, 673, 674, 505, 506, 675, 676, 677, 678, 699, 700, 701, 702, 100, 703, 704, 705, 706, 733, 440, 441, 442, 443, 444, 445, 1294, 1295, 1296, 1297, 1298, 1299, 1300, 1301, 1302, 1303, 1304, 1305, 1306, 1368, 1369, 1370, 1371, 1395, 1396, 1397, 1398, 1399, 1400, 1401, 1402, 1403, 1404, 1405, 1406, 1407, 1386, 1387, 1388, 1389, 1390, 1391, 1392, 1393, 1394, 1372, 1373, 1374, 1375, 1376, 1377] (by decide +kernel) (by decide +kernel)
set_option maxRecDepth 20000 in
theorem gL_law_X11_moves : GoodIn wsL_law (wsV RL 73 RX11 yX11_moves wsX11_moves) := goodIn_app (goodIn_of _ (by decide +kernel)) ggL_law_X11_moves
set_option maxRecDepth 20000 in
theorem ggL_law_X12_moves : GoodIn wsL_law wsX12_moves := goodIn_r _ [765, 325, 206, 274, 602, 603, 604, 5, 605, 515, 246, 247, 248, 524, 525, 526, 527, 199, 712, 713, 714, 715, 200, 304, 305, 306, 307, 192, 193, 308, 716, 717, 718, 719, 711, 618, 201, 227, 202, 228, 614, 615, 616, 617, 203, 619, 620, 621, 622, 563, 564, 565, 566, 567, 623, 624, 625, 626, 209, 720, 721, 722, 723, 207, 724, 725, 726, 727, 766, 767, 768, 769, 770, 771, 772, 1307, 1308, 1309, 1310, 1311, 1312, 1313, 1314, 1315, 1316, 1317, 1318, 1319, 1320, 1321, 1322, 1323, 1324, 1325, 1326, 1327, 1328, 1329, 1330, 1331, 1332, 1333, 1334, 1335, 1336, 1337, 1338, 1339, 1340, 1341, 1342, 1343, 1344, 1345, 1346, 1347, 1348, 1349, 1350, 1351, 1352, 1353, 1354, 1355, 1356, 1357, 1358, 1359, 1360, 1361, 1362, 1363, 1364, 1365] (by decide +kernel) (by decide +kernel)
set_option maxRecDepth 20000 in
theorem gL_law_X12_moves : GoodIn wsL_law (wsV RL 76 RX12 yX12_moves wsX12_moves) := goodIn_app (goodIn_of _ (by decide +kernel)) ggL_law_X12_moves
set_option maxRecDepth 20000 in
theorem ggL_law_X11_knows : GoodIn wsL_law wsX11_knows := goodIn_r _ [776, 24, 35, 369, 371, 331, 332, 333, 23, 334, 83, 1294, 1295, 1296, 1297, 1298, 1299, 1300, 1301, 1302, 1303, 1304, 1305, 1306, 1372, 1373, 1374, 1375, 1376, 1377] (by decide +kernel) (by decide +kernel)
set_option maxRecDepth 20000 in
theorem gL_law_X11_knows : GoodIn wsL_law (wsV RL 77 RX11 yX11_knows wsX11_knows) := goodIn_app (goodIn_of _ (by decide +kernel)) ggL_law_X11_knows
set_option maxRecDepth 20000 in
theorem ggL_law_X12_knows : GoodIn wsL_law wsX12_knows := goodIn_r _ [780, 515, 392, 197, 352, 353, 354, 5, 355, 325, 246, 247, 248, 1307, 1308, 1309, 1310, 1311, 1312, 1313, 1314, 1315, 1316, 1317, 1318, 1319, 1320, 1321, 1322, 1323, 1324, 1325, 1326, 1327, 1328, 1329, 1330, 1331, 1332, 1333, 1334, 1335, 1336, 1337, 1338, 1339, 1340, 1341, 1342, 1343, 1344, 1345, 1346, 1347, 1348, 1349, 1350, 1351, 1352, 1353, 1354, 1355, 1356, 1357, 1358, 1359, 1360, 1361, 1362, 1363, 1364, 1365] (by decide +kernel) (by decide +kernel)
set_option maxRecDepth 20000 in
theorem gL_law_X12_knows : GoodIn wsL_law (wsV RL 80 RX12 yX12_knows wsX12_knows) := goodIn_app (goodIn_of _ (by decide +kernel)) ggL_law_X12_knows
set_option maxRecDepth 20000 in
theorem ggL_law_X11_write : GoodIn wsL_law wsX11_write := goodIn_r _ [784, 24, 20, 371, 42, 331, 332, 333, 23, 334, 83, 287, 288, 289, 19, 290, 73, 577, 578, 579, 2, 580, 35, 34, 785, 786, 787, 788, 82, 77, 789, 790, 791, 41, 792, 138, 135, 141, 140, 793, 794, 795, 796, 292, 293, 294, 71, 69, 295, 797, 691, 692, 31, 693, 102, 103, 104, 101, 694, 695, 696, 415, 416, 417, 107, 697, 99, 698, 646, 647, 648, 105, 649, 650, 651, 652, 653, 654, 106, 655, 595, 596, 37, 597, 494, 112, 119, 498, 499, 500, 656, 657, 658, 659, 660, 661, 662, 663, 664, 665, 666, 667, 668, 669, 670, 671, 672, 673, 674, 505, 506, 675, 676, 677, 678, 699, 700, 701, 702, 100, 703, 704, 705, 706, 798, 799, 800, 801, 139, 802, 803, 804, 805, 806, 807, 808, 809, 131, 132, 810, 811, 812, 813, 814, 815, 816, 817, 818, 819, 130, 820, 378, 379, 380, 381, 382, 383, 344, 345, 346, 347, 1294, 1295, 1296, 1297, 1298, 1299, 1300, 1301, 1302, 1303, 1304, 1305, 1306, 1372, 1373, 1374, 1375, 1376, 1377, 1368, 1369, 1370, 1371, 1408, 1409, 1410, 1411, 1412, 1413, 1414, 1415, 1416, 1417, 1418, 1419, 1395, 1396, 1397, 1398, 1399, 1400, 1401, 1402, 1403, 1404, 1405, 1406, 1407, 1386, 1387, 1388, 1389, 1390, 1391, 1392, 1393, 1394] (by decide +kernel) (by decide +kernel)
set_option maxRecDepth 20000 in
theorem gL_law_X11_write : GoodIn wsL_law (wsV RL 81 RX11 yX11_write wsX11_write) := goodIn_app (goodIn_of _ (by decide +kernel)) ggL_law_X11_write
set_option maxRecDepth 20000 in
theorem ggL_law_X12_write : GoodIn wsL_law wsX12_write := goodIn_r _ [824, 197, 216, 825, 711, 228, 198, 196, 211, 352, 353, 354, 5, 355, 325, 246, 247, 248, 300, 301, 302, 303, 274, 826, 827, 828, 829, 712, 713, 714, 715, 200, 304, 305, 306, 307, 192, 193, 308, 716, 717, 718, 719, 618, 201, 227, 202, 614, 615, 616, 617, 199, 203, 619, 620, 621, 622, 206, 563, 564, 565, 566, 567, 524, 525, 526, 527, 623, 624, 625, 626, 209, 720, 721, 722, 723, 207, 724, 725, 726, 727, 766, 767, 768, 769, 830, 831, 832, 833, 213, 212, 834, 835, 836, 837, 397, 398, 399, 400, 1307, 1308, 1309, 1310, 1311, 1312, 1313, 1314, 1315, 1316, 1317, 1318, 1319, 1320, 1321, 1322, 1323, 1324, 1325, 1326, 1327, 1328, 1329, 1330, 1331, 1332, 1333, 1334, 1335, 1336, 1337, 1338, 1339, 1340, 1341, 1342, 1343, 1344, 1345, 1346, 1347, 1348, 1349, 1350, 1351, 1352, 1353, 1354, 1355, 1356, 1357, 1358, 1359, 1360, 1361, 1362, 1363, 1364, 1365] (by decide +kernel) (by decide +kernel)
set_option maxRecDepth 20000 in
theorem gL_law_X12_write : GoodIn wsL_law (wsV RL 84 RX12 yX12_write wsX12_write) := goodIn_app (goodIn_of _ (by decide +kernel)) ggL_law_X12_write
set_option maxRecDepth 20000 in
theorem ggL_law_X11_read : GoodIn wsL_law wsX11_read := goodIn_r _ [841, 24, 20, 371, 42, 331, 332, 333, 23, 334, 83, 287, 288, 289, 19, 290, 73, 577, 578, 579, 2, 580, 35, 34, 785, 786, 787, 788, 82, 77, 842, 843, 844, 41, 845, 141, 140, 793, 794, 795, 139, 130, 846, 419, 416, 420, 796, 292, 293, 294, 71, 69, 295, 797, 691, 692, 31, 693, 102, 103, 104, 101, 694, 695, 696, 415, 417, 107, 697, 99, 698, 646, 647, 648, 105, 649, 650, 651, 652, 653, 654, 106, 655, 595, 596, 37, 597, 494, 112, 119, 498, 499, 500, 656, 657, 658, 659, 660, 661, 662, 663, 664, 665, 666, 667, 668, 669, 670, 671, 672, 673, 674, 505, 506, 675, 676, 677, 678, 699, 700, 701, 702, 100, 703, 704, 705, 706, 811, 1294, 1295, 1296, 1297, 1298, 1299, 1300, 1301, 1302, 1303, 1304, 1305, 1306, 1372, 1373, 1374, 1375, 1376, 1377, 1368, 1369, 1370, 1371, 1408, 1409, 1410, 1411, 1412, 1413, 1414, 1415, 1416, 1417, 1418, 1419, 1395, 1396, 1397, 1398, 1399, 1400, 1401, 1402, 1403, 1404, 1405, 1406, 1407, 1386, 1387, 1388, 1389, 1390, 1391, 1392, 1393, 1394] (by decide +kernel) (by decide +kernel)
set_option maxRecDepth 20000 in
theorem gL_law_X11_read : GoodIn wsL_law (wsV RL 85 RX11 yX11_read wsX11_read) := goodIn_app (goodIn_of _ (by decide +kernel)) ggL_law_X11_read
set_option maxRecDepth 20000 in
theorem ggL_law_X12_read : GoodIn wsL_law wsX12_read := goodIn_r _ [850, 197, 711, 228, 211, 352, 353, 354, 5, 355, 325, 246, 247, 248, 300, 301, 302, 303, 274, 826, 827, 828, 829, 196, 198, 712, 713, 714, 715, 200, 304, 305, 306, 307, 192, 193, 308, 716, 717, 718, 719, 618, 201, 227, 202, 614, 615, 616, 617, 199, 203, 619, 620, 621, 622, 206, 563, 564, 565, 566, 567, 524, 525, 526, 527, 623, 624, 625, 626, 209, 720, 721, 722, 723, 207, 724, 725, 726, 727, 1307, 1308, 1309, 1310, 1311, 1312, 1313, 1314, 1315, 1316, 1317, 1318, 1319, 1320, 1321, 1322, 1323, 1324, 1325, 1326, 1327, 1328, 1329, 1330, 1331, 1332, 1333, 1334, 1335, 1336, 1337, 1338, 1339, 1340, 1341, 1342, 1343, 1344, 1345, 1346, 1347, 1348, 1349, 1350, 1351, 1352, 1353, 1354, 1355, 1356, 1357, 1358, 1359, 1360, 1361, 1362, 1363, 1364, 1365] (by decide +kernel) (by decide +kernel)
set_option maxRecDepth 20000 in
theorem gL_law_X12_read : GoodIn wsL_law (wsV RL 88 RX12 yX12_read wsX12_read) := goodIn_app (goodIn_of _ (by decide +kernel)) ggL_law_X12_read
set_option maxRecDepth 20000 in
theorem ggL_law_X11_onShelf : GoodIn wsL_law wsX11_onShelf := goodIn_r _ [854, 24, 20, 42, 855, 856, 857, 858, 331, 332, 333, 23, 334, 83, 287, 288, 289, 19, 290, 73, 1294, 1295, 1296, 1297, 1298, 1299, 1300, 1301, 1302, 1303, 1304, 1305, 1306, 1408, 1409, 1410, 1411, 1412, 1413, 1414, 1415, 1416, 1417, 1418, 1419, 1372, 1373, 1374, 1375, 1376, 1377, 1368, 1369, 1370, 1371] (by decide +kernel) (by decide +kernel)
set_option maxRecDepth 20000 in
theorem gL_law_X11_onShelf : GoodIn wsL_law (wsV RL 89 RX11 yX11_onShelf wsX11_onShelf) := goodIn_app (goodIn_of _ (by decide +kernel)) ggL_law_X11_onShelf
set_option maxRecDepth 20000 in
theorem ggL_law_X12_onShelf : GoodIn wsL_law wsX12_onShelf := goodIn_r _ [862, 211, 212, 213, 214, 352, 353, 354, 5, 355, 325, 246, 247, 248, 300, 301, 302, 303, 274, 1307, 1308, 1309, 1310, 1311, 1312, 1313, 1314, 1315, 1316, 1317, 1318, 1319, 1320, 1321, 1322, 1323, 1324, 1325, 1326, 1327, 1328, 1329, 1330, 1331, 1332, 1333, 1334, 1335, 1336, 1337, 1338, 1339, 1340, 1341, 1342, 1343, 1344, 1345, 1346, 1347, 1348, 1349, 1350, 1351, 1352, 1353, 1354, 1355, 1356, 1357, 1358, 1359, 1360, 1361, 1362, 1363, 1364, 1365] (by decide +kernel) (by decide +kernel)
set_option maxRecDepth 20000 in
theorem gL_law_X12_onShelf : GoodIn wsL_law (wsV RL 92 RX12 yX12_onShelf wsX12_onShelf) := goodIn_app (goodIn_of _ (by decide +kernel)) ggL_law_X12_onShelf
set_option maxRecDepth 20000 in
theorem ggL_law_X11_fall : GoodIn wsL_law wsX11_fall := goodIn_r _ [866, 24, 372, 42, 331, 332, 333, 23, 334, 83, 867, 868, 869, 41, 870, 130, 131, 871, 185, 186, 187, 1294, 1295, 1296, 1297, 1298, 1299, 1300, 1301, 1302, 1303, 1304, 1305, 1306, 1372, 1373, 1374, 1375, 1376, 1377, 1408, 1409, 1410, 1411, 1412, 1413, 1414, 1415, 1416, 1417, 1418, 1419] (by decide +kernel) (by decide +kernel)
set_option maxRecDepth 20000 in
theorem gL_law_X11_fall : GoodIn wsL_law (wsV RL 93 RX11 yX11_fall wsX11_fall) := goodIn_app (goodIn_of _ (by decide +kernel)) ggL_law_X11_fall
set_option maxRecDepth 20000 in
theorem ggL_law_X12_fall : GoodIn wsL_law wsX12_fall := goodIn_r _ [875, 198, 211, 212, 213, 352, 353, 354, 5, 355, 325, 246, 247, 248, 1307, 1308, 1309, 1310, 1311, 1312, 1313, 1314, 1315, 1316, 1317, 1318, 1319, 1320, 1321, 1322, 1323, 1324, 1325, 1326, 1327, 1328, 1329, 1330, 1331, 1332, 1333, 1334, 1335, 1336, 1337, 1338, 1339, 1340, 1341, 1342, 1343, 1344, 1345, 1346, 1347, 1348, 1349, 1350, 1351, 1352, 1353, 1354, 1355, 1356, 1357, 1358, 1359, 1360, 1361, 1362, 1363, 1364, 1365] (by decide +kernel) (by decide +kernel)
set_option maxRecDepth 20000 in
theorem gL_law_X12_fall : GoodIn wsL_law (wsV RL 96 RX12 yX12_fall wsX12_fall) := goodIn_app (goodIn_of _ (by decide +kernel)) ggL_law_X12_fall
set_option maxRecDepth 20000 in
theorem ggL_law_X11_half : GoodIn wsL_law wsX11_half := goodIn_r _ [879, 20, 24, 42, 855, 287, 288, 289, 19, 290, 73, 331, 332, 333, 23, 334, 83, 880, 881, 882, 41, 883, 139, 133, 134, 130, 811, 786, 787, 788, 82, 77, 344, 345, 346, 347, 1294, 1295, 1296, 1297, 1298, 1299, 1300, 1301, 1302, 1303, 1304, 1305, 1306, 1408, 1409, 1410, 1411, 1412, 1413, 1414, 1415, 1416, 1417, 1418, 1419, 1368, 1369, 1370, 1371, 1372, 1373, 1374, 1375, 1376, 1377] (by decide +kernel) (by decide +kernel)
set_option maxRecDepth 20000 in
theorem gL_law_X11_half : GoodIn wsL_law (wsV RL 97 RX11 yX11_half wsX11_half) := goodIn_app (goodIn_of _ (by decide +kernel)) ggL_law_X11_half
set_option maxRecDepth 20000 in
theorem ggL_law_X12_half : GoodIn wsL_law wsX12_half := goodIn_r _ [887, 211, 214, 215, 300, 301, 302, 5, 303, 274, 246, 247, 248, 352, 353, 354, 355, 325, 826, 827, 828, 829, 196, 198, 1307, 1308, 1309, 1310, 1311, 1312, 1313, 1314, 1315, 1316, 1317, 1318, 1319, 1320, 1321, 1322, 1323, 1324, 1325, 1326, 1327, 1328, 1329, 1330, 1331, 1332, 1333, 1334, 1335, 1336, 1337, 1338, 1339, 1340, 1341, 1342, 1343, 1344, 1345, 1346, 1347, 1348, 1349, 1350, 1351, 1352, 1353, 1354, 1355, 1356, 1357, 1358, 1359, 1360, 1361, 1362, 1363, 1364, 1365] (by decide +kernel) (by decide +kernel)
set_option maxRecDepth 20000 in
theorem gL_law_X12_half : GoodIn wsL_law (wsV RL 100 RX12 yX12_half wsX12_half) := goodIn_app (goodIn_of _ (by decide +kernel)) ggL_law_X12_half
set_option maxRecDepth 20000 in
theorem ggL_law_X11_mend : GoodIn wsL_law wsX11_mend := goodIn_r _ [891, 42, 577, 578, 579, 2, 580, 35, 34, 892, 893, 894, 41, 895, 140, 343, 141, 793, 794, 795, 139, 896, 897, 898, 899, 342, 802, 130, 846, 419, 416, 420, 796, 292, 293, 19, 294, 71, 69, 295, 797, 691, 692, 31, 693, 102, 103, 104, 101, 694, 695, 696, 415, 417, 107, 697, 99, 698, 646, 647, 648, 105, 649, 650, 651, 652, 653, 654, 106, 655, 595, 596, 37, 597, 494, 112, 119, 498, 499, 500, 656, 657, 658, 659, 660, 661, 662, 663, 664, 665, 666, 667, 668, 669, 670, 671, 672, 673, 674, 505, 506, 675, 676, 677, 678, 699, 700, 701, 702, 100, 703, 704, 705, 706, 811, 786, 787, 23, 788, 82, 77, 812, 813, 814, 815, 816, 817, 818, 819, 803, 820, 378, 379, 380, 381, 382, 383, 344, 345, 346, 347, 1294, 1295, 1296, 1297, 1298, 1299, 1300, 1301, 1302, 1303, 1304, 1305, 1306, 1408, 1409, 1410, 1411, 1412, 1413, 1414, 1415, 1416, 1417, 1418, 1419, 1368, 1369, 1370, 1371, 1395, 1396, 1397, 1398, 1399, 1400, 1401, 1402, 1403, 1404, 1405, 1406, 1407, 1386, 1387, 1388, 1389, 1390, 1391, 1392, 1393, 1394, 1372, 1373, 1374, 1375, 1376, 1377] (by decide +kernel) (by decide +kernel)
set_option maxRecDepth 20000 in
theorem gL_law_X11_mend : GoodIn wsL_law (wsV RL 101 RX11 yX11_mend wsX11_mend) := goodIn_app (goodIn_of _ (by decide +kernel)) ggL_law_X11_mend
set_option maxRecDepth 20000 in
theorem ggL_law_X12_mend : GoodIn wsL_law wsX12_mend := goodIn_r _ [903, 274, 325, 198, 211, 711, 228, 602, 603, 604, 5, 605, 515, 246, 247, 248, 712, 713, 714, 715, 200, 304, 305, 306, 307, 192, 193, 308, 716, 717, 718, 719, 618, 201, 227, 202, 614, 615, 616, 617, 199, 203, 619, 620, 621, 622, 206, 563, 564, 565, 566, 567, 524, 525, 526, 527, 623, 624, 625, 626, 209, 720, 721, 722, 723, 207, 724, 725, 726, 727, 826, 827, 828, 829, 196, 834, 835, 836, 837, 397, 398, 399, 400, 212, 1307, 1308, 1309, 1310, 1311, 1312, 1313, 1314, 1315, 1316, 1317, 1318, 1319, 1320, 1321, 1322, 1323, 1324, 1325, 1326, 1327, 1328, 1329, 1330, 1331, 1332, 1333, 1334, 1335, 1336, 1337, 1338, 1339, 1340, 1341, 1342, 1343, 1344, 1345, 1346, 1347, 1348, 1349, 1350, 1351, 1352, 1353, 1354, 1355, 1356, 1357, 1358, 1359, 1360, 1361, 1362, 1363, 1364, 1365] (by decide +kernel) (by decide +kernel)
set_option maxRecDepth 20000 in
theorem gL_law_X12_mend : GoodIn wsL_law (wsV RL 104 RX12 yX12_mend wsX12_mend) := goodIn_app (goodIn_of _ (by decide +kernel)) ggL_law_X12_mend
set_option maxRecDepth 20000 in
theorem ggL_law_X11_trees : GoodIn wsL_law wsX11_trees := goodIn_r _ [907, 24, 42, 331, 332, 333, 23, 334, 83, 908, 909, 910, 41, 911, 136, 137, 912, 913, 914, 915, 140, 343, 130, 871, 185, 186, 187, 916, 917, 918, 919, 920, 921, 922, 923, 1294, 1295, 1296, 1297, 1298, 1299, 1300, 1301, 1302, 1303, 1304, 1305, 1306, 1372, 1373, 1374, 1375, 1376, 1377, 1408, 1409, 1410, 1411, 1412, 1413, 1414, 1415, 1416, 1417, 1418, 1419, 1368, 1369, 1370, 1371] (by decide +kernel) (by decide +kernel)
set_option maxRecDepth 20000 in
theorem gL_law_X11_trees : GoodIn wsL_law (wsV RL 105 RX11 yX11_trees wsX11_trees) := goodIn_app (goodIn_of _ (by decide +kernel)) ggL_law_X11_trees
set_option maxRecDepth 20000 in
theorem ggL_law_X12_trees : GoodIn wsL_law wsX12_trees := goodIn_r _ [927, 352, 353, 354, 5, 355, 325, 246, 247, 248, 928, 929, 930, 931, 932, 933, 934, 935, 936, 937, 938, 939, 274, 211, 1307, 1308, 1309, 1310, 1311, 1312, 1313, 1314, 1315, 1316, 1317, 1318, 1319, 1320, 1321, 1322, 1323, 1324, 1325, 1326, 1327, 1328, 1329, 1330, 1331, 1332, 1333, 1334, 1335, 1336, 1337, 1338, 1339, 1340, 1341, 1342, 1343, 1344, 1345, 1346, 1347, 1348, 1349, 1350, 1351, 1352, 1353, 1354, 1355, 1356, 1357, 1358, 1359, 1360, 1361, 1362, 1363, 1364, 1365] (by decide +kernel) (by decide +kernel)
set_option maxRecDepth 20000 in
theorem gL_law_X12_trees : GoodIn wsL_law (wsV RL 108 RX12 yX12_trees wsX12_trees) := goodIn_app (goodIn_of _ (by decide +kernel)) ggL_law_X12_trees
set_option maxRecDepth 20000 in
theorem ggL_law_X11_noon : GoodIn wsL_law wsX11_noon := goodIn_r _ [943, 572, 577, 578, 579, 2, 580, 35, 34, 733, 440, 441, 442, 443, 444, 445, 944, 945, 946, 1395, 1396, 1397, 1398, 1399, 1400, 1401, 1402, 1403, 1404, 1405, 1406, 1407, 1294, 1295, 1296, 1297, 1298, 1299, 1300, 1301, 1302, 1303, 1304, 1305, 1306] (by decide +kernel) (by decide +kernel)
set_option maxRecDepth 20000 in
theorem gL_law_X11_noon : GoodIn wsL_law (wsV RL 109 RX11 yX11_noon wsX11_noon) := goodIn_app (goodIn_of _ (by decide +kernel)) ggL_law_X11_noon
set_option maxRecDepth 20000 in
theorem ggL_law_X12_noon : GoodIn wsL_law wsX12_noon := goodIn_r _ [950, 199, 602, 603, 604, 5, 605, 515, 246, 247, 248, 770, 771, 772, 1307, 1308, 1309, 1310, 1311, 1312, 1313, 1314, 1315, 1316, 1317, 1318, 1319, 1320, 1321, 1322, 1323, 1324, 1325, 1326, 1327, 1328, 1329, 1330, 1331, 1332, 1333, 1334, 1335, 1336, 1337, 1338, 1339, 1340, 1341, 1342, 1343, 1344, 1345, 1346, 1347, 1348, 1349, 1350, 1351, 1352, 1353, 1354, 1355, 1356, 1357, 1358, 1359, 1360, 1361, 1362, 1363, 1364, 1365] (by decide +kernel) (by decide +kernel)
set_option maxRecDepth 20000 in
theorem gL_law_X12_noon : GoodIn wsL_law (wsV RL 112 RX12 yX12_noon wsX12_noon) := goodIn_app (goodIn_of _ (by decide +kernel)) ggL_law_X12_noon
set_option maxRecDepth 20000 in
theorem ggL_law_X11_lies : GoodIn wsL_law wsX11_lies := goodIn_r _ [954, 24, 360, 955, 419, 416, 420, 331, 332, 333, 23, 334, 83, 944, 945, 2, 946, 1294, 1295, 1296, 1297, 1298, 1299, 1300, 1301, 1302, 1303, 1304, 1305, 1306, 1372, 1373, 1374, 1375, 1376, 1377] (by decide +kernel) (by decide +kernel)
set_option maxRecDepth 20000 in
theorem gL_law_X11_lies : GoodIn wsL_law (wsV RL 113 RX11 yX11_lies wsX11_lies) := goodIn_app (goodIn_of _ (by decide +kernel)) ggL_law_X11_lies
set_option maxRecDepth 20000 in
theorem ggL_law_X12_lies : GoodIn wsL_law wsX12_lies := goodIn_r _ [959, 195, 352, 353, 354, 5, 355, 325, 246, 247, 248, 1307, 1308, 1309, 1310, 1311, 1312, 1313, 1314, 1315, 1316, 1317, 1318, 1319, 1320, 1321, 1322, 1323, 1324, 1325, 1326, 1327, 1328, 1329, 1330, 1331, 1332, 1333, 1334, 1335, 1336, 1337, 1338, 1339, 1340, 1341, 1342, 1343, 1344, 1345, 1346, 1347, 1348, 1349, 1350, 1351, 1352, 1353, 1354, 1355, 1356, 1357, 1358, 1359, 1360, 1361, 1362, 1363, 1364, 1365] (by decide +kernel) (by decide +kernel)
set_option maxRecDepth 20000 in
theorem gL_law_X12_lies : GoodIn wsL_law (wsV RL 117 RX12 yX12_lies wsX12_lies) := goodIn_app (goodIn_of _ (by decide +kernel)) ggL_law_X12_lies
set_option maxRecDepth 20000 in
theorem ggL_law_X11_comes : GoodIn wsL_law wsX11_comes := goodIn_r _ [963, 24, 46, 964, 965, 331, 332, 333, 23, 334, 83, 966, 967, 968, 45, 969, 147, 146, 1294, 1295, 1296, 1297, 1298, 1299, 1300, 1301, 1302, 1303, 1304, 1305, 1306, 1420, 1421, 1422, 1423, 1424, 1425, 1426, 1427, 1428, 1429, 1372, 1373, 1374, 1375, 1376, 1377] (by decide +kernel) (by decide +kernel)
set_option maxRecDepth 20000 in
theorem gL_law_X11_comes : GoodIn wsL_law (wsV RL 118 RX11 yX11_comes wsX11_comes) := goodIn_app (goodIn_of _ (by decide +kernel)) ggL_law_X11_comes
set_option maxRecDepth 20000 in
theorem ggL_law_X12_comes : GoodIn wsL_law wsX12_comes := goodIn_r _ [973, 974, 217, 352, 353, 354, 5, 355, 325, 246, 247, 248, 975, 976, 977, 978, 1307, 1308, 1309, 1310, 1311, 1312, 1313, 1314, 1315, 1316, 1317, 1318, 1319, 1320, 1321, 1322, 1323, 1324, 1325, 1326, 1327, 1328, 1329, 1330, 1331, 1332, 1333, 1334, 1335, 1336, 1337, 1338, 1339, 1340, 1341, 1342, 1343, 1344, 1345, 1346, 1347, 1348, 1349, 1350, 1351, 1352, 1353, 1354, 1355, 1356, 1357, 1358, 1359, 1360, 1361, 1362, 1363, 1364, 1365] (by decide +kernel) (by decide +kernel)
set_option maxRecDepth 20000 in
theorem gL_law_X12_comes : GoodIn wsL_law (wsV RL 121 RX12 yX12_comes wsX12_comes) := goodIn_app (goodIn_of _ (by decide +kernel)) ggL_law_X12_comes
set_option maxRecDepth 20000 in
theorem ggL_law_X11_order : GoodIn wsL_law wsX11_order := goodIn_r _ [982, 46, 964, 38, 577, 578, 579, 2, 580, 35, 34, 983, 984, 985, 45, 986, 147, 152, 987, 988, 989, 990, 146, 991, 992, 153, 156, 993, 154, 994, 155, 151, 995, 996, 486, 487, 37, 488, 111, 119, 421, 267, 268, 269, 121, 117, 113, 114, 115, 489, 411, 412, 413, 414, 415, 416, 417, 418, 419, 420, 997, 374, 375, 23, 376, 77, 79, 998, 423, 424, 27, 425, 426, 87, 427, 88, 89, 90, 428, 429, 430, 431, 432, 433, 434, 435, 91, 93, 94, 436, 437, 438, 92, 439, 440, 441, 442, 443, 444, 445, 446, 447, 448, 449, 450, 451, 452, 453, 454, 455, 456, 457, 458, 459, 460, 461, 462, 463, 464, 465, 466, 467, 468, 469, 470, 471, 472, 473, 474, 475, 476, 477, 478, 479, 480, 481, 482, 483, 484, 999, 491, 492, 493, 112, 116, 118, 122, 494, 495, 496, 186, 497, 498, 499, 500, 501, 502, 503, 504, 505, 506, 507, 508, 509, 510, 124, 1000, 292, 293, 19, 294, 71, 69, 295, 1001, 691, 692, 31, 693, 102, 103, 104, 101, 694, 695, 696, 107, 697, 99, 698, 646, 647, 648, 105, 649, 650, 651, 652, 653, 654, 106, 655, 595, 596, 597, 656, 657, 658, 659, 660, 661, 662, 663, 664, 665, 666, 667, 668, 669, 670, 671, 672, 673, 674, 675, 676, 677, 678, 699, 700, 701, 702, 100, 703, 704, 705, 706, 1002, 1003, 1004, 1005, 1006, 1007, 1008, 1009, 1010, 1011, 1012, 1013, 1014, 149, 148, 1015, 1016, 1017, 1018, 1294, 1295, 1296, 1297, 1298, 1299, 1300, 1301, 1302, 1303, 1304, 1305, 1306, 1420, 1421, 1422, 1423, 1424, 1425, 1426, 1427, 1428, 1429, 1395, 1396, 1397, 1398, 1399, 1400, 1401, 1402, 1403, 1404, 1405, 1406, 1407, 1368, 1369, 1370, 1371, 1386, 1387, 1388, 1389, 1390, 1391, 1392, 1393, 1394, 1372, 1373, 1374, 1375, 1376, 1377, 1378, 1379, 1380, 1381, 1382, 1383, 1384, 1385] (by decide +kernel) (by decide +kernel)
set_option maxRecDepth 20000 in
theorem gL_law_X11_order : GoodIn wsL_law (wsV RL 122 RX11 yX11_order wsX11_order) := goodIn_app (goodIn_of _ (by decide +kernel)) ggL_law_X11_order
set_option maxRecDepth 20000 in
theorem ggL_law_X12_order : GoodIn wsL_law wsX12_order := goodIn_r _ [1022, 974, 200, 274, 230, 231, 1023, 218, 602, 603, 604, 5, 605, 515, 246, 247, 248, 1024, 1025, 1026, 1027, 199, 217, 1028, 1029, 1030, 1031, 204, 205, 325, 206, 207, 194, 524, 525, 526, 527, 393, 394, 395, 396, 196, 195, 516, 517, 518, 519, 520, 521, 522, 523, 528, 529, 530, 531, 532, 533, 534, 535, 201, 202, 203, 536, 537, 538, 539, 540, 541, 542, 543, 544, 545, 546, 547, 548, 549, 550, 551, 552, 553, 554, 555, 556, 557, 558, 559, 560, 561, 562, 209, 208, 563, 564, 565, 566, 567, 712, 713, 714, 715, 304, 305, 306, 307, 192, 193, 308, 716, 717, 718, 719, 711, 618, 227, 228, 614, 615, 616, 617, 619, 620, 621, 622, 623, 624, 625, 626, 720, 721, 722, 723, 724, 725, 726, 727, 766, 767, 768, 769, 1032, 1033, 1034, 1035, 770, 771, 772, 1036, 1037, 1038, 1039, 1307, 1308, 1309, 1310, 1311, 1312, 1313, 1314, 1315, 1316, 1317, 1318, 1319, 1320, 1321, 1322, 1323, 1324, 1325, 1326, 1327, 1328, 1329, 1330, 1331, 1332, 1333, 1334, 1335, 1336, 1337, 1338, 1339, 1340, 1341, 1342, 1343, 1344, 1345, 1346, 1347, 1348, 1349, 1350, 1351, 1352, 1353, 1354, 1355, 1356, 1357, 1358, 1359, 1360, 1361, 1362, 1363, 1364, 1365] (by decide +kernel) (by decide +kernel)
set_option maxRecDepth 20000 in
theorem gL_law_X12_order : GoodIn wsL_law (wsV RL 125 RX12 yX12_order wsX12_order) := goodIn_app (goodIn_of _ (by decide +kernel)) ggL_law_X12_order
set_option maxRecDepth 20000 in
theorem ggL_law_X11_ordered : GoodIn wsL_law wsX11_ordered := goodIn_r _ [1043, 46, 1044, 1045, 1294, 1295, 1296, 1297, 1298, 1299, 1300, 1301, 1302, 1303, 1304, 1305, 1306, 1420, 1421, 1422, 1423, 1424, 1425, 1426, 1427, 1428, 1429] (by decide +kernel) (by decide +kernel)
set_option maxRecDepth 20000 in
theorem gL_law_X11_ordered : GoodIn wsL_law (wsV RL 126 RX11 yX11_ordered wsX11_ordered) := goodIn_app (goodIn_of _ (by decide +kernel)) ggL_law_X11_ordered
set_option maxRecDepth 20000 in
theorem ggL_law_X12_ordered : GoodIn wsL_law wsX12_ordered := goodIn_r _ [1049, 1023, 218, 246, 247, 5, 248, 1307, 1308, 1309, 1310, 1311, 1312, 1313, 1314, 1315, 1316, 1317, 1318, 1319, 1320, 1321, 1322, 1323, 1324, 1325, 1326, 1327, 1328, 1329, 1330, 1331, 1332, 1333, 1334, 1335, 1336, 1337, 1338, 1339, 1340, 1341, 1342, 1343, 1344, 1345, 1346, 1347, 1348, 1349, 1350, 1351, 1352, 1353, 1354, 1355, 1356, 1357, 1358, 1359, 1360, 1361, 1362, 1363, 1364, 1365] (by decide +kernel) (by decide +kernel)
set_option maxRecDepth 20000 in
theorem gL_law_X12_ordered : GoodIn wsL_law (wsV RL 129 RX12 yX12_ordered wsX12_ordered) := goodIn_app (goodIn_of _ (by decide +kernel)) ggL_law_X12_ordered
set_option maxRecDepth 20000 in
theorem ggL_law_X11_turning : GoodIn wsL_law wsX11_turning := goodIn_r _ [1053, 50, 1054, 1055, 1294, 1295, 1296, 1297, 1298, 1299, 1300, 1301, 1302, 1303, 1304, 1305, 1306, 1430, 1431, 1432, 1433, 1434] (by decide +kernel) (by decide +kernel)
set_option maxRecDepth 20000 in
theorem gL_law_X11_turning : GoodIn wsL_law (wsV RL 130 RX11 yX11_turning wsX11_turning) := goodIn_app (goodIn_of _ (by decide +kernel)) ggL_law_X11_turning
set_option maxRecDepth 20000 in
theorem ggL_law_X12_turning : GoodIn wsL_law wsX12_turning := goodIn_r _ [1059, 1060, 219, 1307, 1308, 1309, 1310, 1311, 1312, 1313, 1314, 1315, 1316, 1317, 1318, 1319, 1320, 1321, 1322, 1323, 1324, 1325, 1326, 1327, 1328, 1329, 1330, 1331, 1332, 1333, 1334, 1335, 1336, 1337, 1338, 1339, 1340, 1341, 1342, 1343, 1344, 1345, 1346, 1347, 1348, 1349, 1350, 1351, 1352, 1353, 1354, 1355, 1356, 1357, 1358, 1359, 1360, 1361, 1362, 1363, 1364, 1365] (by decide +kernel) (by decide +kernel)
set_option maxRecDepth 20000 in
theorem gL_law_X12_turning : GoodIn wsL_law (wsV RL 133 RX12 yX12_turning wsX12_turning) := goodIn_app (goodIn_of _ (by decide +kernel)) ggL_law_X12_turning
set_option maxRecDepth 20000 in
theorem ggL_law_X11_harm : GoodIn wsL_law wsX11_harm := goodIn_r _ [1064, 50, 1054, 38, 577, 578, 579, 2, 580, 35, 34, 1065, 1066, 1067, 49, 1068, 162, 161, 163, 1069, 486, 487, 37, 488, 111, 119, 421, 267, 268, 269, 121, 117, 113, 114, 115, 489, 411, 412, 413, 414, 415, 416, 417, 418, 419, 420, 1070, 491, 492, 493, 112, 116, 118, 122, 494, 495, 496, 186, 497, 498, 499, 500, 501, 502, 503, 504, 505, 506, 507, 508, 509, 510, 124, 1071, 1072, 1073, 1074, 164, 165, 1075, 1076, 1077, 1078, 185, 187, 1079, 292, 293, 19, 294, 71, 69, 295, 1080, 591, 592, 593, 594, 595, 596, 597, 1294, 1295, 1296, 1297, 1298, 1299, 1300, 1301, 1302, 1303, 1304, 1305, 1306, 1430, 1431, 1432, 1433, 1434, 1395, 1396, 1397, 1398, 1399, 1400, 1401, 1402, 1403, 1404, 1405, 1406, 1407, 1368, 1369, 1370, 1371] (by decide +kernel) (by decide +kernel)
set_option maxRecDepth 20000 in
theorem gL_law_X11_harm : GoodIn wsL_law (wsV RL 134 RX11 yX11_harm wsX11_harm) := goodIn_app (goodIn_of _ (by decide +kernel)) ggL_law_X11_harm
set_option maxRecDepth 20000 in
theorem ggL_law_X12_harm : GoodIn wsL_law wsX12_harm := goodIn_r _ [1084, 1060, 199, 219, 325, 220, 602, 603, 604, 5, 605, 515, 246, 247, 248, 1028, 1029, 1030, 1031, 200, 204, 205, 206, 207, 194, 524, 525, 526, 527, 393, 394, 395, 396, 196, 195, 516, 517, 518, 519, 520, 521, 522, 523, 528, 529, 530, 531, 532, 533, 534, 535, 201, 202, 203, 536, 537, 538, 539, 540, 541, 542, 543, 544, 545, 546, 547, 548, 549, 550, 551, 552, 553, 554, 555, 556, 557, 558, 559, 560, 561, 562, 209, 208, 563, 564, 565, 566, 567, 749, 750, 751, 752, 274, 227, 304, 305, 306, 307, 192, 193, 308, 614, 615, 616, 617, 618, 619, 620, 621, 622, 623, 624, 625, 626, 1307, 1308, 1309, 1310, 1311, 1312, 1313, 1314, 1315, 1316, 1317, 1318, 1319, 1320, 1321, 1322, 1323, 1324, 1325, 1326, 1327, 1328, 1329, 1330, 1331, 1332, 1333, 1334, 1335, 1336, 1337, 1338, 1339, 1340, 1341, 1342, 1343, 1344, 1345, 1346, 1347, 1348, 1349, 1350, 1351, 1352, 1353, 1354, 1355, 1356, 1357, 1358, 1359, 1360, 1361, 1362, 1363, 1364, 1365] (by decide +kernel) (by decide +kernel)
set_option maxRecDepth 20000 in
theorem gL_law_X12_harm : GoodIn wsL_law (wsV RL 137 RX12 yX12_harm wsX12_harm) := goodIn_app (goodIn_of _ (by decide +kernel)) ggL_law_X12_harm
set_option maxRecDepth 20000 in
theorem ggL_law_X11_harmed : GoodIn wsL_law wsX11_harmed := goodIn_r _ [1088, 50, 1089, 1294, 1295, 1296, 1297, 1298, 1299, 1300, 1301, 1302, 1303, 1304, 1305, 1306, 1430, 1431, 1432, 1433, 1434] (by decide +kernel) (by decide +kernel)
set_option maxRecDepth 20000 in
theorem gL_law_X11_harmed : GoodIn wsL_law (wsV RL 138 RX11 yX11_harmed wsX11_harmed) := goodIn_app (goodIn_of _ (by decide +kernel)) ggL_law_X11_harmed
set_option maxRecDepth 20000 in
theorem ggL_law_X12_harmed : GoodIn wsL_law wsX12_harmed := goodIn_r _ [1093, 220, 1307, 1308, 1309, 1310, 1311, 1312, 1313, 1314, 1315, 1316, 1317, 1318, 1319, 1320, 1321, 1322, 1323, 1324, 1325, 1326, 1327, 1328, 1329, 1330, 1331, 1332, 1333, 1334, 1335, 1336, 1337, 1338, 1339, 1340, 1341, 1342, 1343, 1344, 1345, 1346, 1347, 1348, 1349, 1350, 1351, 1352, 1353, 1354, 1355, 1356, 1357, 1358, 1359, 1360, 1361, 1362, 1363, 1364, 1365] (by decide +kernel) (by decide +kernel)
set_option maxRecDepth 20000 in
theorem gL_law_X12_harmed : GoodIn wsL_law (wsV RL 141 RX12 yX12_harmed wsX12_harmed) := goodIn_app (goodIn_of _ (by decide +kernel)) ggL_law_X12_harmed
set_option maxRecDepth 20000 in
theorem ggL_law_X11_act : GoodIn wsL_law wsX11_act := goodIn_r _ [1097, 54, 1098, 24, 360, 330, 331, 332, 333, 23, 334, 83, 1099, 1100, 1101, 53, 1102, 172, 173, 171, 1103, 1104, 1105, 1106, 1107, 1108, 1109, 1110, 170, 169, 1111, 1112, 1113, 1114, 1115, 1116, 1117, 1118, 1119, 1120, 1121, 1122, 1294, 1295, 1296, 1297, 1298, 1299, 1300, 1301, 1302, 1303, 1304, 1305, 1306, 1435, 1436, 1437, 1438, 1439, 1372, 1373, 1374, 1375, 1376, 1377] (by decide +kernel) (by decide +kernel)
set_option maxRecDepth 20000 in
theorem gL_law_X11_act : GoodIn wsL_law (wsV RL 142 RX11 yX11_act wsX11_act) := goodIn_app (goodIn_of _ (by decide +kernel)) ggL_law_X11_act
set_option maxRecDepth 20000 in
theorem ggL_law_X12_act : GoodIn wsL_law wsX12_act := goodIn_r _ [1126, 1127, 196, 352, 353, 354, 5, 355, 325, 246, 247, 248, 1128, 1129, 1130, 1131, 195, 1132, 1133, 1134, 1135, 221, 1136, 1137, 1138, 1139, 1140, 1141, 1142, 1143, 1144, 1145, 1146, 1147, 1148, 1149, 1150, 1307, 1308, 1309, 1310, 1311, 1312, 1313, 1314, 1315, 1316, 1317, 1318, 1319, 1320, 1321, 1322, 1323, 1324, 1325, 1326, 1327, 1328, 1329, 1330, 1331, 1332, 1333, 1334, 1335, 1336, 1337, 1338, 1339, 1340, 1341, 1342, 1343, 1344, 1345, 1346, 1347, 1348, 1349, 1350, 1351, 1352, 1353, 1354, 1355, 1356, 1357, 1358, 1359, 1360, 1361, 1362, 1363, 1364, 1365] (by decide +kernel) (by decide +kernel)
set_option maxRecDepth 20000 in
theorem gL_law_X12_act : GoodIn wsL_law (wsV RL 145 RX12 yX12_act wsX12_act) := goodIn_app (goodIn_of _ (by decide +kernel)) ggL_law_X12_act
set_option maxRecDepth 20000 in
theorem ggL_law_X11_trace : GoodIn wsL_law wsX11_trace := goodIn_r _ [1154, 54, 1098, 1155, 1294, 1295, 1296, 1297, 1298, 1299, 1300, 1301, 1302, 1303, 1304, 1305, 1306, 1435, 1436, 1437, 1438, 1439] (by decide +kernel) (by decide +kernel)
set_option maxRecDepth 20000 in
theorem gL_law_X11_trace : GoodIn wsL_law (wsV RL 146 RX11 yX11_trace wsX11_trace) := goodIn_app (goodIn_of _ (by decide +kernel)) ggL_law_X11_trace
set_option maxRecDepth 20000 in
theorem ggL_law_X12_trace : GoodIn wsL_law wsX12_trace := goodIn_r _ [1159, 1127, 221, 1307, 1308, 1309, 1310, 1311, 1312, 1313, 1314, 1315, 1316, 1317, 1318, 1319, 1320, 1321, 1322, 1323, 1324, 1325, 1326, 1327, 1328, 1329, 1330, 1331, 1332, 1333, 1334, 1335, 1336, 1337, 1338, 1339, 1340, 1341, 1342, 1343, 1344, 1345, 1346, 1347, 1348, 1349, 1350, 1351, 1352, 1353, 1354, 1355, 1356, 1357, 1358, 1359, 1360, 1361, 1362, 1363, 1364, 1365] (by decide +kernel) (by decide +kernel)
set_option maxRecDepth 20000 in
theorem gL_law_X12_trace : GoodIn wsL_law (wsV RL 149 RX12 yX12_trace wsX12_trace) := goodIn_app (goodIn_of _ (by decide +kernel)) ggL_law_X12_trace
set_option maxRecDepth 20000 in
theorem ggL_law_X11_keep : GoodIn wsL_law wsX11_keep := goodIn_r _ [1163, 24, 58, 1164, 1165, 2, 1166, 331, 332, 333, 23, 334, 83, 1167, 1168, 1169, 57, 1170, 178, 179, 180, 1294, 1295, 1296, 1297, 1298, 1299, 1300, 1301, 1302, 1303, 1304, 1305, 1306, 1372, 1373, 1374, 1375, 1376, 1377, 1440, 1441, 1442, 1443] (by decide +kernel) (by decide +kernel)
set_option maxRecDepth 20000 in
theorem gL_law_X11_keep : GoodIn wsL_law (wsV RL 150 RX11 yX11_keep wsX11_keep) := goodIn_app (goodIn_of _ (by decide +kernel)) ggL_law_X11_keep
set_option maxRecDepth 20000 in
theorem ggL_law_X12_keep : GoodIn wsL_law wsX12_keep := goodIn_r _ [1174, 222, 223, 1175, 1176, 5, 1177, 246, 247, 248, 352, 353, 354, 355, 325, 1307, 1308, 1309, 1310, 1311, 1312, 1313, 1314, 1315, 1316, 1317, 1318, 1319, 1320, 1321, 1322, 1323, 1324, 1325, 1326, 1327, 1328, 1329, 1330, 1331, 1332, 1333, 1334, 1335, 1336, 1337, 1338, 1339, 1340, 1341, 1342, 1343, 1344, 1345, 1346, 1347, 1348, 1349, 1350, 1351, 1352, 1353, 1354, 1355, 1356, 1357, 1358, 1359, 1360, 1361, 1362, 1363, 1364, 1365] (by decide +kernel) (by decide +kernel)
set_option maxRecDepth 20000 in
theorem gL_law_X12_keep : GoodIn wsL_law (wsV RL 153 RX12 yX12_keep wsX12_keep) := goodIn_app (goodIn_of _ (by decide +kernel)) ggL_law_X12_keep
set_option maxRecDepth 20000 in
theorem ggL_law_X11_row : GoodIn wsL_law wsX11_row := goodIn_r _ [1181, 58, 1164, 1165, 2, 1166, 1182, 1183, 1184, 57, 1185, 178, 179, 180, 183, 1186, 1187, 186, 1188, 1294, 1295, 1296, 1297, 1298, 1299, 1300, 1301, 1302, 1303, 1304, 1305, 1306, 1440, 1441, 1442, 1443] (by decide +kernel) (by decide +kernel)
set_option maxRecDepth 20000 in
theorem gL_law_X11_row : GoodIn wsL_law (wsV RL 154 RX11 yX11_row wsX11_row) := goodIn_app (goodIn_of _ (by decide +kernel)) ggL_law_X11_row
set_option maxRecDepth 20000 in
theorem ggL_law_X12_row : GoodIn wsL_law wsX12_row := goodIn_r _ [1192, 222, 223, 224, 225, 1175, 1176, 5, 1177, 246, 247, 248, 1307, 1308, 1309, 1310, 1311, 1312, 1313, 1314, 1315, 1316, 1317, 1318, 1319, 1320, 1321, 1322, 1323, 1324, 1325, 1326, 1327, 1328, 1329, 1330, 1331, 1332, 1333, 1334, 1335, 1336, 1337, 1338, 1339, 1340, 1341, 1342, 1343, 1344, 1345, 1346, 1347, 1348, 1349, 1350, 1351, 1352, 1353, 1354, 1355, 1356, 1357, 1358, 1359, 1360, 1361, 1362, 1363, 1364, 1365] (by decide +kernel) (by decide +kernel)
set_option maxRecDepth 20000 in
theorem gL_law_X12_row : GoodIn wsL_law (wsV RL 157 RX12 yX12_row wsX12_row) := goodIn_app (goodIn_of _ (by decide +kernel)) ggL_law_X12_row
set_option maxRecDepth 20000 in
theorem ggL_law_X11_put : GoodIn wsL_law wsX11_put := goodIn_r _ [1196, 58, 1197, 1198, 1164, 1165, 2, 1166, 1199, 1200, 1201, 57, 1202, 180, 1203, 1204, 1205, 1206, 179, 178, 1207, 1208, 1209, 1210, 1211, 1212, 1213, 1294, 1295, 1296, 1297, 1298, 1299, 1300, 1301, 1302, 1303, 1304, 1305, 1306, 1440, 1441, 1442, 1443] (by decide +kernel) (by decide +kernel)
set_option maxRecDepth 20000 in
theorem gL_law_X11_put : GoodIn wsL_law (wsV RL 160 RX11 yX11_put wsX11_put) := goodIn_app (goodIn_of _ (by decide +kernel)) ggL_law_X11_put
set_option maxRecDepth 20000 in
theorem ggL_law_X12_put : GoodIn wsL_law wsX12_put := goodIn_r _ [1217, 223, 225, 1218, 1219, 1220, 5, 1221, 222, 224, 1175, 1176, 1177, 246, 247, 248, 1307, 1308, 1309, 1310, 1311, 1312, 1313, 1314, 1315, 1316, 1317, 1318, 1319, 1320, 1321, 1322, 1323, 1324, 1325, 1326, 1327, 1328, 1329, 1330, 1331, 1332, 1333, 1334, 1335, 1336, 1337, 1338, 1339, 1340, 1341, 1342, 1343, 1344, 1345, 1346, 1347, 1348, 1349, 1350, 1351, 1352, 1353, 1354, 1355, 1356, 1357, 1358, 1359, 1360, 1361, 1362, 1363, 1364, 1365] (by decide +kernel) (by decide +kernel)
set_option maxRecDepth 20000 in
theorem gL_law_X12_put : GoodIn wsL_law (wsV RL 164 RX12 yX12_put wsX12_put) := goodIn_app (goodIn_of _ (by decide +kernel)) ggL_law_X12_put
set_option maxRecDepth 20000 in
theorem ggL_law_X11_element : GoodIn wsL_law wsX11_element := goodIn_r _ [1225, 58, 1226, 1197, 1164, 1165, 2, 1166, 1199, 1200, 1201, 57, 1202, 180, 1203, 1204, 1205, 1206, 179, 178, 1207, 1208, 1209, 1210, 1294, 1295, 1296, 1297, 1298, 1299, 1300, 1301, 1302, 1303, 1304, 1305, 1306, 1440, 1441, 1442, 1443] (by decide +kernel) (by decide +kernel)
set_option maxRecDepth 20000 in
theorem gL_law_X11_element : GoodIn wsL_law (wsV RL 165 RX11 yX11_element wsX11_element) := goodIn_app (goodIn_of _ (by decide +kernel)) ggL_law_X11_element
set_option maxRecDepth 20000 in
theorem ggL_law_X12_element : GoodIn wsL_law wsX12_element := goodIn_r _ [1230, 1231, 225, 1218, 1219, 1220, 5, 1221, 223, 222, 224, 1175, 1176, 1177, 246, 247, 248, 1307, 1308, 1309, 1310, 1311, 1312, 1313, 1314, 1315, 1316, 1317, 1318, 1319, 1320, 1321, 1322, 1323, 1324, 1325, 1326, 1327, 1328, 1329, 1330, 1331, 1332, 1333, 1334, 1335, 1336, 1337, 1338, 1339, 1340, 1341, 1342, 1343, 1344, 1345, 1346, 1347, 1348, 1349, 1350, 1351, 1352, 1353, 1354, 1355, 1356, 1357, 1358, 1359, 1360, 1361, 1362, 1363, 1364, 1365] (by decide +kernel) (by decide +kernel)
set_option maxRecDepth 20000 in
theorem gL_law_X12_element : GoodIn wsL_law (wsV RL 169 RX12 yX12_element wsX12_element) := goodIn_app (goodIn_of _ (by decide +kernel)) ggL_law_X12_element
set_option maxRecDepth 20000 in
theorem ggL_law_X11_shift : GoodIn wsL_law wsX11_shift := goodIn_r _ [1235, 58, 1198, 1197, 1236, 267, 268, 269, 1164, 1165, 2, 1166, 1237, 1204, 1205, 57, 1206, 179, 178, 1238, 1208, 1209, 1210, 1239, 1240, 1241, 1242, 180, 1294, 1295, 1296, 1297, 1298, 1299, 1300, 1301, 1302, 1303, 1304, 1305, 1306, 1440, 1441, 1442, 1443] (by decide +kernel) (by decide +kernel)
set_option maxRecDepth 20000 in
theorem gL_law_X11_shift : GoodIn wsL_law (wsV RL 170 RX11 yX11_shift wsX11_shift) := goodIn_app (goodIn_of _ (by decide +kernel)) ggL_law_X11_shift
set_option maxRecDepth 20000 in
theorem ggL_law_X12_shift : GoodIn wsL_law wsX12_shift := goodIn_r _ [1246, 223, 222, 224, 225, 1175, 1176, 5, 1177, 246, 247, 248, 1307, 1308, 1309, 1310, 1311, 1312, 1313, 1314, 1315, 1316, 1317, 1318, 1319, 1320, 1321, 1322, 1323, 1324, 1325, 1326, 1327, 1328, 1329, 1330, 1331, 1332, 1333, 1334, 1335, 1336, 1337, 1338, 1339, 1340, 1341, 1342, 1343, 1344, 1345, 1346, 1347, 1348, 1349, 1350, 1351, 1352, 1353, 1354, 1355, 1356, 1357, 1358, 1359, 1360, 1361, 1362, 1363, 1364, 1365] (by decide +kernel) (by decide +kernel)
set_option maxRecDepth 20000 in
theorem gL_law_X12_shift : GoodIn wsL_law (wsV RL 174 RX12 yX12_shift wsX12_shift) := goodIn_app (goodIn_of _ (by decide +kernel)) ggL_law_X12_shift
set_option maxRecDepth 20000 in
theorem ggL_law_X11_taken : GoodIn wsL_law wsX11_taken := goodIn_r _ [1250, 58, 1251, 24, 330, 1164, 1165, 2, 1166, 335, 336, 337, 1237, 1204, 1205, 57, 1206, 179, 178, 331, 332, 333, 23, 334, 83, 1252, 1253, 1254, 1255, 1294, 1295, 1296, 1297, 1298, 1299, 1300, 1301, 1302, 1303, 1304, 1305, 1306, 1440, 1441, 1442, 1443, 1372, 1373, 1374, 1375, 1376, 1377] (by decide +kernel) (by decide +kernel)
set_option maxRecDepth 20000 in
theorem gL_law_X11_taken : GoodIn wsL_law (wsV RL 175 RX11 yX11_taken wsX11_taken) := goodIn_app (goodIn_of _ (by decide +kernel)) ggL_law_X11_taken
set_option maxRecDepth 20000 in
theorem ggL_law_X12_taken : GoodIn wsL_law wsX12_taken := goodIn_r _ [1259, 223, 222, 196, 1175, 1176, 5, 1177, 246, 247, 248, 1307, 1308, 1309, 1310, 1311, 1312, 1313, 1314, 1315, 1316, 1317, 1318, 1319, 1320, 1321, 1322, 1323, 1324, 1325, 1326, 1327, 1328, 1329, 1330, 1331, 1332, 1333, 1334, 1335, 1336, 1337, 1338, 1339, 1340, 1341, 1342, 1343, 1344, 1345, 1346, 1347, 1348, 1349, 1350, 1351, 1352, 1353, 1354, 1355, 1356, 1357, 1358, 1359, 1360, 1361, 1362, 1363, 1364, 1365] (by decide +kernel) (by decide +kernel)
set_option maxRecDepth 20000 in
theorem gL_law_X12_taken : GoodIn wsL_law (wsV RL 178 RX12 yX12_taken wsX12_taken) := goodIn_app (goodIn_of _ (by decide +kernel)) ggL_law_X12_taken
set_option maxRecDepth 20000 in
theorem ggL_law_X11_names : GoodIn wsL_law wsX11_names := goodIn_r _ [1263, 58, 1198, 20, 1197, 1264, 1164, 1165, 2, 1166, 1237, 1204, 1205, 57, 1206, 179, 178, 1238, 1208, 1209, 1210, 1265, 1266, 1267, 19, 1268, 1269, 72, 1270, 256, 257, 258, 73, 71, 69, 259, 260, 261, 1271, 263, 264, 265, 266, 267, 268, 269, 1294, 1295, 1296, 1297, 1298, 1299, 1300, 1301, 1302, 1303, 1304, 1305, 1306, 1440, 1441, 1442, 1443, 1368, 1369, 1370, 1371] (by decide +kernel) (by decide +kernel)
set_option maxRecDepth 20000 in
theorem gL_law_X11_names : GoodIn wsL_law (wsV RL 179 RX11 yX11_names wsX11_names) := goodIn_app (goodIn_of _ (by decide +kernel)) ggL_law_X11_names
set_option maxRecDepth 20000 in
theorem ggL_law_X12_names : GoodIn wsL_law wsX12_names := goodIn_r _ [1275, 222, 223, 224, 225, 226, 274, 1175, 1176, 5, 1177, 246, 247, 248, 275, 276, 277, 278, 192, 193, 279, 280, 281, 282, 1307, 1308, 1309, 1310, 1311, 1312, 1313, 1314, 1315, 1316, 1317, 1318, 1319, 1320, 1321, 1322, 1323, 1324, 1325, 1326, 1327, 1328, 1329, 1330, 1331, 1332, 1333, 1334, 1335, 1336, 1337, 1338, 1339, 1340, 1341, 1342, 1343, 1344, 1345, 1346, 1347, 1348, 1349, 1350, 1351, 1352, 1353, 1354, 1355, 1356, 1357, 1358, 1359, 1360, 1361, 1362, 1363, 1364, 1365] (by decide +kernel) (by decide +kernel)
set_option maxRecDepth 20000 in
theorem gL_law_X12_names : GoodIn wsL_law (wsV RL 182 RX12 yX12_names wsX12_names) := goodIn_app (goodIn_of _ (by decide +kernel)) ggL_law_X12_names
set_option maxRecDepth 20000 in
theorem ggL_law_X11_count : GoodIn wsL_law wsX11_count := goodIn_r _ [1279, 20, 254, 24, 313, 35, 16, 236, 42, 1280, 54, 1098, 1281, 1282, 1283, 41, 1284, 139, 342, 820, 378, 379, 380, 130, 381, 382, 383, 1285, 1286, 1287, 1288, 1289, 385, 386, 387, 131, 1294, 1295, 1296, 1297, 1298, 1299, 1300, 1301, 1302, 1303, 1304, 1305, 1306, 1368, 1369, 1370, 1371, 1372, 1373, 1374, 1375, 1376, 1377, 1366, 1367, 1408, 1409, 1410, 1411, 1412, 1413, 1414, 1415, 1416, 1417, 1418, 1419, 1435, 1436, 1437, 1438, 1439] (by decide +kernel) (by decide +kernel)
set_option maxRecDepth 20000 in
theorem gL_law_X11_count : GoodIn wsL_law (wsV RL 183 RX11 yX11_count wsX11_count) := goodIn_app (goodIn_of _ (by decide +kernel)) ggL_law_X11_count
set_option maxRecDepth 20000 in
theorem ggL_law_X12_count : GoodIn wsL_law wsX12_count := goodIn_r _ [1293, 274, 325, 515, 245, 825, 1127, 397, 398, 399, 5, 400, 211, 212, 1307, 1308, 1309, 1310, 1311, 1312, 1313, 1314, 1315, 1316, 1317, 1318, 1319, 1320, 1321, 1322, 1323, 1324, 1325, 1326, 1327, 1328, 1329, 1330, 1331, 1332, 1333, 1334, 1335, 1336, 1337, 1338, 1339, 1340, 1341, 1342, 1343, 1344, 1345, 1346, 1347, 1348, 1349, 1350, 1351, 1352, 1353, 1354, 1355, 1356, 1357, 1358, 1359, 1360, 1361, 1362, 1363, 1364, 1365] (by decide +kernel) (by decide +kernel)
set_option maxRecDepth 20000 in
theorem gL_law_X12_count : GoodIn wsL_law (wsV RL 186 RX12 yX12_count wsX12_count) := goodIn_app (goodIn_of _ (by decide +kernel)) ggL_law_X12_count
theorem dL_law_0 : decode cL_law 0 = .ok (.new 7, 3) := by decide +kernel
theorem dL_law_3 : decode cL_law 3 = .ok (.dup, 1) := by decide +kernel
theorem dL_law_4 : decode cL_law 4 = .ok (.invokespecial 9, 3) := by decide +kernel
theorem dL_law_7 : decode cL_law 7 = .ok (.astore_n 1, 1) := by decide +kernel
theorem dL_law_8 : decode cL_law 8 = .ok (.new 10, 3) := by decide +kernel
theorem dL_law_11 : decode cL_law 11 = .ok (.dup, 1) := by decide +kernel
theorem dL_law_12 : decode cL_law 12 = .ok (.invokespecial 12, 3) := by decide +kernel
theorem dL_law_15 : decode cL_law 15 = .ok (.astore_n 2, 1) := by decide +kernel
theorem dL_law_16 : decode cL_law 16 = .ok (.iconst 0, 1) := by decide +kernel
theorem dL_law_17 : decode cL_law 17 = .ok (.istore_n 3, 1) := by decide +kernel
theorem dL_law_18 : decode cL_law 18 = .ok (.iload_n 3, 1) := by decide +kernel
theorem dL_law_19 : decode cL_law 19 = .ok (.aload_n 0, 1) := by decide +kernel
theorem dL_law_20 : decode cL_law 20 = .ok (.arraylength, 1) := by decide +kernel
theorem dL_law_21 : decode cL_law 21 = .ok (.bipush 6, 2) := by decide +kernel
theorem dL_law_23 : decode cL_law 23 = .ok (.isub, 1) := by decide +kernel
theorem dL_law_24 : decode cL_law 24 = .ok (.if_icmp .gt 1618, 3) := by decide +kernel
theorem dL_law_27 : decode cL_law 27 = .ok (.aload_n 0, 1) := by decide +kernel
theorem dL_law_28 : decode cL_law 28 = .ok (.iload_n 3, 1) := by decide +kernel
theorem dL_law_29 : decode cL_law 29 = .ok (.iaload, 1) := by decide +kernel
theorem dL_law_30 : decode cL_law 30 = .ok (.bipush 63, 2) := by decide +kernel
theorem dL_law_32 : decode cL_law 32 = .ok (.iand, 1) := by decide +kernel
theorem dL_law_33 : decode cL_law 33 = .ok (.tableswitch 1603 0 40 #[179, 212, 225, 258, 291, 324, 357, 390, 423, 456, 489, 532, 575, 598, 641, 684, 717, 750, 783, 826, 859, 902, 925, 968, 1011, 1064, 1087, 1110, 1133, 1156, 1179, 1192, 1235, 1258, 1291, 1334, 1407, 1441, 1504, 1537, 1580], 179) := by decide +kernel
theorem dL_law_212 : decode cL_law 212 = .ok (.aload_n 1, 1) := by decide +kernel
theorem dL_law_213 : decode cL_law 213 = .ok (.aload_n 0, 1) := by decide +kernel
theorem dL_law_214 : decode cL_law 214 = .ok (.iload_n 3, 1) := by decide +kernel
theorem dL_law_215 : decode cL_law 215 = .ok (.iconst 1, 1) := by decide +kernel
theorem dL_law_216 : decode cL_law 216 = .ok (.iadd, 1) := by decide +kernel
theorem dL_law_217 : decode cL_law 217 = .ok (.iaload, 1) := by decide +kernel
theorem dL_law_218 : decode cL_law 218 = .ok (.aload_n 0, 1) := by decide +kernel
theorem dL_law_219 : decode cL_law 219 = .ok (.iload_n 3, 1) := by decide +kernel
theorem dL_law_220 : decode cL_law 220 = .ok (.iconst 2, 1) := by decide +kernel
theorem dL_law_221 : decode cL_law 221 = .ok (.iadd, 1) := by decide +kernel
theorem dL_law_222 : decode cL_law 222 = .ok (.iaload, 1) := by decide +kernel
theorem dL_law_223 : decode cL_law 223 = .ok (.invokevirtual 13, 3) := by decide +kernel
theorem dL_law_226 : decode cL_law 226 = .ok (.aload_n 2, 1) := by decide +kernel
theorem dL_law_227 : decode cL_law 227 = .ok (.aload_n 0, 1) := by decide +kernel
theorem dL_law_228 : decode cL_law 228 = .ok (.iload_n 3, 1) := by decide +kernel
theorem dL_law_229 : decode cL_law 229 = .ok (.iconst 1, 1) := by decide +kernel
theorem dL_law_230 : decode cL_law 230 = .ok (.iadd, 1) := by decide +kernel
theorem dL_law_231 : decode cL_law 231 = .ok (.iaload, 1) := by decide +kernel
theorem dL_law_232 : decode cL_law 232 = .ok (.aload_n 0, 1) := by decide +kernel
theorem dL_law_233 : decode cL_law 233 = .ok (.iload_n 3, 1) := by decide +kernel
theorem dL_law_234 : decode cL_law 234 = .ok (.iconst 2, 1) := by decide +kernel
theorem dL_law_235 : decode cL_law 235 = .ok (.iadd, 1) := by decide +kernel
theorem dL_law_236 : decode cL_law 236 = .ok (.iaload, 1) := by decide +kernel
theorem dL_law_237 : decode cL_law 237 = .ok (.invokevirtual 17, 3) := by decide +kernel
theorem dL_law_240 : decode cL_law 240 = .ok (.if_icmp .eq 1396, 3) := by decide +kernel
theorem dL_law_245 : decode cL_law 245 = .ok (.aload_n 1, 1) := by decide +kernel
theorem dL_law_246 : decode cL_law 246 = .ok (.invokevirtual 18, 3) := by decide +kernel
theorem dL_law_249 : decode cL_law 249 = .ok (.aload_n 2, 1) := by decide +kernel
theorem dL_law_250 : decode cL_law 250 = .ok (.invokevirtual 22, 3) := by decide +kernel
theorem dL_law_253 : decode cL_law 253 = .ok (.if_icmp .eq 1383, 3) := by decide +kernel
theorem dL_law_258 : decode cL_law 258 = .ok (.aload_n 1, 1) := by decide +kernel
theorem dL_law_259 : decode cL_law 259 = .ok (.aload_n 0, 1) := by decide +kernel
theorem dL_law_260 : decode cL_law 260 = .ok (.iload_n 3, 1) := by decide +kernel
theorem dL_law_261 : decode cL_law 261 = .ok (.iconst 1, 1) := by decide +kernel
theorem dL_law_262 : decode cL_law 262 = .ok (.iadd, 1) := by decide +kernel
theorem dL_law_263 : decode cL_law 263 = .ok (.iaload, 1) := by decide +kernel
theorem dL_law_264 : decode cL_law 264 = .ok (.aload_n 0, 1) := by decide +kernel
theorem dL_law_265 : decode cL_law 265 = .ok (.iload_n 3, 1) := by decide +kernel
theorem dL_law_266 : decode cL_law 266 = .ok (.iconst 2, 1) := by decide +kernel
theorem dL_law_267 : decode cL_law 267 = .ok (.iadd, 1) := by decide +kernel
theorem dL_law_268 : decode cL_law 268 = .ok (.iaload, 1) := by decide +kernel
theorem dL_law_269 : decode cL_law 269 = .ok (.invokevirtual 23, 3) := by decide +kernel
theorem dL_law_272 : decode cL_law 272 = .ok (.aload_n 2, 1) := by decide +kernel
theorem dL_law_273 : decode cL_law 273 = .ok (.aload_n 0, 1) := by decide +kernel
theorem dL_law_274 : decode cL_law 274 = .ok (.iload_n 3, 1) := by decide +kernel
theorem dL_law_275 : decode cL_law 275 = .ok (.iconst 1, 1) := by decide +kernel
theorem dL_law_276 : decode cL_law 276 = .ok (.iadd, 1) := by decide +kernel
theorem dL_law_277 : decode cL_law 277 = .ok (.iaload, 1) := by decide +kernel
theorem dL_law_278 : decode cL_law 278 = .ok (.aload_n 0, 1) := by decide +kernel
theorem dL_law_279 : decode cL_law 279 = .ok (.iload_n 3, 1) := by decide +kernel
theorem dL_law_280 : decode cL_law 280 = .ok (.iconst 2, 1) := by decide +kernel
theorem dL_law_281 : decode cL_law 281 = .ok (.iadd, 1) := by decide +kernel
theorem dL_law_282 : decode cL_law 282 = .ok (.iaload, 1) := by decide +kernel
theorem dL_law_283 : decode cL_law 283 = .ok (.invokevirtual 26, 3) := by decide +kernel
theorem dL_law_286 : decode cL_law 286 = .ok (.if_icmp .eq 1350, 3) := by decide +kernel
theorem dL_law_291 : decode cL_law 291 = .ok (.aload_n 1, 1) := by decide +kernel
theorem dL_law_292 : decode cL_law 292 = .ok (.aload_n 0, 1) := by decide +kernel
theorem dL_law_293 : decode cL_law 293 = .ok (.iload_n 3, 1) := by decide +kernel
theorem dL_law_294 : decode cL_law 294 = .ok (.iconst 1, 1) := by decide +kernel
theorem dL_law_295 : decode cL_law 295 = .ok (.iadd, 1) := by decide +kernel
theorem dL_law_296 : decode cL_law 296 = .ok (.iaload, 1) := by decide +kernel
theorem dL_law_297 : decode cL_law 297 = .ok (.aload_n 0, 1) := by decide +kernel
theorem dL_law_298 : decode cL_law 298 = .ok (.iload_n 3, 1) := by decide +kernel
theorem dL_law_299 : decode cL_law 299 = .ok (.iconst 2, 1) := by decide +kernel
theorem dL_law_300 : decode cL_law 300 = .ok (.iadd, 1) := by decide +kernel
theorem dL_law_301 : decode cL_law 301 = .ok (.iaload, 1) := by decide +kernel
theorem dL_law_302 : decode cL_law 302 = .ok (.invokevirtual 27, 3) := by decide +kernel
theorem dL_law_305 : decode cL_law 305 = .ok (.aload_n 2, 1) := by decide +kernel
theorem dL_law_306 : decode cL_law 306 = .ok (.aload_n 0, 1) := by decide +kernel
theorem dL_law_307 : decode cL_law 307 = .ok (.iload_n 3, 1) := by decide +kernel
theorem dL_law_308 : decode cL_law 308 = .ok (.iconst 1, 1) := by decide +kernel
theorem dL_law_309 : decode cL_law 309 = .ok (.iadd, 1) := by decide +kernel
theorem dL_law_310 : decode cL_law 310 = .ok (.iaload, 1) := by decide +kernel
theorem dL_law_311 : decode cL_law 311 = .ok (.aload_n 0, 1) := by decide +kernel
theorem dL_law_312 : decode cL_law 312 = .ok (.iload_n 3, 1) := by decide +kernel
theorem dL_law_313 : decode cL_law 313 = .ok (.iconst 2, 1) := by decide +kernel
theorem dL_law_314 : decode cL_law 314 = .ok (.iadd, 1) := by decide +kernel
theorem dL_law_315 : decode cL_law 315 = .ok (.iaload, 1) := by decide +kernel
theorem dL_law_316 : decode cL_law 316 = .ok (.invokevirtual 30, 3) := by decide +kernel
theorem dL_law_319 : decode cL_law 319 = .ok (.if_icmp .eq 1317, 3) := by decide +kernel
theorem dL_law_324 : decode cL_law 324 = .ok (.aload_n 1, 1) := by decide +kernel
theorem dL_law_325 : decode cL_law 325 = .ok (.aload_n 0, 1) := by decide +kernel
theorem dL_law_326 : decode cL_law 326 = .ok (.iload_n 3, 1) := by decide +kernel
theorem dL_law_327 : decode cL_law 327 = .ok (.iconst 1, 1) := by decide +kernel
theorem dL_law_328 : decode cL_law 328 = .ok (.iadd, 1) := by decide +kernel
theorem dL_law_329 : decode cL_law 329 = .ok (.iaload, 1) := by decide +kernel
theorem dL_law_330 : decode cL_law 330 = .ok (.aload_n 0, 1) := by decide +kernel
theorem dL_law_331 : decode cL_law 331 = .ok (.iload_n 3, 1) := by decide +kernel
theorem dL_law_332 : decode cL_law 332 = .ok (.iconst 2, 1) := by decide +kernel
theorem dL_law_333 : decode cL_law 333 = .ok (.iadd, 1) := by decide +kernel
theorem dL_law_334 : decode cL_law 334 = .ok (.iaload, 1) := by decide +kernel
theorem dL_law_335 : decode cL_law 335 = .ok (.invokevirtual 31, 3) := by decide +kernel
theorem dL_law_338 : decode cL_law 338 = .ok (.aload_n 2, 1) := by decide +kernel
theorem dL_law_339 : decode cL_law 339 = .ok (.aload_n 0, 1) := by decide +kernel
theorem dL_law_340 : decode cL_law 340 = .ok (.iload_n 3, 1) := by decide +kernel
theorem dL_law_341 : decode cL_law 341 = .ok (.iconst 1, 1) := by decide +kernel
theorem dL_law_342 : decode cL_law 342 = .ok (.iadd, 1) := by decide +kernel
theorem dL_law_343 : decode cL_law 343 = .ok (.iaload, 1) := by decide +kernel
theorem dL_law_344 : decode cL_law 344 = .ok (.aload_n 0, 1) := by decide +kernel
theorem dL_law_345 : decode cL_law 345 = .ok (.iload_n 3, 1) := by decide +kernel
theorem dL_law_346 : decode cL_law 346 = .ok (.iconst 2, 1) := by decide +kernel
theorem dL_law_347 : decode cL_law 347 = .ok (.iadd, 1) := by decide +kernel
theorem dL_law_348 : decode cL_law 348 = .ok (.iaload, 1) := by decide +kernel
theorem dL_law_349 : decode cL_law 349 = .ok (.invokevirtual 34, 3) := by decide +kernel
theorem dL_law_352 : decode cL_law 352 = .ok (.if_icmp .eq 1284, 3) := by decide +kernel
theorem dL_law_357 : decode cL_law 357 = .ok (.aload_n 1, 1) := by decide +kernel
theorem dL_law_358 : decode cL_law 358 = .ok (.aload_n 0, 1) := by decide +kernel
theorem dL_law_359 : decode cL_law 359 = .ok (.iload_n 3, 1) := by decide +kernel
theorem dL_law_360 : decode cL_law 360 = .ok (.iconst 1, 1) := by decide +kernel
theorem dL_law_361 : decode cL_law 361 = .ok (.iadd, 1) := by decide +kernel
theorem dL_law_362 : decode cL_law 362 = .ok (.iaload, 1) := by decide +kernel
theorem dL_law_363 : decode cL_law 363 = .ok (.aload_n 0, 1) := by decide +kernel
theorem dL_law_364 : decode cL_law 364 = .ok (.iload_n 3, 1) := by decide +kernel
theorem dL_law_365 : decode cL_law 365 = .ok (.iconst 2, 1) := by decide +kernel
theorem dL_law_366 : decode cL_law 366 = .ok (.iadd, 1) := by decide +kernel
theorem dL_law_367 : decode cL_law 367 = .ok (.iaload, 1) := by decide +kernel
theorem dL_law_368 : decode cL_law 368 = .ok (.invokevirtual 35, 3) := by decide +kernel
theorem dL_law_371 : decode cL_law 371 = .ok (.aload_n 2, 1) := by decide +kernel
theorem dL_law_372 : decode cL_law 372 = .ok (.aload_n 0, 1) := by decide +kernel
theorem dL_law_373 : decode cL_law 373 = .ok (.iload_n 3, 1) := by decide +kernel
theorem dL_law_374 : decode cL_law 374 = .ok (.iconst 1, 1) := by decide +kernel
theorem dL_law_375 : decode cL_law 375 = .ok (.iadd, 1) := by decide +kernel
theorem dL_law_376 : decode cL_law 376 = .ok (.iaload, 1) := by decide +kernel
theorem dL_law_377 : decode cL_law 377 = .ok (.aload_n 0, 1) := by decide +kernel
theorem dL_law_378 : decode cL_law 378 = .ok (.iload_n 3, 1) := by decide +kernel
theorem dL_law_379 : decode cL_law 379 = .ok (.iconst 2, 1) := by decide +kernel
theorem dL_law_380 : decode cL_law 380 = .ok (.iadd, 1) := by decide +kernel
theorem dL_law_381 : decode cL_law 381 = .ok (.iaload, 1) := by decide +kernel
theorem dL_law_382 : decode cL_law 382 = .ok (.invokevirtual 38, 3) := by decide +kernel
theorem dL_law_385 : decode cL_law 385 = .ok (.if_icmp .eq 1251, 3) := by decide +kernel
theorem dL_law_390 : decode cL_law 390 = .ok (.aload_n 1, 1) := by decide +kernel
theorem dL_law_391 : decode cL_law 391 = .ok (.aload_n 0, 1) := by decide +kernel
theorem dL_law_392 : decode cL_law 392 = .ok (.iload_n 3, 1) := by decide +kernel
theorem dL_law_393 : decode cL_law 393 = .ok (.iconst 1, 1) := by decide +kernel
theorem dL_law_394 : decode cL_law 394 = .ok (.iadd, 1) := by decide +kernel
theorem dL_law_395 : decode cL_law 395 = .ok (.iaload, 1) := by decide +kernel
theorem dL_law_396 : decode cL_law 396 = .ok (.aload_n 0, 1) := by decide +kernel
theorem dL_law_397 : decode cL_law 397 = .ok (.iload_n 3, 1) := by decide +kernel
theorem dL_law_398 : decode cL_law 398 = .ok (.iconst 2, 1) := by decide +kernel
theorem dL_law_399 : decode cL_law 399 = .ok (.iadd, 1) := by decide +kernel
theorem dL_law_400 : decode cL_law 400 = .ok (.iaload, 1) := by decide +kernel
theorem dL_law_401 : decode cL_law 401 = .ok (.invokevirtual 39, 3) := by decide +kernel
theorem dL_law_404 : decode cL_law 404 = .ok (.aload_n 2, 1) := by decide +kernel
theorem dL_law_405 : decode cL_law 405 = .ok (.aload_n 0, 1) := by decide +kernel
theorem dL_law_406 : decode cL_law 406 = .ok (.iload_n 3, 1) := by decide +kernel
theorem dL_law_407 : decode cL_law 407 = .ok (.iconst 1, 1) := by decide +kernel
theorem dL_law_408 : decode cL_law 408 = .ok (.iadd, 1) := by decide +kernel
theorem dL_law_409 : decode cL_law 409 = .ok (.iaload, 1) := by decide +kernel
theorem dL_law_410 : decode cL_law 410 = .ok (.aload_n 0, 1) := by decide +kernel
theorem dL_law_411 : decode cL_law 411 = .ok (.iload_n 3, 1) := by decide +kernel
theorem dL_law_412 : decode cL_law 412 = .ok (.iconst 2, 1) := by decide +kernel
theorem dL_law_413 : decode cL_law 413 = .ok (.iadd, 1) := by decide +kernel
theorem dL_law_414 : decode cL_law 414 = .ok (.iaload, 1) := by decide +kernel
theorem dL_law_415 : decode cL_law 415 = .ok (.invokevirtual 42, 3) := by decide +kernel
theorem dL_law_418 : decode cL_law 418 = .ok (.if_icmp .eq 1218, 3) := by decide +kernel
theorem dL_law_423 : decode cL_law 423 = .ok (.aload_n 1, 1) := by decide +kernel
theorem dL_law_424 : decode cL_law 424 = .ok (.aload_n 0, 1) := by decide +kernel
theorem dL_law_425 : decode cL_law 425 = .ok (.iload_n 3, 1) := by decide +kernel
theorem dL_law_426 : decode cL_law 426 = .ok (.iconst 1, 1) := by decide +kernel
theorem dL_law_427 : decode cL_law 427 = .ok (.iadd, 1) := by decide +kernel
theorem dL_law_428 : decode cL_law 428 = .ok (.iaload, 1) := by decide +kernel
theorem dL_law_429 : decode cL_law 429 = .ok (.aload_n 0, 1) := by decide +kernel
theorem dL_law_430 : decode cL_law 430 = .ok (.iload_n 3, 1) := by decide +kernel
theorem dL_law_431 : decode cL_law 431 = .ok (.iconst 2, 1) := by decide +kernel
theorem dL_law_432 : decode cL_law 432 = .ok (.iadd, 1) := by decide +kernel
theorem dL_law_433 : decode cL_law 433 = .ok (.iaload, 1) := by decide +kernel
theorem dL_law_434 : decode cL_law 434 = .ok (.invokevirtual 43, 3) := by decide +kernel
theorem dL_law_437 : decode cL_law 437 = .ok (.aload_n 2, 1) := by decide +kernel
theorem dL_law_438 : decode cL_law 438 = .ok (.aload_n 0, 1) := by decide +kernel
theorem dL_law_439 : decode cL_law 439 = .ok (.iload_n 3, 1) := by decide +kernel
theorem dL_law_440 : decode cL_law 440 = .ok (.iconst 1, 1) := by decide +kernel
theorem dL_law_441 : decode cL_law 441 = .ok (.iadd, 1) := by decide +kernel
theorem dL_law_442 : decode cL_law 442 = .ok (.iaload, 1) := by decide +kernel
theorem dL_law_443 : decode cL_law 443 = .ok (.aload_n 0, 1) := by decide +kernel
theorem dL_law_444 : decode cL_law 444 = .ok (.iload_n 3, 1) := by decide +kernel
theorem dL_law_445 : decode cL_law 445 = .ok (.iconst 2, 1) := by decide +kernel
theorem dL_law_446 : decode cL_law 446 = .ok (.iadd, 1) := by decide +kernel
theorem dL_law_447 : decode cL_law 447 = .ok (.iaload, 1) := by decide +kernel
theorem dL_law_448 : decode cL_law 448 = .ok (.invokevirtual 46, 3) := by decide +kernel
theorem dL_law_451 : decode cL_law 451 = .ok (.if_icmp .eq 1185, 3) := by decide +kernel
theorem dL_law_456 : decode cL_law 456 = .ok (.aload_n 1, 1) := by decide +kernel
theorem dL_law_457 : decode cL_law 457 = .ok (.aload_n 0, 1) := by decide +kernel
theorem dL_law_458 : decode cL_law 458 = .ok (.iload_n 3, 1) := by decide +kernel
theorem dL_law_459 : decode cL_law 459 = .ok (.iconst 1, 1) := by decide +kernel
theorem dL_law_460 : decode cL_law 460 = .ok (.iadd, 1) := by decide +kernel
theorem dL_law_461 : decode cL_law 461 = .ok (.iaload, 1) := by decide +kernel
theorem dL_law_462 : decode cL_law 462 = .ok (.aload_n 0, 1) := by decide +kernel
theorem dL_law_463 : decode cL_law 463 = .ok (.iload_n 3, 1) := by decide +kernel
theorem dL_law_464 : decode cL_law 464 = .ok (.iconst 2, 1) := by decide +kernel
theorem dL_law_465 : decode cL_law 465 = .ok (.iadd, 1) := by decide +kernel
theorem dL_law_466 : decode cL_law 466 = .ok (.iaload, 1) := by decide +kernel
theorem dL_law_467 : decode cL_law 467 = .ok (.invokevirtual 47, 3) := by decide +kernel
theorem dL_law_470 : decode cL_law 470 = .ok (.aload_n 2, 1) := by decide +kernel
theorem dL_law_471 : decode cL_law 471 = .ok (.aload_n 0, 1) := by decide +kernel
theorem dL_law_472 : decode cL_law 472 = .ok (.iload_n 3, 1) := by decide +kernel
theorem dL_law_473 : decode cL_law 473 = .ok (.iconst 1, 1) := by decide +kernel
theorem dL_law_474 : decode cL_law 474 = .ok (.iadd, 1) := by decide +kernel
theorem dL_law_475 : decode cL_law 475 = .ok (.iaload, 1) := by decide +kernel
theorem dL_law_476 : decode cL_law 476 = .ok (.aload_n 0, 1) := by decide +kernel
theorem dL_law_477 : decode cL_law 477 = .ok (.iload_n 3, 1) := by decide +kernel
theorem dL_law_478 : decode cL_law 478 = .ok (.iconst 2, 1) := by decide +kernel
theorem dL_law_479 : decode cL_law 479 = .ok (.iadd, 1) := by decide +kernel
theorem dL_law_480 : decode cL_law 480 = .ok (.iaload, 1) := by decide +kernel
theorem dL_law_481 : decode cL_law 481 = .ok (.invokevirtual 50, 3) := by decide +kernel
theorem dL_law_484 : decode cL_law 484 = .ok (.if_icmp .eq 1152, 3) := by decide +kernel
theorem dL_law_489 : decode cL_law 489 = .ok (.aload_n 1, 1) := by decide +kernel
theorem dL_law_490 : decode cL_law 490 = .ok (.aload_n 0, 1) := by decide +kernel
theorem dL_law_491 : decode cL_law 491 = .ok (.iload_n 3, 1) := by decide +kernel
theorem dL_law_492 : decode cL_law 492 = .ok (.iconst 1, 1) := by decide +kernel
theorem dL_law_493 : decode cL_law 493 = .ok (.iadd, 1) := by decide +kernel
theorem dL_law_494 : decode cL_law 494 = .ok (.iaload, 1) := by decide +kernel
theorem dL_law_495 : decode cL_law 495 = .ok (.aload_n 0, 1) := by decide +kernel
theorem dL_law_496 : decode cL_law 496 = .ok (.iload_n 3, 1) := by decide +kernel
theorem dL_law_497 : decode cL_law 497 = .ok (.iconst 2, 1) := by decide +kernel
theorem dL_law_498 : decode cL_law 498 = .ok (.iadd, 1) := by decide +kernel
theorem dL_law_499 : decode cL_law 499 = .ok (.iaload, 1) := by decide +kernel
theorem dL_law_500 : decode cL_law 500 = .ok (.invokevirtual 51, 3) := by decide +kernel
theorem dL_law_503 : decode cL_law 503 = .ok (.aload_n 2, 1) := by decide +kernel
theorem dL_law_504 : decode cL_law 504 = .ok (.aload_n 0, 1) := by decide +kernel
theorem dL_law_505 : decode cL_law 505 = .ok (.iload_n 3, 1) := by decide +kernel
theorem dL_law_506 : decode cL_law 506 = .ok (.iconst 1, 1) := by decide +kernel
theorem dL_law_507 : decode cL_law 507 = .ok (.iadd, 1) := by decide +kernel
theorem dL_law_508 : decode cL_law 508 = .ok (.iaload, 1) := by decide +kernel
theorem dL_law_509 : decode cL_law 509 = .ok (.aload_n 0, 1) := by decide +kernel
theorem dL_law_510 : decode cL_law 510 = .ok (.iload_n 3, 1) := by decide +kernel
theorem dL_law_511 : decode cL_law 511 = .ok (.iconst 2, 1) := by decide +kernel
theorem dL_law_512 : decode cL_law 512 = .ok (.iadd, 1) := by decide +kernel
theorem dL_law_513 : decode cL_law 513 = .ok (.iaload, 1) := by decide +kernel
theorem dL_law_514 : decode cL_law 514 = .ok (.invokevirtual 54, 3) := by decide +kernel
theorem dL_law_517 : decode cL_law 517 = .ok (.if_icmp .eq 1119, 3) := by decide +kernel
theorem dL_law_522 : decode cL_law 522 = .ok (.aload_n 1, 1) := by decide +kernel
theorem dL_law_523 : decode cL_law 523 = .ok (.aload_n 0, 1) := by decide +kernel
theorem dL_law_524 : decode cL_law 524 = .ok (.iload_n 3, 1) := by decide +kernel
theorem dL_law_525 : decode cL_law 525 = .ok (.iconst 1, 1) := by decide +kernel
theorem dL_law_526 : decode cL_law 526 = .ok (.iadd, 1) := by decide +kernel
theorem dL_law_527 : decode cL_law 527 = .ok (.iaload, 1) := by decide +kernel
theorem dL_law_528 : decode cL_law 528 = .ok (.aload_n 0, 1) := by decide +kernel
theorem dL_law_529 : decode cL_law 529 = .ok (.iload_n 3, 1) := by decide +kernel
theorem dL_law_530 : decode cL_law 530 = .ok (.iconst 2, 1) := by decide +kernel
theorem dL_law_531 : decode cL_law 531 = .ok (.iadd, 1) := by decide +kernel
theorem dL_law_532 : decode cL_law 532 = .ok (.iaload, 1) := by decide +kernel
theorem dL_law_533 : decode cL_law 533 = .ok (.aload_n 0, 1) := by decide +kernel
theorem dL_law_534 : decode cL_law 534 = .ok (.iload_n 3, 1) := by decide +kernel
theorem dL_law_535 : decode cL_law 535 = .ok (.iconst 3, 1) := by decide +kernel
theorem dL_law_536 : decode cL_law 536 = .ok (.iadd, 1) := by decide +kernel
theorem dL_law_537 : decode cL_law 537 = .ok (.iaload, 1) := by decide +kernel
theorem dL_law_538 : decode cL_law 538 = .ok (.invokevirtual 55, 3) := by decide +kernel
theorem dL_law_541 : decode cL_law 541 = .ok (.aload_n 2, 1) := by decide +kernel
theorem dL_law_542 : decode cL_law 542 = .ok (.aload_n 0, 1) := by decide +kernel
theorem dL_law_543 : decode cL_law 543 = .ok (.iload_n 3, 1) := by decide +kernel
theorem dL_law_544 : decode cL_law 544 = .ok (.iconst 1, 1) := by decide +kernel
theorem dL_law_545 : decode cL_law 545 = .ok (.iadd, 1) := by decide +kernel
theorem dL_law_546 : decode cL_law 546 = .ok (.iaload, 1) := by decide +kernel
theorem dL_law_547 : decode cL_law 547 = .ok (.aload_n 0, 1) := by decide +kernel
theorem dL_law_548 : decode cL_law 548 = .ok (.iload_n 3, 1) := by decide +kernel
theorem dL_law_549 : decode cL_law 549 = .ok (.iconst 2, 1) := by decide +kernel
theorem dL_law_550 : decode cL_law 550 = .ok (.iadd, 1) := by decide +kernel
theorem dL_law_551 : decode cL_law 551 = .ok (.iaload, 1) := by decide +kernel
theorem dL_law_552 : decode cL_law 552 = .ok (.aload_n 0, 1) := by decide +kernel
theorem dL_law_553 : decode cL_law 553 = .ok (.iload_n 3, 1) := by decide +kernel
theorem dL_law_554 : decode cL_law 554 = .ok (.iconst 3, 1) := by decide +kernel
theorem dL_law_555 : decode cL_law 555 = .ok (.iadd, 1) := by decide +kernel
theorem dL_law_556 : decode cL_law 556 = .ok (.iaload, 1) := by decide +kernel
theorem dL_law_557 : decode cL_law 557 = .ok (.invokevirtual 59, 3) := by decide +kernel
theorem dL_law_560 : decode cL_law 560 = .ok (.if_icmp .eq 1076, 3) := by decide +kernel
theorem dL_law_565 : decode cL_law 565 = .ok (.aload_n 1, 1) := by decide +kernel
theorem dL_law_566 : decode cL_law 566 = .ok (.aload_n 0, 1) := by decide +kernel
theorem dL_law_567 : decode cL_law 567 = .ok (.iload_n 3, 1) := by decide +kernel
theorem dL_law_568 : decode cL_law 568 = .ok (.iconst 1, 1) := by decide +kernel
theorem dL_law_569 : decode cL_law 569 = .ok (.iadd, 1) := by decide +kernel
theorem dL_law_570 : decode cL_law 570 = .ok (.iaload, 1) := by decide +kernel
theorem dL_law_571 : decode cL_law 571 = .ok (.aload_n 0, 1) := by decide +kernel
theorem dL_law_572 : decode cL_law 572 = .ok (.iload_n 3, 1) := by decide +kernel
theorem dL_law_573 : decode cL_law 573 = .ok (.iconst 2, 1) := by decide +kernel
theorem dL_law_574 : decode cL_law 574 = .ok (.iadd, 1) := by decide +kernel
theorem dL_law_575 : decode cL_law 575 = .ok (.iaload, 1) := by decide +kernel
theorem dL_law_576 : decode cL_law 576 = .ok (.aload_n 0, 1) := by decide +kernel
theorem dL_law_577 : decode cL_law 577 = .ok (.iload_n 3, 1) := by decide +kernel
theorem dL_law_578 : decode cL_law 578 = .ok (.iconst 3, 1) := by decide +kernel
theorem dL_law_579 : decode cL_law 579 = .ok (.iadd, 1) := by decide +kernel
theorem dL_law_580 : decode cL_law 580 = .ok (.iaload, 1) := by decide +kernel
theorem dL_law_581 : decode cL_law 581 = .ok (.invokevirtual 60, 3) := by decide +kernel
theorem dL_law_584 : decode cL_law 584 = .ok (.aload_n 2, 1) := by decide +kernel
theorem dL_law_585 : decode cL_law 585 = .ok (.aload_n 0, 1) := by decide +kernel
theorem dL_law_586 : decode cL_law 586 = .ok (.iload_n 3, 1) := by decide +kernel
theorem dL_law_587 : decode cL_law 587 = .ok (.iconst 1, 1) := by decide +kernel
theorem dL_law_588 : decode cL_law 588 = .ok (.iadd, 1) := by decide +kernel
theorem dL_law_589 : decode cL_law 589 = .ok (.iaload, 1) := by decide +kernel
theorem dL_law_590 : decode cL_law 590 = .ok (.aload_n 0, 1) := by decide +kernel
theorem dL_law_591 : decode cL_law 591 = .ok (.iload_n 3, 1) := by decide +kernel
theorem dL_law_592 : decode cL_law 592 = .ok (.iconst 2, 1) := by decide +kernel
theorem dL_law_593 : decode cL_law 593 = .ok (.iadd, 1) := by decide +kernel
theorem dL_law_594 : decode cL_law 594 = .ok (.iaload, 1) := by decide +kernel
theorem dL_law_595 : decode cL_law 595 = .ok (.aload_n 0, 1) := by decide +kernel
theorem dL_law_596 : decode cL_law 596 = .ok (.iload_n 3, 1) := by decide +kernel
theorem dL_law_597 : decode cL_law 597 = .ok (.iconst 3, 1) := by decide +kernel
theorem dL_law_598 : decode cL_law 598 = .ok (.iadd, 1) := by decide +kernel
theorem dL_law_599 : decode cL_law 599 = .ok (.iaload, 1) := by decide +kernel
theorem dL_law_600 : decode cL_law 600 = .ok (.invokevirtual 63, 3) := by decide +kernel
theorem dL_law_603 : decode cL_law 603 = .ok (.if_icmp .eq 1033, 3) := by decide +kernel
theorem dL_law_608 : decode cL_law 608 = .ok (.aload_n 1, 1) := by decide +kernel
theorem dL_law_609 : decode cL_law 609 = .ok (.aload_n 0, 1) := by decide +kernel
theorem dL_law_610 : decode cL_law 610 = .ok (.iload_n 3, 1) := by decide +kernel
theorem dL_law_611 : decode cL_law 611 = .ok (.iconst 1, 1) := by decide +kernel
theorem dL_law_612 : decode cL_law 612 = .ok (.iadd, 1) := by decide +kernel
theorem dL_law_613 : decode cL_law 613 = .ok (.iaload, 1) := by decide +kernel
theorem dL_law_614 : decode cL_law 614 = .ok (.invokevirtual 64, 3) := by decide +kernel
theorem dL_law_617 : decode cL_law 617 = .ok (.aload_n 2, 1) := by decide +kernel
theorem dL_law_618 : decode cL_law 618 = .ok (.aload_n 0, 1) := by decide +kernel
theorem dL_law_619 : decode cL_law 619 = .ok (.iload_n 3, 1) := by decide +kernel
theorem dL_law_620 : decode cL_law 620 = .ok (.iconst 1, 1) := by decide +kernel
theorem dL_law_621 : decode cL_law 621 = .ok (.iadd, 1) := by decide +kernel
theorem dL_law_622 : decode cL_law 622 = .ok (.iaload, 1) := by decide +kernel
theorem dL_law_623 : decode cL_law 623 = .ok (.invokevirtual 68, 3) := by decide +kernel
theorem dL_law_626 : decode cL_law 626 = .ok (.if_icmp .eq 1010, 3) := by decide +kernel
theorem dL_law_631 : decode cL_law 631 = .ok (.aload_n 1, 1) := by decide +kernel
theorem dL_law_632 : decode cL_law 632 = .ok (.aload_n 0, 1) := by decide +kernel
theorem dL_law_633 : decode cL_law 633 = .ok (.iload_n 3, 1) := by decide +kernel
theorem dL_law_634 : decode cL_law 634 = .ok (.iconst 1, 1) := by decide +kernel
theorem dL_law_635 : decode cL_law 635 = .ok (.iadd, 1) := by decide +kernel
theorem dL_law_636 : decode cL_law 636 = .ok (.iaload, 1) := by decide +kernel
theorem dL_law_637 : decode cL_law 637 = .ok (.aload_n 0, 1) := by decide +kernel
theorem dL_law_638 : decode cL_law 638 = .ok (.iload_n 3, 1) := by decide +kernel
theorem dL_law_639 : decode cL_law 639 = .ok (.iconst 2, 1) := by decide +kernel
theorem dL_law_640 : decode cL_law 640 = .ok (.iadd, 1) := by decide +kernel
theorem dL_law_641 : decode cL_law 641 = .ok (.iaload, 1) := by decide +kernel
theorem dL_law_642 : decode cL_law 642 = .ok (.aload_n 0, 1) := by decide +kernel
theorem dL_law_643 : decode cL_law 643 = .ok (.iload_n 3, 1) := by decide +kernel
theorem dL_law_644 : decode cL_law 644 = .ok (.iconst 3, 1) := by decide +kernel
theorem dL_law_645 : decode cL_law 645 = .ok (.iadd, 1) := by decide +kernel
theorem dL_law_646 : decode cL_law 646 = .ok (.iaload, 1) := by decide +kernel
theorem dL_law_647 : decode cL_law 647 = .ok (.invokevirtual 69, 3) := by decide +kernel
theorem dL_law_650 : decode cL_law 650 = .ok (.aload_n 2, 1) := by decide +kernel
theorem dL_law_651 : decode cL_law 651 = .ok (.aload_n 0, 1) := by decide +kernel
theorem dL_law_652 : decode cL_law 652 = .ok (.iload_n 3, 1) := by decide +kernel
theorem dL_law_653 : decode cL_law 653 = .ok (.iconst 1, 1) := by decide +kernel
theorem dL_law_654 : decode cL_law 654 = .ok (.iadd, 1) := by decide +kernel
theorem dL_law_655 : decode cL_law 655 = .ok (.iaload, 1) := by decide +kernel
theorem dL_law_656 : decode cL_law 656 = .ok (.aload_n 0, 1) := by decide +kernel
theorem dL_law_657 : decode cL_law 657 = .ok (.iload_n 3, 1) := by decide +kernel
theorem dL_law_658 : decode cL_law 658 = .ok (.iconst 2, 1) := by decide +kernel
theorem dL_law_659 : decode cL_law 659 = .ok (.iadd, 1) := by decide +kernel
theorem dL_law_660 : decode cL_law 660 = .ok (.iaload, 1) := by decide +kernel
theorem dL_law_661 : decode cL_law 661 = .ok (.aload_n 0, 1) := by decide +kernel
theorem dL_law_662 : decode cL_law 662 = .ok (.iload_n 3, 1) := by decide +kernel
theorem dL_law_663 : decode cL_law 663 = .ok (.iconst 3, 1) := by decide +kernel
theorem dL_law_664 : decode cL_law 664 = .ok (.iadd, 1) := by decide +kernel
theorem dL_law_665 : decode cL_law 665 = .ok (.iaload, 1) := by decide +kernel
theorem dL_law_666 : decode cL_law 666 = .ok (.invokevirtual 72, 3) := by decide +kernel
theorem dL_law_669 : decode cL_law 669 = .ok (.if_icmp .eq 967, 3) := by decide +kernel
theorem dL_law_674 : decode cL_law 674 = .ok (.aload_n 1, 1) := by decide +kernel
theorem dL_law_675 : decode cL_law 675 = .ok (.aload_n 0, 1) := by decide +kernel
theorem dL_law_676 : decode cL_law 676 = .ok (.iload_n 3, 1) := by decide +kernel
theorem dL_law_677 : decode cL_law 677 = .ok (.iconst 1, 1) := by decide +kernel
theorem dL_law_678 : decode cL_law 678 = .ok (.iadd, 1) := by decide +kernel
theorem dL_law_679 : decode cL_law 679 = .ok (.iaload, 1) := by decide +kernel
theorem dL_law_680 : decode cL_law 680 = .ok (.aload_n 0, 1) := by decide +kernel
theorem dL_law_681 : decode cL_law 681 = .ok (.iload_n 3, 1) := by decide +kernel
theorem dL_law_682 : decode cL_law 682 = .ok (.iconst 2, 1) := by decide +kernel
theorem dL_law_683 : decode cL_law 683 = .ok (.iadd, 1) := by decide +kernel
theorem dL_law_684 : decode cL_law 684 = .ok (.iaload, 1) := by decide +kernel
theorem dL_law_685 : decode cL_law 685 = .ok (.aload_n 0, 1) := by decide +kernel
theorem dL_law_686 : decode cL_law 686 = .ok (.iload_n 3, 1) := by decide +kernel
theorem dL_law_687 : decode cL_law 687 = .ok (.iconst 3, 1) := by decide +kernel
theorem dL_law_688 : decode cL_law 688 = .ok (.iadd, 1) := by decide +kernel
theorem dL_law_689 : decode cL_law 689 = .ok (.iaload, 1) := by decide +kernel
theorem dL_law_690 : decode cL_law 690 = .ok (.invokevirtual 73, 3) := by decide +kernel
theorem dL_law_693 : decode cL_law 693 = .ok (.aload_n 2, 1) := by decide +kernel
theorem dL_law_694 : decode cL_law 694 = .ok (.aload_n 0, 1) := by decide +kernel
theorem dL_law_695 : decode cL_law 695 = .ok (.iload_n 3, 1) := by decide +kernel
theorem dL_law_696 : decode cL_law 696 = .ok (.iconst 1, 1) := by decide +kernel
theorem dL_law_697 : decode cL_law 697 = .ok (.iadd, 1) := by decide +kernel
theorem dL_law_698 : decode cL_law 698 = .ok (.iaload, 1) := by decide +kernel
theorem dL_law_699 : decode cL_law 699 = .ok (.aload_n 0, 1) := by decide +kernel
theorem dL_law_700 : decode cL_law 700 = .ok (.iload_n 3, 1) := by decide +kernel
theorem dL_law_701 : decode cL_law 701 = .ok (.iconst 2, 1) := by decide +kernel
theorem dL_law_702 : decode cL_law 702 = .ok (.iadd, 1) := by decide +kernel
theorem dL_law_703 : decode cL_law 703 = .ok (.iaload, 1) := by decide +kernel
theorem dL_law_704 : decode cL_law 704 = .ok (.aload_n 0, 1) := by decide +kernel
theorem dL_law_705 : decode cL_law 705 = .ok (.iload_n 3, 1) := by decide +kernel
theorem dL_law_706 : decode cL_law 706 = .ok (.iconst 3, 1) := by decide +kernel
theorem dL_law_707 : decode cL_law 707 = .ok (.iadd, 1) := by decide +kernel
theorem dL_law_708 : decode cL_law 708 = .ok (.iaload, 1) := by decide +kernel
theorem dL_law_709 : decode cL_law 709 = .ok (.invokevirtual 76, 3) := by decide +kernel
theorem dL_law_712 : decode cL_law 712 = .ok (.if_icmp .eq 924, 3) := by decide +kernel
theorem dL_law_717 : decode cL_law 717 = .ok (.aload_n 1, 1) := by decide +kernel
theorem dL_law_718 : decode cL_law 718 = .ok (.aload_n 0, 1) := by decide +kernel
theorem dL_law_719 : decode cL_law 719 = .ok (.iload_n 3, 1) := by decide +kernel
theorem dL_law_720 : decode cL_law 720 = .ok (.iconst 1, 1) := by decide +kernel
theorem dL_law_721 : decode cL_law 721 = .ok (.iadd, 1) := by decide +kernel
theorem dL_law_722 : decode cL_law 722 = .ok (.iaload, 1) := by decide +kernel
theorem dL_law_723 : decode cL_law 723 = .ok (.aload_n 0, 1) := by decide +kernel
theorem dL_law_724 : decode cL_law 724 = .ok (.iload_n 3, 1) := by decide +kernel
theorem dL_law_725 : decode cL_law 725 = .ok (.iconst 2, 1) := by decide +kernel
theorem dL_law_726 : decode cL_law 726 = .ok (.iadd, 1) := by decide +kernel
theorem dL_law_727 : decode cL_law 727 = .ok (.iaload, 1) := by decide +kernel
theorem dL_law_728 : decode cL_law 728 = .ok (.invokevirtual 77, 3) := by decide +kernel
theorem dL_law_731 : decode cL_law 731 = .ok (.aload_n 2, 1) := by decide +kernel
theorem dL_law_732 : decode cL_law 732 = .ok (.aload_n 0, 1) := by decide +kernel
theorem dL_law_733 : decode cL_law 733 = .ok (.iload_n 3, 1) := by decide +kernel
theorem dL_law_734 : decode cL_law 734 = .ok (.iconst 1, 1) := by decide +kernel
theorem dL_law_735 : decode cL_law 735 = .ok (.iadd, 1) := by decide +kernel
theorem dL_law_736 : decode cL_law 736 = .ok (.iaload, 1) := by decide +kernel
theorem dL_law_737 : decode cL_law 737 = .ok (.aload_n 0, 1) := by decide +kernel
theorem dL_law_738 : decode cL_law 738 = .ok (.iload_n 3, 1) := by decide +kernel
theorem dL_law_739 : decode cL_law 739 = .ok (.iconst 2, 1) := by decide +kernel
theorem dL_law_740 : decode cL_law 740 = .ok (.iadd, 1) := by decide +kernel
theorem dL_law_741 : decode cL_law 741 = .ok (.iaload, 1) := by decide +kernel
theorem dL_law_742 : decode cL_law 742 = .ok (.invokevirtual 80, 3) := by decide +kernel
theorem dL_law_745 : decode cL_law 745 = .ok (.if_icmp .eq 891, 3) := by decide +kernel
theorem dL_law_750 : decode cL_law 750 = .ok (.aload_n 1, 1) := by decide +kernel
theorem dL_law_751 : decode cL_law 751 = .ok (.aload_n 0, 1) := by decide +kernel
theorem dL_law_752 : decode cL_law 752 = .ok (.iload_n 3, 1) := by decide +kernel
theorem dL_law_753 : decode cL_law 753 = .ok (.iconst 1, 1) := by decide +kernel
theorem dL_law_754 : decode cL_law 754 = .ok (.iadd, 1) := by decide +kernel
theorem dL_law_755 : decode cL_law 755 = .ok (.iaload, 1) := by decide +kernel
theorem dL_law_756 : decode cL_law 756 = .ok (.aload_n 0, 1) := by decide +kernel
theorem dL_law_757 : decode cL_law 757 = .ok (.iload_n 3, 1) := by decide +kernel
theorem dL_law_758 : decode cL_law 758 = .ok (.iconst 2, 1) := by decide +kernel
theorem dL_law_759 : decode cL_law 759 = .ok (.iadd, 1) := by decide +kernel
theorem dL_law_760 : decode cL_law 760 = .ok (.iaload, 1) := by decide +kernel
theorem dL_law_761 : decode cL_law 761 = .ok (.invokevirtual 81, 3) := by decide +kernel
theorem dL_law_764 : decode cL_law 764 = .ok (.aload_n 2, 1) := by decide +kernel
theorem dL_law_765 : decode cL_law 765 = .ok (.aload_n 0, 1) := by decide +kernel
theorem dL_law_766 : decode cL_law 766 = .ok (.iload_n 3, 1) := by decide +kernel
theorem dL_law_767 : decode cL_law 767 = .ok (.iconst 1, 1) := by decide +kernel
theorem dL_law_768 : decode cL_law 768 = .ok (.iadd, 1) := by decide +kernel
theorem dL_law_769 : decode cL_law 769 = .ok (.iaload, 1) := by decide +kernel
theorem dL_law_770 : decode cL_law 770 = .ok (.aload_n 0, 1) := by decide +kernel
theorem dL_law_771 : decode cL_law 771 = .ok (.iload_n 3, 1) := by decide +kernel
theorem dL_law_772 : decode cL_law 772 = .ok (.iconst 2, 1) := by decide +kernel
theorem dL_law_773 : decode cL_law 773 = .ok (.iadd, 1) := by decide +kernel
theorem dL_law_774 : decode cL_law 774 = .ok (.iaload, 1) := by decide +kernel
theorem dL_law_775 : decode cL_law 775 = .ok (.invokevirtual 84, 3) := by decide +kernel
theorem dL_law_778 : decode cL_law 778 = .ok (.if_icmp .eq 858, 3) := by decide +kernel
theorem dL_law_783 : decode cL_law 783 = .ok (.aload_n 1, 1) := by decide +kernel
theorem dL_law_784 : decode cL_law 784 = .ok (.aload_n 0, 1) := by decide +kernel
theorem dL_law_785 : decode cL_law 785 = .ok (.iload_n 3, 1) := by decide +kernel
theorem dL_law_786 : decode cL_law 786 = .ok (.iconst 1, 1) := by decide +kernel
theorem dL_law_787 : decode cL_law 787 = .ok (.iadd, 1) := by decide +kernel
theorem dL_law_788 : decode cL_law 788 = .ok (.iaload, 1) := by decide +kernel
theorem dL_law_789 : decode cL_law 789 = .ok (.aload_n 0, 1) := by decide +kernel
theorem dL_law_790 : decode cL_law 790 = .ok (.iload_n 3, 1) := by decide +kernel
theorem dL_law_791 : decode cL_law 791 = .ok (.iconst 2, 1) := by decide +kernel
theorem dL_law_792 : decode cL_law 792 = .ok (.iadd, 1) := by decide +kernel
theorem dL_law_793 : decode cL_law 793 = .ok (.iaload, 1) := by decide +kernel
theorem dL_law_794 : decode cL_law 794 = .ok (.invokevirtual 85, 3) := by decide +kernel
theorem dL_law_797 : decode cL_law 797 = .ok (.aload_n 2, 1) := by decide +kernel
theorem dL_law_798 : decode cL_law 798 = .ok (.aload_n 0, 1) := by decide +kernel
theorem dL_law_799 : decode cL_law 799 = .ok (.iload_n 3, 1) := by decide +kernel
theorem dL_law_800 : decode cL_law 800 = .ok (.iconst 1, 1) := by decide +kernel
theorem dL_law_801 : decode cL_law 801 = .ok (.iadd, 1) := by decide +kernel
theorem dL_law_802 : decode cL_law 802 = .ok (.iaload, 1) := by decide +kernel
theorem dL_law_803 : decode cL_law 803 = .ok (.aload_n 0, 1) := by decide +kernel
theorem dL_law_804 : decode cL_law 804 = .ok (.iload_n 3, 1) := by decide +kernel
theorem dL_law_805 : decode cL_law 805 = .ok (.iconst 2, 1) := by decide +kernel
theorem dL_law_806 : decode cL_law 806 = .ok (.iadd, 1) := by decide +kernel
theorem dL_law_807 : decode cL_law 807 = .ok (.iaload, 1) := by decide +kernel
theorem dL_law_808 : decode cL_law 808 = .ok (.invokevirtual 88, 3) := by decide +kernel
theorem dL_law_811 : decode cL_law 811 = .ok (.if_icmp .eq 825, 3) := by decide +kernel
theorem dL_law_816 : decode cL_law 816 = .ok (.aload_n 1, 1) := by decide +kernel
theorem dL_law_817 : decode cL_law 817 = .ok (.aload_n 0, 1) := by decide +kernel
theorem dL_law_818 : decode cL_law 818 = .ok (.iload_n 3, 1) := by decide +kernel
theorem dL_law_819 : decode cL_law 819 = .ok (.iconst 1, 1) := by decide +kernel
theorem dL_law_820 : decode cL_law 820 = .ok (.iadd, 1) := by decide +kernel
theorem dL_law_821 : decode cL_law 821 = .ok (.iaload, 1) := by decide +kernel
theorem dL_law_822 : decode cL_law 822 = .ok (.aload_n 0, 1) := by decide +kernel
theorem dL_law_823 : decode cL_law 823 = .ok (.iload_n 3, 1) := by decide +kernel
theorem dL_law_824 : decode cL_law 824 = .ok (.iconst 2, 1) := by decide +kernel
theorem dL_law_825 : decode cL_law 825 = .ok (.iadd, 1) := by decide +kernel
theorem dL_law_826 : decode cL_law 826 = .ok (.iaload, 1) := by decide +kernel
theorem dL_law_827 : decode cL_law 827 = .ok (.aload_n 0, 1) := by decide +kernel
theorem dL_law_828 : decode cL_law 828 = .ok (.iload_n 3, 1) := by decide +kernel
theorem dL_law_829 : decode cL_law 829 = .ok (.iconst 3, 1) := by decide +kernel
theorem dL_law_830 : decode cL_law 830 = .ok (.iadd, 1) := by decide +kernel
theorem dL_law_831 : decode cL_law 831 = .ok (.iaload, 1) := by decide +kernel
theorem dL_law_832 : decode cL_law 832 = .ok (.invokevirtual 89, 3) := by decide +kernel
theorem dL_law_835 : decode cL_law 835 = .ok (.aload_n 2, 1) := by decide +kernel
theorem dL_law_836 : decode cL_law 836 = .ok (.aload_n 0, 1) := by decide +kernel
theorem dL_law_837 : decode cL_law 837 = .ok (.iload_n 3, 1) := by decide +kernel
theorem dL_law_838 : decode cL_law 838 = .ok (.iconst 1, 1) := by decide +kernel
theorem dL_law_839 : decode cL_law 839 = .ok (.iadd, 1) := by decide +kernel
theorem dL_law_840 : decode cL_law 840 = .ok (.iaload, 1) := by decide +kernel
theorem dL_law_841 : decode cL_law 841 = .ok (.aload_n 0, 1) := by decide +kernel
theorem dL_law_842 : decode cL_law 842 = .ok (.iload_n 3, 1) := by decide +kernel
theorem dL_law_843 : decode cL_law 843 = .ok (.iconst 2, 1) := by decide +kernel
theorem dL_law_844 : decode cL_law 844 = .ok (.iadd, 1) := by decide +kernel
theorem dL_law_845 : decode cL_law 845 = .ok (.iaload, 1) := by decide +kernel
theorem dL_law_846 : decode cL_law 846 = .ok (.aload_n 0, 1) := by decide +kernel
theorem dL_law_847 : decode cL_law 847 = .ok (.iload_n 3, 1) := by decide +kernel
theorem dL_law_848 : decode cL_law 848 = .ok (.iconst 3, 1) := by decide +kernel
theorem dL_law_849 : decode cL_law 849 = .ok (.iadd, 1) := by decide +kernel
theorem dL_law_850 : decode cL_law 850 = .ok (.iaload, 1) := by decide +kernel
theorem dL_law_851 : decode cL_law 851 = .ok (.invokevirtual 92, 3) := by decide +kernel
theorem dL_law_854 : decode cL_law 854 = .ok (.if_icmp .eq 782, 3) := by decide +kernel
theorem dL_law_859 : decode cL_law 859 = .ok (.aload_n 1, 1) := by decide +kernel
theorem dL_law_860 : decode cL_law 860 = .ok (.aload_n 0, 1) := by decide +kernel
theorem dL_law_861 : decode cL_law 861 = .ok (.iload_n 3, 1) := by decide +kernel
theorem dL_law_862 : decode cL_law 862 = .ok (.iconst 1, 1) := by decide +kernel
theorem dL_law_863 : decode cL_law 863 = .ok (.iadd, 1) := by decide +kernel
theorem dL_law_864 : decode cL_law 864 = .ok (.iaload, 1) := by decide +kernel
theorem dL_law_865 : decode cL_law 865 = .ok (.aload_n 0, 1) := by decide +kernel
theorem dL_law_866 : decode cL_law 866 = .ok (.iload_n 3, 1) := by decide +kernel
theorem dL_law_867 : decode cL_law 867 = .ok (.iconst 2, 1) := by decide +kernel
theorem dL_law_868 : decode cL_law 868 = .ok (.iadd, 1) := by decide +kernel
theorem dL_law_869 : decode cL_law 869 = .ok (.iaload, 1) := by decide +kernel
theorem dL_law_870 : decode cL_law 870 = .ok (.invokevirtual 93, 3) := by decide +kernel
theorem dL_law_873 : decode cL_law 873 = .ok (.aload_n 2, 1) := by decide +kernel
theorem dL_law_874 : decode cL_law 874 = .ok (.aload_n 0, 1) := by decide +kernel
theorem dL_law_875 : decode cL_law 875 = .ok (.iload_n 3, 1) := by decide +kernel
theorem dL_law_876 : decode cL_law 876 = .ok (.iconst 1, 1) := by decide +kernel
theorem dL_law_877 : decode cL_law 877 = .ok (.iadd, 1) := by decide +kernel
theorem dL_law_878 : decode cL_law 878 = .ok (.iaload, 1) := by decide +kernel
theorem dL_law_879 : decode cL_law 879 = .ok (.aload_n 0, 1) := by decide +kernel
theorem dL_law_880 : decode cL_law 880 = .ok (.iload_n 3, 1) := by decide +kernel
theorem dL_law_881 : decode cL_law 881 = .ok (.iconst 2, 1) := by decide +kernel
theorem dL_law_882 : decode cL_law 882 = .ok (.iadd, 1) := by decide +kernel
theorem dL_law_883 : decode cL_law 883 = .ok (.iaload, 1) := by decide +kernel
theorem dL_law_884 : decode cL_law 884 = .ok (.invokevirtual 96, 3) := by decide +kernel
theorem dL_law_887 : decode cL_law 887 = .ok (.if_icmp .eq 749, 3) := by decide +kernel
theorem dL_law_892 : decode cL_law 892 = .ok (.aload_n 1, 1) := by decide +kernel
theorem dL_law_893 : decode cL_law 893 = .ok (.aload_n 0, 1) := by decide +kernel
theorem dL_law_894 : decode cL_law 894 = .ok (.iload_n 3, 1) := by decide +kernel
theorem dL_law_895 : decode cL_law 895 = .ok (.iconst 1, 1) := by decide +kernel
theorem dL_law_896 : decode cL_law 896 = .ok (.iadd, 1) := by decide +kernel
theorem dL_law_897 : decode cL_law 897 = .ok (.iaload, 1) := by decide +kernel
theorem dL_law_898 : decode cL_law 898 = .ok (.aload_n 0, 1) := by decide +kernel
theorem dL_law_899 : decode cL_law 899 = .ok (.iload_n 3, 1) := by decide +kernel
theorem dL_law_900 : decode cL_law 900 = .ok (.iconst 2, 1) := by decide +kernel
theorem dL_law_901 : decode cL_law 901 = .ok (.iadd, 1) := by decide +kernel
theorem dL_law_902 : decode cL_law 902 = .ok (.iaload, 1) := by decide +kernel
theorem dL_law_903 : decode cL_law 903 = .ok (.aload_n 0, 1) := by decide +kernel
theorem dL_law_904 : decode cL_law 904 = .ok (.iload_n 3, 1) := by decide +kernel
theorem dL_law_905 : decode cL_law 905 = .ok (.iconst 3, 1) := by decide +kernel
theorem dL_law_906 : decode cL_law 906 = .ok (.iadd, 1) := by decide +kernel
theorem dL_law_907 : decode cL_law 907 = .ok (.iaload, 1) := by decide +kernel
theorem dL_law_908 : decode cL_law 908 = .ok (.invokevirtual 97, 3) := by decide +kernel
theorem dL_law_911 : decode cL_law 911 = .ok (.aload_n 2, 1) := by decide +kernel
theorem dL_law_912 : decode cL_law 912 = .ok (.aload_n 0, 1) := by decide +kernel
theorem dL_law_913 : decode cL_law 913 = .ok (.iload_n 3, 1) := by decide +kernel
theorem dL_law_914 : decode cL_law 914 = .ok (.iconst 1, 1) := by decide +kernel
theorem dL_law_915 : decode cL_law 915 = .ok (.iadd, 1) := by decide +kernel
theorem dL_law_916 : decode cL_law 916 = .ok (.iaload, 1) := by decide +kernel
theorem dL_law_917 : decode cL_law 917 = .ok (.aload_n 0, 1) := by decide +kernel
theorem dL_law_918 : decode cL_law 918 = .ok (.iload_n 3, 1) := by decide +kernel
theorem dL_law_919 : decode cL_law 919 = .ok (.iconst 2, 1) := by decide +kernel
theorem dL_law_920 : decode cL_law 920 = .ok (.iadd, 1) := by decide +kernel
theorem dL_law_921 : decode cL_law 921 = .ok (.iaload, 1) := by decide +kernel
theorem dL_law_922 : decode cL_law 922 = .ok (.aload_n 0, 1) := by decide +kernel
theorem dL_law_923 : decode cL_law 923 = .ok (.iload_n 3, 1) := by decide +kernel
theorem dL_law_924 : decode cL_law 924 = .ok (.iconst 3, 1) := by decide +kernel
theorem dL_law_925 : decode cL_law 925 = .ok (.iadd, 1) := by decide +kernel
theorem dL_law_926 : decode cL_law 926 = .ok (.iaload, 1) := by decide +kernel
theorem dL_law_927 : decode cL_law 927 = .ok (.invokevirtual 100, 3) := by decide +kernel
theorem dL_law_930 : decode cL_law 930 = .ok (.if_icmp .eq 706, 3) := by decide +kernel
theorem dL_law_935 : decode cL_law 935 = .ok (.aload_n 1, 1) := by decide +kernel
theorem dL_law_936 : decode cL_law 936 = .ok (.aload_n 0, 1) := by decide +kernel
theorem dL_law_937 : decode cL_law 937 = .ok (.iload_n 3, 1) := by decide +kernel
theorem dL_law_938 : decode cL_law 938 = .ok (.iconst 1, 1) := by decide +kernel
theorem dL_law_939 : decode cL_law 939 = .ok (.iadd, 1) := by decide +kernel
theorem dL_law_940 : decode cL_law 940 = .ok (.iaload, 1) := by decide +kernel
theorem dL_law_941 : decode cL_law 941 = .ok (.invokevirtual 101, 3) := by decide +kernel
theorem dL_law_944 : decode cL_law 944 = .ok (.aload_n 2, 1) := by decide +kernel
theorem dL_law_945 : decode cL_law 945 = .ok (.aload_n 0, 1) := by decide +kernel
theorem dL_law_946 : decode cL_law 946 = .ok (.iload_n 3, 1) := by decide +kernel
theorem dL_law_947 : decode cL_law 947 = .ok (.iconst 1, 1) := by decide +kernel
theorem dL_law_948 : decode cL_law 948 = .ok (.iadd, 1) := by decide +kernel
theorem dL_law_949 : decode cL_law 949 = .ok (.iaload, 1) := by decide +kernel
theorem dL_law_950 : decode cL_law 950 = .ok (.invokevirtual 104, 3) := by decide +kernel
theorem dL_law_953 : decode cL_law 953 = .ok (.if_icmp .eq 683, 3) := by decide +kernel
theorem dL_law_958 : decode cL_law 958 = .ok (.aload_n 1, 1) := by decide +kernel
theorem dL_law_959 : decode cL_law 959 = .ok (.aload_n 0, 1) := by decide +kernel
theorem dL_law_960 : decode cL_law 960 = .ok (.iload_n 3, 1) := by decide +kernel
theorem dL_law_961 : decode cL_law 961 = .ok (.iconst 1, 1) := by decide +kernel
theorem dL_law_962 : decode cL_law 962 = .ok (.iadd, 1) := by decide +kernel
theorem dL_law_963 : decode cL_law 963 = .ok (.iaload, 1) := by decide +kernel
theorem dL_law_964 : decode cL_law 964 = .ok (.aload_n 0, 1) := by decide +kernel
theorem dL_law_965 : decode cL_law 965 = .ok (.iload_n 3, 1) := by decide +kernel
theorem dL_law_966 : decode cL_law 966 = .ok (.iconst 2, 1) := by decide +kernel
theorem dL_law_967 : decode cL_law 967 = .ok (.iadd, 1) := by decide +kernel
theorem dL_law_968 : decode cL_law 968 = .ok (.iaload, 1) := by decide +kernel
theorem dL_law_969 : decode cL_law 969 = .ok (.aload_n 0, 1) := by decide +kernel
theorem dL_law_970 : decode cL_law 970 = .ok (.iload_n 3, 1) := by decide +kernel
theorem dL_law_971 : decode cL_law 971 = .ok (.iconst 3, 1) := by decide +kernel
theorem dL_law_972 : decode cL_law 972 = .ok (.iadd, 1) := by decide +kernel
theorem dL_law_973 : decode cL_law 973 = .ok (.iaload, 1) := by decide +kernel
theorem dL_law_974 : decode cL_law 974 = .ok (.invokevirtual 105, 3) := by decide +kernel
theorem dL_law_977 : decode cL_law 977 = .ok (.aload_n 2, 1) := by decide +kernel
theorem dL_law_978 : decode cL_law 978 = .ok (.aload_n 0, 1) := by decide +kernel
theorem dL_law_979 : decode cL_law 979 = .ok (.iload_n 3, 1) := by decide +kernel
theorem dL_law_980 : decode cL_law 980 = .ok (.iconst 1, 1) := by decide +kernel
theorem dL_law_981 : decode cL_law 981 = .ok (.iadd, 1) := by decide +kernel
theorem dL_law_982 : decode cL_law 982 = .ok (.iaload, 1) := by decide +kernel
theorem dL_law_983 : decode cL_law 983 = .ok (.aload_n 0, 1) := by decide +kernel
theorem dL_law_984 : decode cL_law 984 = .ok (.iload_n 3, 1) := by decide +kernel
theorem dL_law_985 : decode cL_law 985 = .ok (.iconst 2, 1) := by decide +kernel
theorem dL_law_986 : decode cL_law 986 = .ok (.iadd, 1) := by decide +kernel
theorem dL_law_987 : decode cL_law 987 = .ok (.iaload, 1) := by decide +kernel
theorem dL_law_988 : decode cL_law 988 = .ok (.aload_n 0, 1) := by decide +kernel
theorem dL_law_989 : decode cL_law 989 = .ok (.iload_n 3, 1) := by decide +kernel
theorem dL_law_990 : decode cL_law 990 = .ok (.iconst 3, 1) := by decide +kernel
theorem dL_law_991 : decode cL_law 991 = .ok (.iadd, 1) := by decide +kernel
theorem dL_law_992 : decode cL_law 992 = .ok (.iaload, 1) := by decide +kernel
theorem dL_law_993 : decode cL_law 993 = .ok (.invokevirtual 108, 3) := by decide +kernel
theorem dL_law_996 : decode cL_law 996 = .ok (.if_icmp .eq 640, 3) := by decide +kernel
theorem dL_law_1001 : decode cL_law 1001 = .ok (.aload_n 1, 1) := by decide +kernel
theorem dL_law_1002 : decode cL_law 1002 = .ok (.aload_n 0, 1) := by decide +kernel
theorem dL_law_1003 : decode cL_law 1003 = .ok (.iload_n 3, 1) := by decide +kernel
theorem dL_law_1004 : decode cL_law 1004 = .ok (.iconst 1, 1) := by decide +kernel
theorem dL_law_1005 : decode cL_law 1005 = .ok (.iadd, 1) := by decide +kernel
theorem dL_law_1006 : decode cL_law 1006 = .ok (.iaload, 1) := by decide +kernel
theorem dL_law_1007 : decode cL_law 1007 = .ok (.aload_n 0, 1) := by decide +kernel
theorem dL_law_1008 : decode cL_law 1008 = .ok (.iload_n 3, 1) := by decide +kernel
theorem dL_law_1009 : decode cL_law 1009 = .ok (.iconst 2, 1) := by decide +kernel
theorem dL_law_1010 : decode cL_law 1010 = .ok (.iadd, 1) := by decide +kernel
theorem dL_law_1011 : decode cL_law 1011 = .ok (.iaload, 1) := by decide +kernel
theorem dL_law_1012 : decode cL_law 1012 = .ok (.aload_n 0, 1) := by decide +kernel
theorem dL_law_1013 : decode cL_law 1013 = .ok (.iload_n 3, 1) := by decide +kernel
theorem dL_law_1014 : decode cL_law 1014 = .ok (.iconst 3, 1) := by decide +kernel
theorem dL_law_1015 : decode cL_law 1015 = .ok (.iadd, 1) := by decide +kernel
theorem dL_law_1016 : decode cL_law 1016 = .ok (.iaload, 1) := by decide +kernel
theorem dL_law_1017 : decode cL_law 1017 = .ok (.invokevirtual 109, 3) := by decide +kernel
theorem dL_law_1020 : decode cL_law 1020 = .ok (.aload_n 2, 1) := by decide +kernel
theorem dL_law_1021 : decode cL_law 1021 = .ok (.aload_n 0, 1) := by decide +kernel
theorem dL_law_1022 : decode cL_law 1022 = .ok (.iload_n 3, 1) := by decide +kernel
theorem dL_law_1023 : decode cL_law 1023 = .ok (.iconst 1, 1) := by decide +kernel
theorem dL_law_1024 : decode cL_law 1024 = .ok (.iadd, 1) := by decide +kernel
theorem dL_law_1025 : decode cL_law 1025 = .ok (.iaload, 1) := by decide +kernel
theorem dL_law_1026 : decode cL_law 1026 = .ok (.aload_n 0, 1) := by decide +kernel
theorem dL_law_1027 : decode cL_law 1027 = .ok (.iload_n 3, 1) := by decide +kernel
theorem dL_law_1028 : decode cL_law 1028 = .ok (.iconst 2, 1) := by decide +kernel
theorem dL_law_1029 : decode cL_law 1029 = .ok (.iadd, 1) := by decide +kernel
theorem dL_law_1030 : decode cL_law 1030 = .ok (.iaload, 1) := by decide +kernel
theorem dL_law_1031 : decode cL_law 1031 = .ok (.aload_n 0, 1) := by decide +kernel
theorem dL_law_1032 : decode cL_law 1032 = .ok (.iload_n 3, 1) := by decide +kernel
theorem dL_law_1033 : decode cL_law 1033 = .ok (.iconst 3, 1) := by decide +kernel
theorem dL_law_1034 : decode cL_law 1034 = .ok (.iadd, 1) := by decide +kernel
theorem dL_law_1035 : decode cL_law 1035 = .ok (.iaload, 1) := by decide +kernel
theorem dL_law_1036 : decode cL_law 1036 = .ok (.invokevirtual 112, 3) := by decide +kernel
theorem dL_law_1039 : decode cL_law 1039 = .ok (.if_icmp .eq 597, 3) := by decide +kernel
theorem dL_law_1044 : decode cL_law 1044 = .ok (.aload_n 1, 1) := by decide +kernel
theorem dL_law_1045 : decode cL_law 1045 = .ok (.aload_n 0, 1) := by decide +kernel
theorem dL_law_1046 : decode cL_law 1046 = .ok (.iload_n 3, 1) := by decide +kernel
theorem dL_law_1047 : decode cL_law 1047 = .ok (.iconst 1, 1) := by decide +kernel
theorem dL_law_1048 : decode cL_law 1048 = .ok (.iadd, 1) := by decide +kernel
theorem dL_law_1049 : decode cL_law 1049 = .ok (.iaload, 1) := by decide +kernel
theorem dL_law_1050 : decode cL_law 1050 = .ok (.aload_n 0, 1) := by decide +kernel
theorem dL_law_1051 : decode cL_law 1051 = .ok (.iload_n 3, 1) := by decide +kernel
theorem dL_law_1052 : decode cL_law 1052 = .ok (.iconst 2, 1) := by decide +kernel
theorem dL_law_1053 : decode cL_law 1053 = .ok (.iadd, 1) := by decide +kernel
theorem dL_law_1054 : decode cL_law 1054 = .ok (.iaload, 1) := by decide +kernel
theorem dL_law_1055 : decode cL_law 1055 = .ok (.aload_n 0, 1) := by decide +kernel
theorem dL_law_1056 : decode cL_law 1056 = .ok (.iload_n 3, 1) := by decide +kernel
theorem dL_law_1057 : decode cL_law 1057 = .ok (.iconst 3, 1) := by decide +kernel
theorem dL_law_1058 : decode cL_law 1058 = .ok (.iadd, 1) := by decide +kernel
theorem dL_law_1059 : decode cL_law 1059 = .ok (.iaload, 1) := by decide +kernel
theorem dL_law_1060 : decode cL_law 1060 = .ok (.aload_n 0, 1) := by decide +kernel
theorem dL_law_1061 : decode cL_law 1061 = .ok (.iload_n 3, 1) := by decide +kernel
theorem dL_law_1062 : decode cL_law 1062 = .ok (.iconst 4, 1) := by decide +kernel
theorem dL_law_1063 : decode cL_law 1063 = .ok (.iadd, 1) := by decide +kernel
theorem dL_law_1064 : decode cL_law 1064 = .ok (.iaload, 1) := by decide +kernel
theorem dL_law_1065 : decode cL_law 1065 = .ok (.invokevirtual 113, 3) := by decide +kernel
theorem dL_law_1068 : decode cL_law 1068 = .ok (.aload_n 2, 1) := by decide +kernel
theorem dL_law_1069 : decode cL_law 1069 = .ok (.aload_n 0, 1) := by decide +kernel
theorem dL_law_1070 : decode cL_law 1070 = .ok (.iload_n 3, 1) := by decide +kernel
theorem dL_law_1071 : decode cL_law 1071 = .ok (.iconst 1, 1) := by decide +kernel
theorem dL_law_1072 : decode cL_law 1072 = .ok (.iadd, 1) := by decide +kernel
theorem dL_law_1073 : decode cL_law 1073 = .ok (.iaload, 1) := by decide +kernel
theorem dL_law_1074 : decode cL_law 1074 = .ok (.aload_n 0, 1) := by decide +kernel
theorem dL_law_1075 : decode cL_law 1075 = .ok (.iload_n 3, 1) := by decide +kernel
theorem dL_law_1076 : decode cL_law 1076 = .ok (.iconst 2, 1) := by decide +kernel
theorem dL_law_1077 : decode cL_law 1077 = .ok (.iadd, 1) := by decide +kernel
theorem dL_law_1078 : decode cL_law 1078 = .ok (.iaload, 1) := by decide +kernel
theorem dL_law_1079 : decode cL_law 1079 = .ok (.aload_n 0, 1) := by decide +kernel
theorem dL_law_1080 : decode cL_law 1080 = .ok (.iload_n 3, 1) := by decide +kernel
theorem dL_law_1081 : decode cL_law 1081 = .ok (.iconst 3, 1) := by decide +kernel
theorem dL_law_1082 : decode cL_law 1082 = .ok (.iadd, 1) := by decide +kernel
theorem dL_law_1083 : decode cL_law 1083 = .ok (.iaload, 1) := by decide +kernel
theorem dL_law_1084 : decode cL_law 1084 = .ok (.aload_n 0, 1) := by decide +kernel
theorem dL_law_1085 : decode cL_law 1085 = .ok (.iload_n 3, 1) := by decide +kernel
theorem dL_law_1086 : decode cL_law 1086 = .ok (.iconst 4, 1) := by decide +kernel
theorem dL_law_1087 : decode cL_law 1087 = .ok (.iadd, 1) := by decide +kernel
theorem dL_law_1088 : decode cL_law 1088 = .ok (.iaload, 1) := by decide +kernel
theorem dL_law_1089 : decode cL_law 1089 = .ok (.invokevirtual 117, 3) := by decide +kernel
theorem dL_law_1092 : decode cL_law 1092 = .ok (.if_icmp .eq 544, 3) := by decide +kernel
theorem dL_law_1097 : decode cL_law 1097 = .ok (.aload_n 1, 1) := by decide +kernel
theorem dL_law_1098 : decode cL_law 1098 = .ok (.aload_n 0, 1) := by decide +kernel
theorem dL_law_1099 : decode cL_law 1099 = .ok (.iload_n 3, 1) := by decide +kernel
theorem dL_law_1100 : decode cL_law 1100 = .ok (.iconst 1, 1) := by decide +kernel
theorem dL_law_1101 : decode cL_law 1101 = .ok (.iadd, 1) := by decide +kernel
theorem dL_law_1102 : decode cL_law 1102 = .ok (.iaload, 1) := by decide +kernel
theorem dL_law_1103 : decode cL_law 1103 = .ok (.invokevirtual 118, 3) := by decide +kernel
theorem dL_law_1106 : decode cL_law 1106 = .ok (.aload_n 2, 1) := by decide +kernel
theorem dL_law_1107 : decode cL_law 1107 = .ok (.aload_n 0, 1) := by decide +kernel
theorem dL_law_1108 : decode cL_law 1108 = .ok (.iload_n 3, 1) := by decide +kernel
theorem dL_law_1109 : decode cL_law 1109 = .ok (.iconst 1, 1) := by decide +kernel
theorem dL_law_1110 : decode cL_law 1110 = .ok (.iadd, 1) := by decide +kernel
theorem dL_law_1111 : decode cL_law 1111 = .ok (.iaload, 1) := by decide +kernel
theorem dL_law_1112 : decode cL_law 1112 = .ok (.invokevirtual 121, 3) := by decide +kernel
theorem dL_law_1115 : decode cL_law 1115 = .ok (.if_icmp .eq 521, 3) := by decide +kernel
theorem dL_law_1120 : decode cL_law 1120 = .ok (.aload_n 1, 1) := by decide +kernel
theorem dL_law_1121 : decode cL_law 1121 = .ok (.aload_n 0, 1) := by decide +kernel
theorem dL_law_1122 : decode cL_law 1122 = .ok (.iload_n 3, 1) := by decide +kernel
theorem dL_law_1123 : decode cL_law 1123 = .ok (.iconst 1, 1) := by decide +kernel
theorem dL_law_1124 : decode cL_law 1124 = .ok (.iadd, 1) := by decide +kernel
theorem dL_law_1125 : decode cL_law 1125 = .ok (.iaload, 1) := by decide +kernel
theorem dL_law_1126 : decode cL_law 1126 = .ok (.invokevirtual 122, 3) := by decide +kernel
theorem dL_law_1129 : decode cL_law 1129 = .ok (.aload_n 2, 1) := by decide +kernel
theorem dL_law_1130 : decode cL_law 1130 = .ok (.aload_n 0, 1) := by decide +kernel
theorem dL_law_1131 : decode cL_law 1131 = .ok (.iload_n 3, 1) := by decide +kernel
theorem dL_law_1132 : decode cL_law 1132 = .ok (.iconst 1, 1) := by decide +kernel
theorem dL_law_1133 : decode cL_law 1133 = .ok (.iadd, 1) := by decide +kernel
theorem dL_law_1134 : decode cL_law 1134 = .ok (.iaload, 1) := by decide +kernel
theorem dL_law_1135 : decode cL_law 1135 = .ok (.invokevirtual 125, 3) := by decide +kernel
theorem dL_law_1138 : decode cL_law 1138 = .ok (.if_icmp .eq 498, 3) := by decide +kernel
theorem dL_law_1143 : decode cL_law 1143 = .ok (.aload_n 1, 1) := by decide +kernel
theorem dL_law_1144 : decode cL_law 1144 = .ok (.aload_n 0, 1) := by decide +kernel
theorem dL_law_1145 : decode cL_law 1145 = .ok (.iload_n 3, 1) := by decide +kernel
theorem dL_law_1146 : decode cL_law 1146 = .ok (.iconst 1, 1) := by decide +kernel
theorem dL_law_1147 : decode cL_law 1147 = .ok (.iadd, 1) := by decide +kernel
theorem dL_law_1148 : decode cL_law 1148 = .ok (.iaload, 1) := by decide +kernel
theorem dL_law_1149 : decode cL_law 1149 = .ok (.invokevirtual 126, 3) := by decide +kernel
theorem dL_law_1152 : decode cL_law 1152 = .ok (.aload_n 2, 1) := by decide +kernel
theorem dL_law_1153 : decode cL_law 1153 = .ok (.aload_n 0, 1) := by decide +kernel
theorem dL_law_1154 : decode cL_law 1154 = .ok (.iload_n 3, 1) := by decide +kernel
theorem dL_law_1155 : decode cL_law 1155 = .ok (.iconst 1, 1) := by decide +kernel
theorem dL_law_1156 : decode cL_law 1156 = .ok (.iadd, 1) := by decide +kernel
theorem dL_law_1157 : decode cL_law 1157 = .ok (.iaload, 1) := by decide +kernel
theorem dL_law_1158 : decode cL_law 1158 = .ok (.invokevirtual 129, 3) := by decide +kernel
theorem dL_law_1161 : decode cL_law 1161 = .ok (.if_icmp .eq 475, 3) := by decide +kernel
theorem dL_law_1166 : decode cL_law 1166 = .ok (.aload_n 1, 1) := by decide +kernel
theorem dL_law_1167 : decode cL_law 1167 = .ok (.aload_n 0, 1) := by decide +kernel
theorem dL_law_1168 : decode cL_law 1168 = .ok (.iload_n 3, 1) := by decide +kernel
theorem dL_law_1169 : decode cL_law 1169 = .ok (.iconst 1, 1) := by decide +kernel
theorem dL_law_1170 : decode cL_law 1170 = .ok (.iadd, 1) := by decide +kernel
theorem dL_law_1171 : decode cL_law 1171 = .ok (.iaload, 1) := by decide +kernel
theorem dL_law_1172 : decode cL_law 1172 = .ok (.invokevirtual 130, 3) := by decide +kernel
theorem dL_law_1175 : decode cL_law 1175 = .ok (.aload_n 2, 1) := by decide +kernel
theorem dL_law_1176 : decode cL_law 1176 = .ok (.aload_n 0, 1) := by decide +kernel
theorem dL_law_1177 : decode cL_law 1177 = .ok (.iload_n 3, 1) := by decide +kernel
theorem dL_law_1178 : decode cL_law 1178 = .ok (.iconst 1, 1) := by decide +kernel
theorem dL_law_1179 : decode cL_law 1179 = .ok (.iadd, 1) := by decide +kernel
theorem dL_law_1180 : decode cL_law 1180 = .ok (.iaload, 1) := by decide +kernel
theorem dL_law_1181 : decode cL_law 1181 = .ok (.invokevirtual 133, 3) := by decide +kernel
theorem dL_law_1184 : decode cL_law 1184 = .ok (.if_icmp .eq 452, 3) := by decide +kernel
theorem dL_law_1189 : decode cL_law 1189 = .ok (.aload_n 1, 1) := by decide +kernel
theorem dL_law_1190 : decode cL_law 1190 = .ok (.aload_n 0, 1) := by decide +kernel
theorem dL_law_1191 : decode cL_law 1191 = .ok (.iload_n 3, 1) := by decide +kernel
theorem dL_law_1192 : decode cL_law 1192 = .ok (.iconst 1, 1) := by decide +kernel
theorem dL_law_1193 : decode cL_law 1193 = .ok (.iadd, 1) := by decide +kernel
theorem dL_law_1194 : decode cL_law 1194 = .ok (.iaload, 1) := by decide +kernel
theorem dL_law_1195 : decode cL_law 1195 = .ok (.invokevirtual 134, 3) := by decide +kernel
theorem dL_law_1198 : decode cL_law 1198 = .ok (.aload_n 2, 1) := by decide +kernel
theorem dL_law_1199 : decode cL_law 1199 = .ok (.aload_n 0, 1) := by decide +kernel
theorem dL_law_1200 : decode cL_law 1200 = .ok (.iload_n 3, 1) := by decide +kernel
theorem dL_law_1201 : decode cL_law 1201 = .ok (.iconst 1, 1) := by decide +kernel
theorem dL_law_1202 : decode cL_law 1202 = .ok (.iadd, 1) := by decide +kernel
theorem dL_law_1203 : decode cL_law 1203 = .ok (.iaload, 1) := by decide +kernel
theorem dL_law_1204 : decode cL_law 1204 = .ok (.invokevirtual 137, 3) := by decide +kernel
theorem dL_law_1207 : decode cL_law 1207 = .ok (.if_icmp .eq 429, 3) := by decide +kernel
theorem dL_law_1212 : decode cL_law 1212 = .ok (.aload_n 1, 1) := by decide +kernel
theorem dL_law_1213 : decode cL_law 1213 = .ok (.invokevirtual 138, 3) := by decide +kernel
theorem dL_law_1216 : decode cL_law 1216 = .ok (.aload_n 2, 1) := by decide +kernel
theorem dL_law_1217 : decode cL_law 1217 = .ok (.invokevirtual 141, 3) := by decide +kernel
theorem dL_law_1220 : decode cL_law 1220 = .ok (.if_icmp .eq 416, 3) := by decide +kernel
theorem dL_law_1225 : decode cL_law 1225 = .ok (.aload_n 1, 1) := by decide +kernel
theorem dL_law_1226 : decode cL_law 1226 = .ok (.aload_n 0, 1) := by decide +kernel
theorem dL_law_1227 : decode cL_law 1227 = .ok (.iload_n 3, 1) := by decide +kernel
theorem dL_law_1228 : decode cL_law 1228 = .ok (.iconst 1, 1) := by decide +kernel
theorem dL_law_1229 : decode cL_law 1229 = .ok (.iadd, 1) := by decide +kernel
theorem dL_law_1230 : decode cL_law 1230 = .ok (.iaload, 1) := by decide +kernel
theorem dL_law_1231 : decode cL_law 1231 = .ok (.aload_n 0, 1) := by decide +kernel
theorem dL_law_1232 : decode cL_law 1232 = .ok (.iload_n 3, 1) := by decide +kernel
theorem dL_law_1233 : decode cL_law 1233 = .ok (.iconst 2, 1) := by decide +kernel
theorem dL_law_1234 : decode cL_law 1234 = .ok (.iadd, 1) := by decide +kernel
theorem dL_law_1235 : decode cL_law 1235 = .ok (.iaload, 1) := by decide +kernel
theorem dL_law_1236 : decode cL_law 1236 = .ok (.aload_n 0, 1) := by decide +kernel
theorem dL_law_1237 : decode cL_law 1237 = .ok (.iload_n 3, 1) := by decide +kernel
theorem dL_law_1238 : decode cL_law 1238 = .ok (.iconst 3, 1) := by decide +kernel
theorem dL_law_1239 : decode cL_law 1239 = .ok (.iadd, 1) := by decide +kernel
theorem dL_law_1240 : decode cL_law 1240 = .ok (.iaload, 1) := by decide +kernel
theorem dL_law_1241 : decode cL_law 1241 = .ok (.invokevirtual 142, 3) := by decide +kernel
theorem dL_law_1244 : decode cL_law 1244 = .ok (.aload_n 2, 1) := by decide +kernel
theorem dL_law_1245 : decode cL_law 1245 = .ok (.aload_n 0, 1) := by decide +kernel
theorem dL_law_1246 : decode cL_law 1246 = .ok (.iload_n 3, 1) := by decide +kernel
theorem dL_law_1247 : decode cL_law 1247 = .ok (.iconst 1, 1) := by decide +kernel
theorem dL_law_1248 : decode cL_law 1248 = .ok (.iadd, 1) := by decide +kernel
theorem dL_law_1249 : decode cL_law 1249 = .ok (.iaload, 1) := by decide +kernel
theorem dL_law_1250 : decode cL_law 1250 = .ok (.aload_n 0, 1) := by decide +kernel
theorem dL_law_1251 : decode cL_law 1251 = .ok (.iload_n 3, 1) := by decide +kernel
theorem dL_law_1252 : decode cL_law 1252 = .ok (.iconst 2, 1) := by decide +kernel
theorem dL_law_1253 : decode cL_law 1253 = .ok (.iadd, 1) := by decide +kernel
theorem dL_law_1254 : decode cL_law 1254 = .ok (.iaload, 1) := by decide +kernel
theorem dL_law_1255 : decode cL_law 1255 = .ok (.aload_n 0, 1) := by decide +kernel
theorem dL_law_1256 : decode cL_law 1256 = .ok (.iload_n 3, 1) := by decide +kernel
theorem dL_law_1257 : decode cL_law 1257 = .ok (.iconst 3, 1) := by decide +kernel
theorem dL_law_1258 : decode cL_law 1258 = .ok (.iadd, 1) := by decide +kernel
theorem dL_law_1259 : decode cL_law 1259 = .ok (.iaload, 1) := by decide +kernel
theorem dL_law_1260 : decode cL_law 1260 = .ok (.invokevirtual 145, 3) := by decide +kernel
theorem dL_law_1263 : decode cL_law 1263 = .ok (.if_icmp .eq 373, 3) := by decide +kernel
theorem dL_law_1268 : decode cL_law 1268 = .ok (.aload_n 1, 1) := by decide +kernel
theorem dL_law_1269 : decode cL_law 1269 = .ok (.aload_n 0, 1) := by decide +kernel
theorem dL_law_1270 : decode cL_law 1270 = .ok (.iload_n 3, 1) := by decide +kernel
theorem dL_law_1271 : decode cL_law 1271 = .ok (.iconst 1, 1) := by decide +kernel
theorem dL_law_1272 : decode cL_law 1272 = .ok (.iadd, 1) := by decide +kernel
theorem dL_law_1273 : decode cL_law 1273 = .ok (.iaload, 1) := by decide +kernel
theorem dL_law_1274 : decode cL_law 1274 = .ok (.invokevirtual 146, 3) := by decide +kernel
theorem dL_law_1277 : decode cL_law 1277 = .ok (.aload_n 2, 1) := by decide +kernel
theorem dL_law_1278 : decode cL_law 1278 = .ok (.aload_n 0, 1) := by decide +kernel
theorem dL_law_1279 : decode cL_law 1279 = .ok (.iload_n 3, 1) := by decide +kernel
theorem dL_law_1280 : decode cL_law 1280 = .ok (.iconst 1, 1) := by decide +kernel
theorem dL_law_1281 : decode cL_law 1281 = .ok (.iadd, 1) := by decide +kernel
theorem dL_law_1282 : decode cL_law 1282 = .ok (.iaload, 1) := by decide +kernel
theorem dL_law_1283 : decode cL_law 1283 = .ok (.invokevirtual 149, 3) := by decide +kernel
theorem dL_law_1286 : decode cL_law 1286 = .ok (.if_icmp .eq 350, 3) := by decide +kernel
theorem dL_law_1291 : decode cL_law 1291 = .ok (.aload_n 1, 1) := by decide +kernel
theorem dL_law_1292 : decode cL_law 1292 = .ok (.aload_n 0, 1) := by decide +kernel
theorem dL_law_1293 : decode cL_law 1293 = .ok (.iload_n 3, 1) := by decide +kernel
theorem dL_law_1294 : decode cL_law 1294 = .ok (.iconst 1, 1) := by decide +kernel
theorem dL_law_1295 : decode cL_law 1295 = .ok (.iadd, 1) := by decide +kernel
theorem dL_law_1296 : decode cL_law 1296 = .ok (.iaload, 1) := by decide +kernel
theorem dL_law_1297 : decode cL_law 1297 = .ok (.aload_n 0, 1) := by decide +kernel
theorem dL_law_1298 : decode cL_law 1298 = .ok (.iload_n 3, 1) := by decide +kernel
theorem dL_law_1299 : decode cL_law 1299 = .ok (.iconst 2, 1) := by decide +kernel
theorem dL_law_1300 : decode cL_law 1300 = .ok (.iadd, 1) := by decide +kernel
theorem dL_law_1301 : decode cL_law 1301 = .ok (.iaload, 1) := by decide +kernel
theorem dL_law_1302 : decode cL_law 1302 = .ok (.invokevirtual 150, 3) := by decide +kernel
theorem dL_law_1305 : decode cL_law 1305 = .ok (.aload_n 2, 1) := by decide +kernel
theorem dL_law_1306 : decode cL_law 1306 = .ok (.aload_n 0, 1) := by decide +kernel
theorem dL_law_1307 : decode cL_law 1307 = .ok (.iload_n 3, 1) := by decide +kernel
theorem dL_law_1308 : decode cL_law 1308 = .ok (.iconst 1, 1) := by decide +kernel
theorem dL_law_1309 : decode cL_law 1309 = .ok (.iadd, 1) := by decide +kernel
theorem dL_law_1310 : decode cL_law 1310 = .ok (.iaload, 1) := by decide +kernel
theorem dL_law_1311 : decode cL_law 1311 = .ok (.aload_n 0, 1) := by decide +kernel
theorem dL_law_1312 : decode cL_law 1312 = .ok (.iload_n 3, 1) := by decide +kernel
theorem dL_law_1313 : decode cL_law 1313 = .ok (.iconst 2, 1) := by decide +kernel
theorem dL_law_1314 : decode cL_law 1314 = .ok (.iadd, 1) := by decide +kernel
theorem dL_law_1315 : decode cL_law 1315 = .ok (.iaload, 1) := by decide +kernel
theorem dL_law_1316 : decode cL_law 1316 = .ok (.invokevirtual 153, 3) := by decide +kernel
theorem dL_law_1319 : decode cL_law 1319 = .ok (.if_icmp .eq 317, 3) := by decide +kernel
theorem dL_law_1324 : decode cL_law 1324 = .ok (.aload_n 1, 1) := by decide +kernel
theorem dL_law_1325 : decode cL_law 1325 = .ok (.aload_n 0, 1) := by decide +kernel
theorem dL_law_1326 : decode cL_law 1326 = .ok (.iload_n 3, 1) := by decide +kernel
theorem dL_law_1327 : decode cL_law 1327 = .ok (.iconst 1, 1) := by decide +kernel
theorem dL_law_1328 : decode cL_law 1328 = .ok (.iadd, 1) := by decide +kernel
theorem dL_law_1329 : decode cL_law 1329 = .ok (.iaload, 1) := by decide +kernel
theorem dL_law_1330 : decode cL_law 1330 = .ok (.aload_n 0, 1) := by decide +kernel
theorem dL_law_1331 : decode cL_law 1331 = .ok (.iload_n 3, 1) := by decide +kernel
theorem dL_law_1332 : decode cL_law 1332 = .ok (.iconst 2, 1) := by decide +kernel
theorem dL_law_1333 : decode cL_law 1333 = .ok (.iadd, 1) := by decide +kernel
theorem dL_law_1334 : decode cL_law 1334 = .ok (.iaload, 1) := by decide +kernel
theorem dL_law_1335 : decode cL_law 1335 = .ok (.aload_n 0, 1) := by decide +kernel
theorem dL_law_1336 : decode cL_law 1336 = .ok (.iload_n 3, 1) := by decide +kernel
theorem dL_law_1337 : decode cL_law 1337 = .ok (.iconst 3, 1) := by decide +kernel
theorem dL_law_1338 : decode cL_law 1338 = .ok (.iadd, 1) := by decide +kernel
theorem dL_law_1339 : decode cL_law 1339 = .ok (.iaload, 1) := by decide +kernel
theorem dL_law_1340 : decode cL_law 1340 = .ok (.invokevirtual 154, 3) := by decide +kernel
theorem dL_law_1343 : decode cL_law 1343 = .ok (.aload_n 2, 1) := by decide +kernel
theorem dL_law_1344 : decode cL_law 1344 = .ok (.aload_n 0, 1) := by decide +kernel
theorem dL_law_1345 : decode cL_law 1345 = .ok (.iload_n 3, 1) := by decide +kernel
theorem dL_law_1346 : decode cL_law 1346 = .ok (.iconst 1, 1) := by decide +kernel
theorem dL_law_1347 : decode cL_law 1347 = .ok (.iadd, 1) := by decide +kernel
theorem dL_law_1348 : decode cL_law 1348 = .ok (.iaload, 1) := by decide +kernel
theorem dL_law_1349 : decode cL_law 1349 = .ok (.aload_n 0, 1) := by decide +kernel
theorem dL_law_1350 : decode cL_law 1350 = .ok (.iload_n 3, 1) := by decide +kernel
theorem dL_law_1351 : decode cL_law 1351 = .ok (.iconst 2, 1) := by decide +kernel
theorem dL_law_1352 : decode cL_law 1352 = .ok (.iadd, 1) := by decide +kernel
theorem dL_law_1353 : decode cL_law 1353 = .ok (.iaload, 1) := by decide +kernel
theorem dL_law_1354 : decode cL_law 1354 = .ok (.aload_n 0, 1) := by decide +kernel
theorem dL_law_1355 : decode cL_law 1355 = .ok (.iload_n 3, 1) := by decide +kernel
theorem dL_law_1356 : decode cL_law 1356 = .ok (.iconst 3, 1) := by decide +kernel
theorem dL_law_1357 : decode cL_law 1357 = .ok (.iadd, 1) := by decide +kernel
theorem dL_law_1358 : decode cL_law 1358 = .ok (.iaload, 1) := by decide +kernel
theorem dL_law_1359 : decode cL_law 1359 = .ok (.invokevirtual 157, 3) := by decide +kernel
theorem dL_law_1362 : decode cL_law 1362 = .ok (.if_icmp .eq 274, 3) := by decide +kernel
theorem dL_law_1367 : decode cL_law 1367 = .ok (.aload_n 1, 1) := by decide +kernel
theorem dL_law_1368 : decode cL_law 1368 = .ok (.aload_n 0, 1) := by decide +kernel
theorem dL_law_1369 : decode cL_law 1369 = .ok (.iload_n 3, 1) := by decide +kernel
theorem dL_law_1370 : decode cL_law 1370 = .ok (.iconst 1, 1) := by decide +kernel
theorem dL_law_1371 : decode cL_law 1371 = .ok (.iadd, 1) := by decide +kernel
theorem dL_law_1372 : decode cL_law 1372 = .ok (.iaload, 1) := by decide +kernel
theorem dL_law_1373 : decode cL_law 1373 = .ok (.aload_n 0, 1) := by decide +kernel
theorem dL_law_1374 : decode cL_law 1374 = .ok (.iload_n 3, 1) := by decide +kernel
theorem dL_law_1375 : decode cL_law 1375 = .ok (.iconst 2, 1) := by decide +kernel
theorem dL_law_1376 : decode cL_law 1376 = .ok (.iadd, 1) := by decide +kernel
theorem dL_law_1377 : decode cL_law 1377 = .ok (.iaload, 1) := by decide +kernel
theorem dL_law_1378 : decode cL_law 1378 = .ok (.aload_n 0, 1) := by decide +kernel
theorem dL_law_1379 : decode cL_law 1379 = .ok (.iload_n 3, 1) := by decide +kernel
theorem dL_law_1380 : decode cL_law 1380 = .ok (.iconst 3, 1) := by decide +kernel
theorem dL_law_1381 : decode cL_law 1381 = .ok (.iadd, 1) := by decide +kernel
theorem dL_law_1382 : decode cL_law 1382 = .ok (.iaload, 1) := by decide +kernel
theorem dL_law_1383 : decode cL_law 1383 = .ok (.i2l, 1) := by decide +kernel
theorem dL_law_1384 : decode cL_law 1384 = .ok (.bipush 32, 2) := by decide +kernel
theorem dL_law_1386 : decode cL_law 1386 = .ok (.lshl, 1) := by decide +kernel
theorem dL_law_1387 : decode cL_law 1387 = .ok (.aload_n 0, 1) := by decide +kernel
theorem dL_law_1388 : decode cL_law 1388 = .ok (.iload_n 3, 1) := by decide +kernel
theorem dL_law_1389 : decode cL_law 1389 = .ok (.iconst 4, 1) := by decide +kernel
theorem dL_law_1390 : decode cL_law 1390 = .ok (.iadd, 1) := by decide +kernel
theorem dL_law_1391 : decode cL_law 1391 = .ok (.iaload, 1) := by decide +kernel
theorem dL_law_1392 : decode cL_law 1392 = .ok (.i2l, 1) := by decide +kernel
theorem dL_law_1393 : decode cL_law 1393 = .ok (.ldc2_w 158, 3) := by decide +kernel
theorem dL_law_1396 : decode cL_law 1396 = .ok (.land, 1) := by decide +kernel
theorem dL_law_1397 : decode cL_law 1397 = .ok (.lor, 1) := by decide +kernel
theorem dL_law_1398 : decode cL_law 1398 = .ok (.invokevirtual 160, 3) := by decide +kernel
theorem dL_law_1401 : decode cL_law 1401 = .ok (.aload_n 2, 1) := by decide +kernel
theorem dL_law_1402 : decode cL_law 1402 = .ok (.aload_n 0, 1) := by decide +kernel
theorem dL_law_1403 : decode cL_law 1403 = .ok (.iload_n 3, 1) := by decide +kernel
theorem dL_law_1404 : decode cL_law 1404 = .ok (.iconst 1, 1) := by decide +kernel
theorem dL_law_1405 : decode cL_law 1405 = .ok (.iadd, 1) := by decide +kernel
theorem dL_law_1406 : decode cL_law 1406 = .ok (.iaload, 1) := by decide +kernel
theorem dL_law_1407 : decode cL_law 1407 = .ok (.aload_n 0, 1) := by decide +kernel
theorem dL_law_1408 : decode cL_law 1408 = .ok (.iload_n 3, 1) := by decide +kernel
theorem dL_law_1409 : decode cL_law 1409 = .ok (.iconst 2, 1) := by decide +kernel
theorem dL_law_1410 : decode cL_law 1410 = .ok (.iadd, 1) := by decide +kernel
theorem dL_law_1411 : decode cL_law 1411 = .ok (.iaload, 1) := by decide +kernel
theorem dL_law_1412 : decode cL_law 1412 = .ok (.aload_n 0, 1) := by decide +kernel
theorem dL_law_1413 : decode cL_law 1413 = .ok (.iload_n 3, 1) := by decide +kernel
theorem dL_law_1414 : decode cL_law 1414 = .ok (.iconst 3, 1) := by decide +kernel
theorem dL_law_1415 : decode cL_law 1415 = .ok (.iadd, 1) := by decide +kernel
theorem dL_law_1416 : decode cL_law 1416 = .ok (.iaload, 1) := by decide +kernel
theorem dL_law_1417 : decode cL_law 1417 = .ok (.i2l, 1) := by decide +kernel
theorem dL_law_1418 : decode cL_law 1418 = .ok (.bipush 32, 2) := by decide +kernel
theorem dL_law_1420 : decode cL_law 1420 = .ok (.lshl, 1) := by decide +kernel
theorem dL_law_1421 : decode cL_law 1421 = .ok (.aload_n 0, 1) := by decide +kernel
theorem dL_law_1422 : decode cL_law 1422 = .ok (.iload_n 3, 1) := by decide +kernel
theorem dL_law_1423 : decode cL_law 1423 = .ok (.iconst 4, 1) := by decide +kernel
theorem dL_law_1424 : decode cL_law 1424 = .ok (.iadd, 1) := by decide +kernel
theorem dL_law_1425 : decode cL_law 1425 = .ok (.iaload, 1) := by decide +kernel
theorem dL_law_1426 : decode cL_law 1426 = .ok (.i2l, 1) := by decide +kernel
theorem dL_law_1427 : decode cL_law 1427 = .ok (.ldc2_w 158, 3) := by decide +kernel
theorem dL_law_1430 : decode cL_law 1430 = .ok (.land, 1) := by decide +kernel
theorem dL_law_1431 : decode cL_law 1431 = .ok (.lor, 1) := by decide +kernel
theorem dL_law_1432 : decode cL_law 1432 = .ok (.invokevirtual 164, 3) := by decide +kernel
theorem dL_law_1435 : decode cL_law 1435 = .ok (.if_icmp .eq 201, 3) := by decide +kernel
theorem dL_law_1440 : decode cL_law 1440 = .ok (.aload_n 1, 1) := by decide +kernel
theorem dL_law_1441 : decode cL_law 1441 = .ok (.aload_n 0, 1) := by decide +kernel
theorem dL_law_1442 : decode cL_law 1442 = .ok (.iload_n 3, 1) := by decide +kernel
theorem dL_law_1443 : decode cL_law 1443 = .ok (.iconst 1, 1) := by decide +kernel
theorem dL_law_1444 : decode cL_law 1444 = .ok (.iadd, 1) := by decide +kernel
theorem dL_law_1445 : decode cL_law 1445 = .ok (.iaload, 1) := by decide +kernel
theorem dL_law_1446 : decode cL_law 1446 = .ok (.aload_n 0, 1) := by decide +kernel
theorem dL_law_1447 : decode cL_law 1447 = .ok (.iload_n 3, 1) := by decide +kernel
theorem dL_law_1448 : decode cL_law 1448 = .ok (.iconst 2, 1) := by decide +kernel
theorem dL_law_1449 : decode cL_law 1449 = .ok (.iadd, 1) := by decide +kernel
theorem dL_law_1450 : decode cL_law 1450 = .ok (.iaload, 1) := by decide +kernel
theorem dL_law_1451 : decode cL_law 1451 = .ok (.invokevirtual 165, 3) := by decide +kernel
theorem dL_law_1454 : decode cL_law 1454 = .ok (.aload_n 2, 1) := by decide +kernel
theorem dL_law_1455 : decode cL_law 1455 = .ok (.aload_n 0, 1) := by decide +kernel
theorem dL_law_1456 : decode cL_law 1456 = .ok (.iload_n 3, 1) := by decide +kernel
theorem dL_law_1457 : decode cL_law 1457 = .ok (.iconst 1, 1) := by decide +kernel
theorem dL_law_1458 : decode cL_law 1458 = .ok (.iadd, 1) := by decide +kernel
theorem dL_law_1459 : decode cL_law 1459 = .ok (.iaload, 1) := by decide +kernel
theorem dL_law_1460 : decode cL_law 1460 = .ok (.aload_n 0, 1) := by decide +kernel
theorem dL_law_1461 : decode cL_law 1461 = .ok (.iload_n 3, 1) := by decide +kernel
theorem dL_law_1462 : decode cL_law 1462 = .ok (.iconst 2, 1) := by decide +kernel
theorem dL_law_1463 : decode cL_law 1463 = .ok (.iadd, 1) := by decide +kernel
theorem dL_law_1464 : decode cL_law 1464 = .ok (.iaload, 1) := by decide +kernel
theorem dL_law_1465 : decode cL_law 1465 = .ok (.invokevirtual 169, 3) := by decide +kernel
theorem dL_law_1468 : decode cL_law 1468 = .ok (.lcmp, 1) := by decide +kernel
theorem dL_law_1469 : decode cL_law 1469 = .ok (.ifCond .eq 167, 3) := by decide +kernel
theorem dL_law_1474 : decode cL_law 1474 = .ok (.aload_n 1, 1) := by decide +kernel
theorem dL_law_1475 : decode cL_law 1475 = .ok (.aload_n 0, 1) := by decide +kernel
theorem dL_law_1476 : decode cL_law 1476 = .ok (.iload_n 3, 1) := by decide +kernel
theorem dL_law_1477 : decode cL_law 1477 = .ok (.iconst 1, 1) := by decide +kernel
theorem dL_law_1478 : decode cL_law 1478 = .ok (.iadd, 1) := by decide +kernel
theorem dL_law_1479 : decode cL_law 1479 = .ok (.iaload, 1) := by decide +kernel
theorem dL_law_1480 : decode cL_law 1480 = .ok (.aload_n 0, 1) := by decide +kernel
theorem dL_law_1481 : decode cL_law 1481 = .ok (.iload_n 3, 1) := by decide +kernel
theorem dL_law_1482 : decode cL_law 1482 = .ok (.iconst 2, 1) := by decide +kernel
theorem dL_law_1483 : decode cL_law 1483 = .ok (.iadd, 1) := by decide +kernel
theorem dL_law_1484 : decode cL_law 1484 = .ok (.iaload, 1) := by decide +kernel
theorem dL_law_1485 : decode cL_law 1485 = .ok (.aload_n 0, 1) := by decide +kernel
theorem dL_law_1486 : decode cL_law 1486 = .ok (.iload_n 3, 1) := by decide +kernel
theorem dL_law_1487 : decode cL_law 1487 = .ok (.iconst 3, 1) := by decide +kernel
theorem dL_law_1488 : decode cL_law 1488 = .ok (.iadd, 1) := by decide +kernel
theorem dL_law_1489 : decode cL_law 1489 = .ok (.iaload, 1) := by decide +kernel
theorem dL_law_1490 : decode cL_law 1490 = .ok (.aload_n 0, 1) := by decide +kernel
theorem dL_law_1491 : decode cL_law 1491 = .ok (.iload_n 3, 1) := by decide +kernel
theorem dL_law_1492 : decode cL_law 1492 = .ok (.iconst 4, 1) := by decide +kernel
theorem dL_law_1493 : decode cL_law 1493 = .ok (.iadd, 1) := by decide +kernel
theorem dL_law_1494 : decode cL_law 1494 = .ok (.iaload, 1) := by decide +kernel
theorem dL_law_1495 : decode cL_law 1495 = .ok (.aload_n 0, 1) := by decide +kernel
theorem dL_law_1496 : decode cL_law 1496 = .ok (.iload_n 3, 1) := by decide +kernel
theorem dL_law_1497 : decode cL_law 1497 = .ok (.iconst 5, 1) := by decide +kernel
theorem dL_law_1498 : decode cL_law 1498 = .ok (.iadd, 1) := by decide +kernel
theorem dL_law_1499 : decode cL_law 1499 = .ok (.iaload, 1) := by decide +kernel
theorem dL_law_1500 : decode cL_law 1500 = .ok (.invokevirtual 170, 3) := by decide +kernel
theorem dL_law_1503 : decode cL_law 1503 = .ok (.aload_n 2, 1) := by decide +kernel
theorem dL_law_1504 : decode cL_law 1504 = .ok (.aload_n 0, 1) := by decide +kernel
theorem dL_law_1505 : decode cL_law 1505 = .ok (.iload_n 3, 1) := by decide +kernel
theorem dL_law_1506 : decode cL_law 1506 = .ok (.iconst 1, 1) := by decide +kernel
theorem dL_law_1507 : decode cL_law 1507 = .ok (.iadd, 1) := by decide +kernel
theorem dL_law_1508 : decode cL_law 1508 = .ok (.iaload, 1) := by decide +kernel
theorem dL_law_1509 : decode cL_law 1509 = .ok (.aload_n 0, 1) := by decide +kernel
theorem dL_law_1510 : decode cL_law 1510 = .ok (.iload_n 3, 1) := by decide +kernel
theorem dL_law_1511 : decode cL_law 1511 = .ok (.iconst 2, 1) := by decide +kernel
theorem dL_law_1512 : decode cL_law 1512 = .ok (.iadd, 1) := by decide +kernel
theorem dL_law_1513 : decode cL_law 1513 = .ok (.iaload, 1) := by decide +kernel
theorem dL_law_1514 : decode cL_law 1514 = .ok (.aload_n 0, 1) := by decide +kernel
theorem dL_law_1515 : decode cL_law 1515 = .ok (.iload_n 3, 1) := by decide +kernel
theorem dL_law_1516 : decode cL_law 1516 = .ok (.iconst 3, 1) := by decide +kernel
theorem dL_law_1517 : decode cL_law 1517 = .ok (.iadd, 1) := by decide +kernel
theorem dL_law_1518 : decode cL_law 1518 = .ok (.iaload, 1) := by decide +kernel
theorem dL_law_1519 : decode cL_law 1519 = .ok (.aload_n 0, 1) := by decide +kernel
theorem dL_law_1520 : decode cL_law 1520 = .ok (.iload_n 3, 1) := by decide +kernel
theorem dL_law_1521 : decode cL_law 1521 = .ok (.iconst 4, 1) := by decide +kernel
theorem dL_law_1522 : decode cL_law 1522 = .ok (.iadd, 1) := by decide +kernel
theorem dL_law_1523 : decode cL_law 1523 = .ok (.iaload, 1) := by decide +kernel
theorem dL_law_1524 : decode cL_law 1524 = .ok (.aload_n 0, 1) := by decide +kernel
theorem dL_law_1525 : decode cL_law 1525 = .ok (.iload_n 3, 1) := by decide +kernel
theorem dL_law_1526 : decode cL_law 1526 = .ok (.iconst 5, 1) := by decide +kernel
theorem dL_law_1527 : decode cL_law 1527 = .ok (.iadd, 1) := by decide +kernel
theorem dL_law_1528 : decode cL_law 1528 = .ok (.iaload, 1) := by decide +kernel
theorem dL_law_1529 : decode cL_law 1529 = .ok (.invokevirtual 174, 3) := by decide +kernel
theorem dL_law_1532 : decode cL_law 1532 = .ok (.if_icmp .eq 104, 3) := by decide +kernel
theorem dL_law_1537 : decode cL_law 1537 = .ok (.aload_n 1, 1) := by decide +kernel
theorem dL_law_1538 : decode cL_law 1538 = .ok (.aload_n 0, 1) := by decide +kernel
theorem dL_law_1539 : decode cL_law 1539 = .ok (.iload_n 3, 1) := by decide +kernel
theorem dL_law_1540 : decode cL_law 1540 = .ok (.iconst 1, 1) := by decide +kernel
theorem dL_law_1541 : decode cL_law 1541 = .ok (.iadd, 1) := by decide +kernel
theorem dL_law_1542 : decode cL_law 1542 = .ok (.iaload, 1) := by decide +kernel
theorem dL_law_1543 : decode cL_law 1543 = .ok (.aload_n 0, 1) := by decide +kernel
theorem dL_law_1544 : decode cL_law 1544 = .ok (.iload_n 3, 1) := by decide +kernel
theorem dL_law_1545 : decode cL_law 1545 = .ok (.iconst 2, 1) := by decide +kernel
theorem dL_law_1546 : decode cL_law 1546 = .ok (.iadd, 1) := by decide +kernel
theorem dL_law_1547 : decode cL_law 1547 = .ok (.iaload, 1) := by decide +kernel
theorem dL_law_1548 : decode cL_law 1548 = .ok (.invokevirtual 175, 3) := by decide +kernel
theorem dL_law_1551 : decode cL_law 1551 = .ok (.aload_n 2, 1) := by decide +kernel
theorem dL_law_1552 : decode cL_law 1552 = .ok (.aload_n 0, 1) := by decide +kernel
theorem dL_law_1553 : decode cL_law 1553 = .ok (.iload_n 3, 1) := by decide +kernel
theorem dL_law_1554 : decode cL_law 1554 = .ok (.iconst 1, 1) := by decide +kernel
theorem dL_law_1555 : decode cL_law 1555 = .ok (.iadd, 1) := by decide +kernel
theorem dL_law_1556 : decode cL_law 1556 = .ok (.iaload, 1) := by decide +kernel
theorem dL_law_1557 : decode cL_law 1557 = .ok (.aload_n 0, 1) := by decide +kernel
theorem dL_law_1558 : decode cL_law 1558 = .ok (.iload_n 3, 1) := by decide +kernel
theorem dL_law_1559 : decode cL_law 1559 = .ok (.iconst 2, 1) := by decide +kernel
theorem dL_law_1560 : decode cL_law 1560 = .ok (.iadd, 1) := by decide +kernel
theorem dL_law_1561 : decode cL_law 1561 = .ok (.iaload, 1) := by decide +kernel
theorem dL_law_1562 : decode cL_law 1562 = .ok (.invokevirtual 178, 3) := by decide +kernel
theorem dL_law_1565 : decode cL_law 1565 = .ok (.if_icmp .eq 71, 3) := by decide +kernel
theorem dL_law_1570 : decode cL_law 1570 = .ok (.aload_n 1, 1) := by decide +kernel
theorem dL_law_1571 : decode cL_law 1571 = .ok (.aload_n 0, 1) := by decide +kernel
theorem dL_law_1572 : decode cL_law 1572 = .ok (.iload_n 3, 1) := by decide +kernel
theorem dL_law_1573 : decode cL_law 1573 = .ok (.iconst 1, 1) := by decide +kernel
theorem dL_law_1574 : decode cL_law 1574 = .ok (.iadd, 1) := by decide +kernel
theorem dL_law_1575 : decode cL_law 1575 = .ok (.iaload, 1) := by decide +kernel
theorem dL_law_1576 : decode cL_law 1576 = .ok (.aload_n 0, 1) := by decide +kernel
theorem dL_law_1577 : decode cL_law 1577 = .ok (.iload_n 3, 1) := by decide +kernel
theorem dL_law_1578 : decode cL_law 1578 = .ok (.iconst 2, 1) := by decide +kernel
theorem dL_law_1579 : decode cL_law 1579 = .ok (.iadd, 1) := by decide +kernel
theorem dL_law_1580 : decode cL_law 1580 = .ok (.iaload, 1) := by decide +kernel
theorem dL_law_1581 : decode cL_law 1581 = .ok (.aload_n 0, 1) := by decide +kernel
theorem dL_law_1582 : decode cL_law 1582 = .ok (.iload_n 3, 1) := by decide +kernel
theorem dL_law_1583 : decode cL_law 1583 = .ok (.iconst 3, 1) := by decide +kernel
theorem dL_law_1584 : decode cL_law 1584 = .ok (.iadd, 1) := by decide +kernel
theorem dL_law_1585 : decode cL_law 1585 = .ok (.iaload, 1) := by decide +kernel
theorem dL_law_1586 : decode cL_law 1586 = .ok (.invokevirtual 179, 3) := by decide +kernel
theorem dL_law_1589 : decode cL_law 1589 = .ok (.aload_n 2, 1) := by decide +kernel
theorem dL_law_1590 : decode cL_law 1590 = .ok (.aload_n 0, 1) := by decide +kernel
theorem dL_law_1591 : decode cL_law 1591 = .ok (.iload_n 3, 1) := by decide +kernel
theorem dL_law_1592 : decode cL_law 1592 = .ok (.iconst 1, 1) := by decide +kernel
theorem dL_law_1593 : decode cL_law 1593 = .ok (.iadd, 1) := by decide +kernel
theorem dL_law_1594 : decode cL_law 1594 = .ok (.iaload, 1) := by decide +kernel
theorem dL_law_1595 : decode cL_law 1595 = .ok (.aload_n 0, 1) := by decide +kernel
theorem dL_law_1596 : decode cL_law 1596 = .ok (.iload_n 3, 1) := by decide +kernel
theorem dL_law_1597 : decode cL_law 1597 = .ok (.iconst 2, 1) := by decide +kernel
theorem dL_law_1598 : decode cL_law 1598 = .ok (.iadd, 1) := by decide +kernel
theorem dL_law_1599 : decode cL_law 1599 = .ok (.iaload, 1) := by decide +kernel
theorem dL_law_1600 : decode cL_law 1600 = .ok (.aload_n 0, 1) := by decide +kernel
theorem dL_law_1601 : decode cL_law 1601 = .ok (.iload_n 3, 1) := by decide +kernel
theorem dL_law_1602 : decode cL_law 1602 = .ok (.iconst 3, 1) := by decide +kernel
theorem dL_law_1603 : decode cL_law 1603 = .ok (.iadd, 1) := by decide +kernel
theorem dL_law_1604 : decode cL_law 1604 = .ok (.iaload, 1) := by decide +kernel
theorem dL_law_1605 : decode cL_law 1605 = .ok (.invokevirtual 182, 3) := by decide +kernel
theorem dL_law_1608 : decode cL_law 1608 = .ok (.if_icmp .eq 28, 3) := by decide +kernel
theorem dL_law_1613 : decode cL_law 1613 = .ok (.aload_n 1, 1) := by decide +kernel
theorem dL_law_1614 : decode cL_law 1614 = .ok (.aload_n 0, 1) := by decide +kernel
theorem dL_law_1615 : decode cL_law 1615 = .ok (.iload_n 3, 1) := by decide +kernel
theorem dL_law_1616 : decode cL_law 1616 = .ok (.iconst 1, 1) := by decide +kernel
theorem dL_law_1617 : decode cL_law 1617 = .ok (.iadd, 1) := by decide +kernel
theorem dL_law_1618 : decode cL_law 1618 = .ok (.iaload, 1) := by decide +kernel
theorem dL_law_1619 : decode cL_law 1619 = .ok (.invokevirtual 183, 3) := by decide +kernel
theorem dL_law_1622 : decode cL_law 1622 = .ok (.aload_n 2, 1) := by decide +kernel
theorem dL_law_1623 : decode cL_law 1623 = .ok (.aload_n 0, 1) := by decide +kernel
theorem dL_law_1624 : decode cL_law 1624 = .ok (.iload_n 3, 1) := by decide +kernel
theorem dL_law_1625 : decode cL_law 1625 = .ok (.iconst 1, 1) := by decide +kernel
theorem dL_law_1626 : decode cL_law 1626 = .ok (.iadd, 1) := by decide +kernel
theorem dL_law_1627 : decode cL_law 1627 = .ok (.iaload, 1) := by decide +kernel
theorem dL_law_1628 : decode cL_law 1628 = .ok (.invokevirtual 186, 3) := by decide +kernel
theorem dL_law_1631 : decode cL_law 1631 = .ok (.if_icmp .eq 5, 3) := by decide +kernel
theorem dL_law_1636 : decode cL_law 1636 = .ok (.iinc 3 6, 3) := by decide +kernel
theorem dL_law_1639 : decode cL_law 1639 = .ok (.goto (-1621), 3) := by decide +kernel
theorem dL_law_1642 : decode cL_law 1642 = .ok (.iconst 1, 1) := by decide +kernel
theorem dL_law_1643 : decode cL_law 1643 = .ok (.ireturn, 1) := by decide +kernel
abbrev vwCl : List vw_C := [(RX0, TX0, 5), (RX1, TX1, 9), (RX2, TX2, 6), (RX3, TX3, 8), (RX4, TX4, 4), (RX5, TX5, 10), (RX6, TX6, 12), (RX7, TX7, 4), (RX8, TX8, 13), (RX9, TX9, 2), (RX10, TX10, 5), (RX11, TX11, 13), (RX12, TX12, 59)]

