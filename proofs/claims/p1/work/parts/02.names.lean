def RX0 : String := "SeatsRound$Acts"
def TX0 : u_T := fun k => match k with
  | 0 => ("SeatsRound$Acts", "bodies", "[I", true)
  | 1 => ("SeatsRound$Acts", "ran", "I", false)
  | 2 => ("SeatsRound$Acts", "own", "I", false)
  | 3 => ("SeatsRound$Acts", "number", "I", false)
  | _ => ("SeatsRound$Acts", "strength", "I", false)
def tyX0 : Nat → FieldType := fun k => match k with
  | 0 => .array .int
  | 1 => .int
  | 2 => .int
  | 3 => .int
  | _ => .int
def yX0_init : MethodName := ⟨RX0, "<init>", "()V"⟩
def RX1 : String := "SeatsRound$Choice"
def TX1 : u_T := fun k => match k with
  | 0 => ("SeatsRound$Choice", "picks", "[I", true)
  | 1 => ("SeatsRound$Choice", "chosen", "[I", true)
  | 2 => ("SeatsRound$Choice", "pickCount", "I", false)
  | 3 => ("SeatsRound$Choice", "chosenCount", "I", false)
  | 4 => ("SeatsRound$Choice", "chosenBits", "I", false)
  | 5 => ("SeatsRound$Choice", "streetBits", "I", false)
  | 6 => ("SeatsRound$Choice", "pickBits", "I", false)
  | 7 => ("SeatsRound$Choice", "sums", "[I", true)
  | _ => ("SeatsRound$Choice", "keepers", "LSeatsRound$Keepers;", true)
def tyX1 : Nat → FieldType := fun k => match k with
  | 0 => .array .int
  | 1 => .array .int
  | 2 => .int
  | 3 => .int
  | 4 => .int
  | 5 => .int
  | 6 => .int
  | 7 => .array .int
  | _ => .object "SeatsRound$Keepers"
def RX2 : String := "SeatsRound$Keepers"
def TX2 : u_T := fun k => match k with
  | 0 => ("SeatsRound$Keepers", "kind", "[I", true)
  | 1 => ("SeatsRound$Keepers", "street", "[I", true)
  | 2 => ("SeatsRound$Keepers", "strength", "[I", true)
  | 3 => ("SeatsRound$Keepers", "table", "[I", true)
  | 4 => ("SeatsRound$Keepers", "fallen", "[Z", true)
  | _ => ("SeatsRound$Keepers", "count", "I", false)
def tyX2 : Nat → FieldType := fun k => match k with
  | 0 => .array .int
  | 1 => .array .int
  | 2 => .array .int
  | 3 => .array .int
  | 4 => .array .boolean
  | _ => .int
def yX2_init : MethodName := ⟨RX2, "<init>", "()V"⟩
def RX3 : String := "SeatsRound$Law"
def TX3 : u_T := fun k => match k with
  | 0 => ("SeatsRound$Law", "text", "[B", false)
  | 1 => ("SeatsRound$Law", "length", "I", false)
  | 2 => ("SeatsRound$Law", "at", "I", false)
  | 3 => ("SeatsRound$Law", "fault", "I", false)
  | 4 => ("SeatsRound$Law", "members", "I", false)
  | 5 => ("SeatsRound$Law", "streetsIn", "I", false)
  | 6 => ("SeatsRound$Law", "weights", "I", false)
  | _ => ("SeatsRound$Law", "greatest", "I", false)
def tyX3 : Nat → FieldType := fun k => match k with
  | 0 => .array .byte
  | 1 => .int
  | 2 => .int
  | 3 => .int
  | 4 => .int
  | 5 => .int
  | 6 => .int
  | _ => .int
def yX3_init : MethodName := ⟨RX3, "<init>", "()V"⟩
def RX4 : String := "SeatsRound$NameList"
def TX4 : u_T := fun k => match k with
  | 0 => ("SeatsRound$NameList", "bytes", "[[B", true)
  | 1 => ("SeatsRound$NameList", "size", "[I", true)
  | 2 => ("SeatsRound$NameList", "read", "[B", true)
  | _ => ("SeatsRound$NameList", "count", "I", false)
def tyX4 : Nat → FieldType := fun k => match k with
  | 0 => .array (.array .byte)
  | 1 => .array .int
  | 2 => .array .byte
  | _ => .int
def yX4_init : MethodName := ⟨RX4, "<init>", "()V"⟩
def RX5 : String := "SeatsRound$Orders"
def TX5 : u_T := fun k => match k with
  | 0 => ("SeatsRound$Orders", "told", "[I", true)
  | 1 => ("SeatsRound$Orders", "toldCount", "I", false)
  | 2 => ("SeatsRound$Orders", "path", "[I", true)
  | 3 => ("SeatsRound$Orders", "pathLength", "I", false)
  | 4 => ("SeatsRound$Orders", "holders", "[[I", true)
  | 5 => ("SeatsRound$Orders", "least", "[I", true)
  | 6 => ("SeatsRound$Orders", "keepers", "LSeatsRound$Keepers;", true)
  | 7 => ("SeatsRound$Orders", "nameList", "LSeatsRound$NameList;", true)
  | 8 => ("SeatsRound$Orders", "choice", "LSeatsRound$Choice;", true)
  | _ => ("SeatsRound$Orders", "law", "LSeatsRound$Law;", true)
def tyX5 : Nat → FieldType := fun k => match k with
  | 0 => .array .int
  | 1 => .int
  | 2 => .array .int
  | 3 => .int
  | 4 => .array (.array .int)
  | 5 => .array .int
  | 6 => .object "SeatsRound$Keepers"
  | 7 => .object "SeatsRound$NameList"
  | 8 => .object "SeatsRound$Choice"
  | _ => .object "SeatsRound$Law"
def RX6 : String := "SeatsRound$Parcels"
def TX6 : u_T := fun k => match k with
  | 0 => ("SeatsRound$Parcels", "version", "[[I", true)
  | 1 => ("SeatsRound$Parcels", "kept", "[[I", true)
  | 2 => ("SeatsRound$Parcels", "keptFor", "[[I", true)
  | 3 => ("SeatsRound$Parcels", "pieces", "[[I", true)
  | 4 => ("SeatsRound$Parcels", "pieceTo", "[[I", true)
  | 5 => ("SeatsRound$Parcels", "latest", "[I", true)
  | 6 => ("SeatsRound$Parcels", "oneTree", "[I", true)
  | 7 => ("SeatsRound$Parcels", "otherTree", "[I", true)
  | 8 => ("SeatsRound$Parcels", "writings", "I", false)
  | 9 => ("SeatsRound$Parcels", "keepers", "LSeatsRound$Keepers;", true)
  | 10 => ("SeatsRound$Parcels", "nameList", "LSeatsRound$NameList;", true)
  | _ => ("SeatsRound$Parcels", "choice", "LSeatsRound$Choice;", true)
def tyX6 : Nat → FieldType := fun k => match k with
  | 0 => .array (.array .int)
  | 1 => .array (.array .int)
  | 2 => .array (.array .int)
  | 3 => .array (.array .int)
  | 4 => .array (.array .int)
  | 5 => .array .int
  | 6 => .array .int
  | 7 => .array .int
  | 8 => .int
  | 9 => .object "SeatsRound$Keepers"
  | 10 => .object "SeatsRound$NameList"
  | _ => .object "SeatsRound$Choice"
def RX7 : String := "SeatsRound$Rows"
def TX7 : u_T := fun k => match k with
  | 0 => ("SeatsRound$Rows", "keeper", "[I", true)
  | 1 => ("SeatsRound$Rows", "sort", "[I", true)
  | 2 => ("SeatsRound$Rows", "length", "[I", true)
  | _ => ("SeatsRound$Rows", "elements", "[[J", true)
def tyX7 : Nat → FieldType := fun k => match k with
  | 0 => .array .int
  | 1 => .array .int
  | 2 => .array .int
  | _ => .array (.array .long)
def RX8 : String := "SeatsRound$Table"
def TX8 : u_T := fun k => match k with
  | 0 => ("SeatsRound$Table", "members", "I", false)
  | 1 => ("SeatsRound$Table", "turn", "I", false)
  | 2 => ("SeatsRound$Table", "copies", "I", false)
  | 3 => ("SeatsRound$Table", "streets", "I", false)
  | 4 => ("SeatsRound$Table", "way", "I", false)
  | 5 => ("SeatsRound$Table", "seats", "I", false)
  | 6 => ("SeatsRound$Table", "lawLength", "I", false)
  | 7 => ("SeatsRound$Table", "oddsCounted", "Z", false)
  | 8 => ("SeatsRound$Table", "weight", "[I", true)
  | 9 => ("SeatsRound$Table", "odds", "[I", true)
  | 10 => ("SeatsRound$Table", "law", "[B", true)
  | 11 => ("SeatsRound$Table", "owner", "[B", true)
  | _ => ("SeatsRound$Table", "ahead", "[S", true)
def tyX8 : Nat → FieldType := fun k => match k with
  | 0 => .int
  | 1 => .int
  | 2 => .int
  | 3 => .int
  | 4 => .int
  | 5 => .int
  | 6 => .int
  | 7 => .boolean
  | 8 => .array .int
  | 9 => .array .int
  | 10 => .array .byte
  | 11 => .array .byte
  | _ => .array .short
def yX8_init : MethodName := ⟨RX8, "<init>", "()V"⟩
def RX9 : String := "SeatsRound$Tape"
def TX9 : u_T := fun k => match k with
  | 0 => ("SeatsRound$Tape", "bytes", "[B", true)
  | _ => ("SeatsRound$Tape", "length", "I", false)
def tyX9 : Nat → FieldType := fun k => match k with
  | 0 => .array .byte
  | _ => .int
abbrev wsX90 : List Cond := u_ws RX9 TX9 2
theorem nmX9 : ∀ a, a < 2 → ∀ b, b < 2 → a ≠ b → (TX9 a).2.1 ≠ (TX9 b).2.1 := by decide +kernel
theorem tyX9_ok : ∀ k, k < 2 → parseFieldDescriptor (TX9 k).2.2.1 = some (tyX9 k) := by decide +kernel
abbrev cX9_init : ByteArray := prog_11_method_1_code
def yX9_init : MethodName := ⟨RX9, "<init>", "()V"⟩
def RX10 : String := "SeatsRound$Turnings"
def TX10 : u_T := fun k => match k with
  | 0 => ("SeatsRound$Turnings", "told", "[I", true)
  | 1 => ("SeatsRound$Turnings", "count", "I", false)
  | 2 => ("SeatsRound$Turnings", "greatest", "I", false)
  | 3 => ("SeatsRound$Turnings", "shares", "[I", true)
  | _ => ("SeatsRound$Turnings", "nameList", "LSeatsRound$NameList;", true)
def tyX10 : Nat → FieldType := fun k => match k with
  | 0 => .array .int
  | 1 => .int
  | 2 => .int
  | 3 => .array .int
  | _ => .object "SeatsRound$NameList"
def RX11 : String := "SeatsRound"
def TX11 : u_T := fun k => match k with
  | 0 => ("SeatsRound", "tape", "LSeatsRound$Tape;", true)
  | 1 => ("SeatsRound", "nameList", "LSeatsRound$NameList;", true)
  | 2 => ("SeatsRound", "keepers", "LSeatsRound$Keepers;", true)
  | 3 => ("SeatsRound", "law", "LSeatsRound$Law;", true)
  | 4 => ("SeatsRound", "choice", "LSeatsRound$Choice;", true)
  | 5 => ("SeatsRound", "tables", "[LSeatsRound$Table;", true)
  | 6 => ("SeatsRound", "tableCount", "I", false)
  | 7 => ("SeatsRound", "draft", "LSeatsRound$Table;", true)
  | 8 => ("SeatsRound", "parcels", "LSeatsRound$Parcels;", true)
  | 9 => ("SeatsRound", "orders", "LSeatsRound$Orders;", true)
  | 10 => ("SeatsRound", "turnings", "LSeatsRound$Turnings;", true)
  | 11 => ("SeatsRound", "acts", "LSeatsRound$Acts;", true)
  | _ => ("SeatsRound", "rows", "LSeatsRound$Rows;", true)
def tyX11 : Nat → FieldType := fun k => match k with
  | 0 => .object "SeatsRound$Tape"
  | 1 => .object "SeatsRound$NameList"
  | 2 => .object "SeatsRound$Keepers"
  | 3 => .object "SeatsRound$Law"
  | 4 => .object "SeatsRound$Choice"
  | 5 => .array (.object "SeatsRound$Table")
  | 6 => .int
  | 7 => .object "SeatsRound$Table"
  | 8 => .object "SeatsRound$Parcels"
  | 9 => .object "SeatsRound$Orders"
  | 10 => .object "SeatsRound$Turnings"
  | 11 => .object "SeatsRound$Acts"
  | _ => .object "SeatsRound$Rows"
def yX11_strewn : MethodName := ⟨RX11, "strewn", "(I)I"⟩
def yX11_placeBehind : MethodName := ⟨RX11, "placeBehind", "(I)I"⟩
def RX12 : String := "SeatsRoundModel"
def TX12 : u_T := fun k => match k with
  | 0 => ("SeatsRoundModel", "names", "I", false)
  | 1 => ("SeatsRoundModel", "nameSize", "[I", true)
  | 2 => ("SeatsRoundModel", "nameByte", "[I", true)
  | 3 => ("SeatsRoundModel", "keepers", "I", false)
  | 4 => ("SeatsRoundModel", "street", "[I", true)
  | 5 => ("SeatsRoundModel", "strength", "[I", true)
  | 6 => ("SeatsRoundModel", "kind", "[I", true)
  | 7 => ("SeatsRoundModel", "known", "[I", true)
  | 8 => ("SeatsRoundModel", "isFallen", "[Z", true)
  | 9 => ("SeatsRoundModel", "tables", "I", false)
  | 10 => ("SeatsRoundModel", "tableOf", "[I", true)
  | 11 => ("SeatsRoundModel", "tableZ", "[I", true)
  | 12 => ("SeatsRoundModel", "copies", "[I", true)
  | 13 => ("SeatsRoundModel", "streets", "[I", true)
  | 14 => ("SeatsRoundModel", "picks", "[I", true)
  | 15 => ("SeatsRoundModel", "lawSize", "[I", true)
  | 16 => ("SeatsRoundModel", "lawByte", "[I", true)
  | 17 => ("SeatsRoundModel", "counts", "[I", true)
  | 18 => ("SeatsRoundModel", "streetIn", "[I", true)
  | 19 => ("SeatsRoundModel", "seatMany", "[I", true)
  | 20 => ("SeatsRoundModel", "seats", "[I", true)
  | 21 => ("SeatsRoundModel", "tape", "[I", true)
  | 22 => ("SeatsRoundModel", "taped", "I", false)
  | 23 => ("SeatsRoundModel", "version", "[I", true)
  | 24 => ("SeatsRoundModel", "kept", "[I", true)
  | 25 => ("SeatsRoundModel", "keptFor", "[I", true)
  | 26 => ("SeatsRoundModel", "pieces", "[I", true)
  | 27 => ("SeatsRoundModel", "piecesTo", "[I", true)
  | 28 => ("SeatsRoundModel", "written", "[I", true)
  | 29 => ("SeatsRoundModel", "writings", "I", false)
  | 30 => ("SeatsRoundModel", "comers", "I", false)
  | 31 => ("SeatsRoundModel", "comer", "[I", true)
  | 32 => ("SeatsRoundModel", "orderMany", "I", false)
  | 33 => ("SeatsRoundModel", "orderTold", "[I", true)
  | 34 => ("SeatsRoundModel", "turnings", "I", false)
  | 35 => ("SeatsRoundModel", "turning", "[I", true)
  | 36 => ("SeatsRoundModel", "harmShare", "I", false)
  | 37 => ("SeatsRoundModel", "trace", "[I", true)
  | 38 => ("SeatsRoundModel", "bodies", "I", false)
  | 39 => ("SeatsRoundModel", "shelfIs", "[I", true)
  | 40 => ("SeatsRoundModel", "shelfSort", "[I", true)
  | 41 => ("SeatsRoundModel", "shelfSize", "[I", true)
  | 42 => ("SeatsRoundModel", "elements", "[J", true)
  | 43 => ("SeatsRoundModel", "told", "[I", true)
  | 44 => ("SeatsRoundModel", "lawTable", "I", false)
  | 45 => ("SeatsRoundModel", "at", "I", false)
  | 46 => ("SeatsRoundModel", "opens", "I", false)
  | 47 => ("SeatsRoundModel", "isFaulty", "Z", false)
  | 48 => ("SeatsRoundModel", "nowN", "I", false)
  | 49 => ("SeatsRoundModel", "nowU", "I", false)
  | 50 => ("SeatsRoundModel", "nowT", "I", false)
  | 51 => ("SeatsRoundModel", "nowX", "I", false)
  | 52 => ("SeatsRoundModel", "picked", "[I", true)
  | 53 => ("SeatsRoundModel", "pickedMany", "I", false)
  | 54 => ("SeatsRoundModel", "chosen", "[I", true)
  | 55 => ("SeatsRoundModel", "chosenMany", "I", false)
  | 56 => ("SeatsRoundModel", "odds", "[I", true)
  | 57 => ("SeatsRoundModel", "keepsBy", "[I", true)
  | _ => ("SeatsRoundModel", "tried", "[I", true)
def tyX12 : Nat → FieldType := fun k => match k with
  | 0 => .int
  | 1 => .array .int
  | 2 => .array .int
  | 3 => .int
  | 4 => .array .int
  | 5 => .array .int
  | 6 => .array .int
  | 7 => .array .int
  | 8 => .array .boolean
  | 9 => .int
  | 10 => .array .int
  | 11 => .array .int
  | 12 => .array .int
  | 13 => .array .int
  | 14 => .array .int
  | 15 => .array .int
  | 16 => .array .int
  | 17 => .array .int
  | 18 => .array .int
  | 19 => .array .int
  | 20 => .array .int
  | 21 => .array .int
  | 22 => .int
  | 23 => .array .int
  | 24 => .array .int
  | 25 => .array .int
  | 26 => .array .int
  | 27 => .array .int
  | 28 => .array .int
  | 29 => .int
  | 30 => .int
  | 31 => .array .int
  | 32 => .int
  | 33 => .array .int
  | 34 => .int
  | 35 => .array .int
  | 36 => .int
  | 37 => .array .int
  | 38 => .int
  | 39 => .array .int
  | 40 => .array .int
  | 41 => .array .int
  | 42 => .array .long
  | 43 => .array .int
  | 44 => .int
  | 45 => .int
  | 46 => .int
  | 47 => .boolean
  | 48 => .int
  | 49 => .int
  | 50 => .int
  | 51 => .int
  | 52 => .array .int
  | 53 => .int
  | 54 => .array .int
  | 55 => .int
  | 56 => .array .int
  | 57 => .array .int
  | _ => .array .int
def wsX9_init : List Cond := .code yX9_init cX9_init 1 none :: ([.methodLink RX9 3 objectInit, .instanceMethod objectInit, .code objectInit ⟨#[0xb1]⟩ 1 none, .arrayClass .byte, .fieldLink RX9 9 "SeatsRound$Tape" "bytes" "[B", .fieldLink RX9 15 "SeatsRound$Tape" "length" "I"] ++ wsX90)
theorem dX9_init_0 : decode cX9_init 0 = .ok (.aload_n 0, 1) := by decide +kernel
theorem dX9_init_1 : decode cX9_init 1 = .ok (.invokespecial 3, 3) := by decide +kernel
theorem dX9_init_4 : decode cX9_init 4 = .ok (.aload_n 0, 1) := by decide +kernel
theorem dX9_init_5 : decode cX9_init 5 = .ok (.bipush 80, 2) := by decide +kernel
theorem dX9_init_7 : decode cX9_init 7 = .ok (.newarray .byte, 2) := by decide +kernel
theorem dX9_init_9 : decode cX9_init 9 = .ok (.putfield 9, 3) := by decide +kernel
theorem dX9_init_12 : decode cX9_init 12 = .ok (.aload_n 0, 1) := by decide +kernel
theorem dX9_init_13 : decode cX9_init 13 = .ok (.iconst 0, 1) := by decide +kernel
theorem dX9_init_14 : decode cX9_init 14 = .ok (.putfield 15, 3) := by decide +kernel
theorem dX9_init_17 : decode cX9_init 17 = .ok (.return_, 1) := by decide +kernel
abbrev vwCl : List vw_C := [(RX0, TX0, 5), (RX1, TX1, 9), (RX2, TX2, 6), (RX3, TX3, 8), (RX4, TX4, 4), (RX5, TX5, 10), (RX6, TX6, 12), (RX7, TX7, 4), (RX8, TX8, 13), (RX9, TX9, 2), (RX10, TX10, 5), (RX11, TX11, 13), (RX12, TX12, 59)]

