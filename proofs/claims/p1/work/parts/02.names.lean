def RX0 : String := "ReceiptLeft$Acts"
def TX0 : u_T := fun k => match k with
  | 0 => ("ReceiptLeft$Acts", "count", "I", false)
  | _ => ("ReceiptLeft$Acts", "told", "[I", true)
def tyX0 : Nat → FieldType := fun k => match k with
  | 0 => .int
  | _ => .array .int
theorem nmX0 : ∀ a, a < 2 → ∀ b, b < 2 → a ≠ b → (TX0 a).2.1 ≠ (TX0 b).2.1 := by decide +kernel
theorem tyX0_ok : ∀ k, k < 2 → parseFieldDescriptor (TX0 k).2.2.1 = some (tyX0 k) := by decide +kernel
theorem ziX0 : ∀ w ∈ u_ws RX0 TX0 2, w ∈ zT := fun w h => zT_in ((by decide +kernel : ∀ w ∈ u_ws RX0 TX0 2, w ∈ lw_tbl) w h) ((by decide +kernel : ∀ w ∈ u_ws RX0 TX0 2, goodWord w = true) w h)
def RX1 : String := "ReceiptLeft$Audit"
def TX1 : u_T := fun k => match k with
  | 0 => ("ReceiptLeft$Audit", "wrong", "I", false)
  | 1 => ("ReceiptLeft$Audit", "first", "I", false)
  | _ => ("ReceiptLeft$Audit", "argued", "I", false)
def tyX1 : Nat → FieldType := fun k => match k with
  | 0 => .int
  | 1 => .int
  | _ => .int
theorem nmX1 : ∀ a, a < 3 → ∀ b, b < 3 → a ≠ b → (TX1 a).2.1 ≠ (TX1 b).2.1 := by decide +kernel
theorem tyX1_ok : ∀ k, k < 3 → parseFieldDescriptor (TX1 k).2.2.1 = some (tyX1 k) := by decide +kernel
theorem ziX1 : ∀ w ∈ u_ws RX1 TX1 3, w ∈ zT := fun w h => zT_in ((by decide +kernel : ∀ w ∈ u_ws RX1 TX1 3, w ∈ lw_tbl) w h) ((by decide +kernel : ∀ w ∈ u_ws RX1 TX1 3, goodWord w = true) w h)
def RX2 : String := "ReceiptLeft$City"
def TX2 : u_T := fun k => match k with
  | 0 => ("ReceiptLeft$City", "lines", "I", false)
  | 1 => ("ReceiptLeft$City", "eats", "I", false)
  | 2 => ("ReceiptLeft$City", "carry", "I", false)
  | 3 => ("ReceiptLeft$City", "odds", "I", false)
  | 4 => ("ReceiptLeft$City", "houses", "I", false)
  | 5 => ("ReceiptLeft$City", "things", "I", false)
  | 6 => ("ReceiptLeft$City", "locked", "I", false)
  | 7 => ("ReceiptLeft$City", "purse", "[I", true)
  | 8 => ("ReceiptLeft$City", "at", "[I", true)
  | 9 => ("ReceiptLeft$City", "worth", "[I", true)
  | _ => ("ReceiptLeft$City", "more", "[I", true)
def tyX2 : Nat → FieldType := fun k => match k with
  | 0 => .int
  | 1 => .int
  | 2 => .int
  | 3 => .int
  | 4 => .int
  | 5 => .int
  | 6 => .int
  | 7 => .array .int
  | 8 => .array .int
  | 9 => .array .int
  | _ => .array .int
theorem nmX2 : ∀ a, a < 11 → ∀ b, b < 11 → a ≠ b → (TX2 a).2.1 ≠ (TX2 b).2.1 := by decide +kernel
theorem tyX2_ok : ∀ k, k < 11 → parseFieldDescriptor (TX2 k).2.2.1 = some (tyX2 k) := by decide +kernel
theorem ziX2 : ∀ w ∈ u_ws RX2 TX2 11, w ∈ zT := fun w h => zT_in ((by decide +kernel : ∀ w ∈ u_ws RX2 TX2 11, w ∈ lw_tbl) w h) ((by decide +kernel : ∀ w ∈ u_ws RX2 TX2 11, goodWord w = true) w h)
def RX3 : String := "ReceiptLeft$Deal"
def TX3 : u_T := fun k => match k with
  | _ => ("ReceiptLeft$Deal", "best", "[I", true)
def tyX3 : Nat → FieldType := fun k => match k with
  | _ => .array .int
theorem nmX3 : ∀ a, a < 1 → ∀ b, b < 1 → a ≠ b → (TX3 a).2.1 ≠ (TX3 b).2.1 := by decide +kernel
theorem tyX3_ok : ∀ k, k < 1 → parseFieldDescriptor (TX3 k).2.2.1 = some (tyX3 k) := by decide +kernel
theorem ziX3 : ∀ w ∈ u_ws RX3 TX3 1, w ∈ zT := fun w h => zT_in ((by decide +kernel : ∀ w ∈ u_ws RX3 TX3 1, w ∈ lw_tbl) w h) ((by decide +kernel : ∀ w ∈ u_ws RX3 TX3 1, goodWord w = true) w h)
def RX4 : String := "ReceiptLeft$Dice"
def TX4 : u_T := fun k => match k with
  | _ => ("ReceiptLeft$Dice", "x", "J", false)
def tyX4 : Nat → FieldType := fun k => match k with
  | _ => .long
theorem nmX4 : ∀ a, a < 1 → ∀ b, b < 1 → a ≠ b → (TX4 a).2.1 ≠ (TX4 b).2.1 := by decide +kernel
theorem tyX4_ok : ∀ k, k < 1 → parseFieldDescriptor (TX4 k).2.2.1 = some (tyX4 k) := by decide +kernel
theorem ziX4 : ∀ w ∈ u_ws RX4 TX4 1, w ∈ zT := fun w h => zT_in ((by decide +kernel : ∀ w ∈ u_ws RX4 TX4 1, w ∈ lw_tbl) w h) ((by decide +kernel : ∀ w ∈ u_ws RX4 TX4 1, goodWord w = true) w h)
def RX5 : String := "ReceiptLeft$Image"
def TX5 : u_T := fun k => match k with
  | 0 => ("ReceiptLeft$Image", "kept", "Z", false)
  | 1 => ("ReceiptLeft$Image", "city", "LReceiptLeft$City;", true)
  | _ => ("ReceiptLeft$Image", "acts", "LReceiptLeft$Acts;", true)
def tyX5 : Nat → FieldType := fun k => match k with
  | 0 => .boolean
  | 1 => .object "ReceiptLeft$City"
  | _ => .object "ReceiptLeft$Acts"
theorem nmX5 : ∀ a, a < 3 → ∀ b, b < 3 → a ≠ b → (TX5 a).2.1 ≠ (TX5 b).2.1 := by decide +kernel
theorem tyX5_ok : ∀ k, k < 3 → parseFieldDescriptor (TX5 k).2.2.1 = some (tyX5 k) := by decide +kernel
theorem ziX5 : ∀ w ∈ u_ws RX5 TX5 3, w ∈ zT := fun w h => zT_in ((by decide +kernel : ∀ w ∈ u_ws RX5 TX5 3, w ∈ lw_tbl) w h) ((by decide +kernel : ∀ w ∈ u_ws RX5 TX5 3, goodWord w = true) w h)
def RX6 : String := "ReceiptLeft$Row"
def TX6 : u_T := fun k => match k with
  | 0 => ("ReceiptLeft$Row", "width", "I", false)
  | 1 => ("ReceiptLeft$Row", "length", "I", false)
  | _ => ("ReceiptLeft$Row", "numbers", "[J", true)
def tyX6 : Nat → FieldType := fun k => match k with
  | 0 => .int
  | 1 => .int
  | _ => .array .long
theorem nmX6 : ∀ a, a < 3 → ∀ b, b < 3 → a ≠ b → (TX6 a).2.1 ≠ (TX6 b).2.1 := by decide +kernel
theorem tyX6_ok : ∀ k, k < 3 → parseFieldDescriptor (TX6 k).2.2.1 = some (tyX6 k) := by decide +kernel
theorem ziX6 : ∀ w ∈ u_ws RX6 TX6 3, w ∈ zT := fun w h => zT_in ((by decide +kernel : ∀ w ∈ u_ws RX6 TX6 3, w ∈ lw_tbl) w h) ((by decide +kernel : ∀ w ∈ u_ws RX6 TX6 3, goodWord w = true) w h)
def RX7 : String := "ReceiptLeft$Tape"
def TX7 : u_T := fun k => match k with
  | 0 => ("ReceiptLeft$Tape", "bytes", "[B", true)
  | 1 => ("ReceiptLeft$Tape", "length", "I", false)
  | 2 => ("ReceiptLeft$Tape", "faultKind", "I", false)
  | 3 => ("ReceiptLeft$Tape", "faultPlace", "I", false)
  | 4 => ("ReceiptLeft$Tape", "token", "I", false)
  | 5 => ("ReceiptLeft$Tape", "start", "I", false)
  | _ => ("ReceiptLeft$Tape", "behind", "I", false)
def tyX7 : Nat → FieldType := fun k => match k with
  | 0 => .array .byte
  | 1 => .int
  | 2 => .int
  | 3 => .int
  | 4 => .int
  | 5 => .int
  | _ => .int
theorem nmX7 : ∀ a, a < 7 → ∀ b, b < 7 → a ≠ b → (TX7 a).2.1 ≠ (TX7 b).2.1 := by decide +kernel
theorem tyX7_ok : ∀ k, k < 7 → parseFieldDescriptor (TX7 k).2.2.1 = some (tyX7 k) := by decide +kernel
theorem ziX7 : ∀ w ∈ u_ws RX7 TX7 7, w ∈ zT := fun w h => zT_in ((by decide +kernel : ∀ w ∈ u_ws RX7 TX7 7, w ∈ lw_tbl) w h) ((by decide +kernel : ∀ w ∈ u_ws RX7 TX7 7, goodWord w = true) w h)
def RX8 : String := "ReceiptLeft$Titles"
def TX8 : u_T := fun k => match k with
  | 0 => ("ReceiptLeft$Titles", "length", "I", false)
  | 1 => ("ReceiptLeft$Titles", "chain", "[I", true)
  | 2 => ("ReceiptLeft$Titles", "ring", "Z", false)
  | 3 => ("ReceiptLeft$Titles", "edges", "[I", true)
  | 4 => ("ReceiptLeft$Titles", "next", "[I", true)
  | _ => ("ReceiptLeft$Titles", "most", "I", false)
def tyX8 : Nat → FieldType := fun k => match k with
  | 0 => .int
  | 1 => .array .int
  | 2 => .boolean
  | 3 => .array .int
  | 4 => .array .int
  | _ => .int
theorem nmX8 : ∀ a, a < 6 → ∀ b, b < 6 → a ≠ b → (TX8 a).2.1 ≠ (TX8 b).2.1 := by decide +kernel
theorem tyX8_ok : ∀ k, k < 6 → parseFieldDescriptor (TX8 k).2.2.1 = some (tyX8 k) := by decide +kernel
theorem ziX8 : ∀ w ∈ u_ws RX8 TX8 6, w ∈ zT := fun w h => zT_in ((by decide +kernel : ∀ w ∈ u_ws RX8 TX8 6, w ∈ lw_tbl) w h) ((by decide +kernel : ∀ w ∈ u_ws RX8 TX8 6, goodWord w = true) w h)
def RX9 : String := "ReceiptLeft$World"
def TX9 : u_T := fun k => match k with
  | 0 => ("ReceiptLeft$World", "city", "LReceiptLeft$City;", true)
  | 1 => ("ReceiptLeft$World", "day", "I", false)
  | 2 => ("ReceiptLeft$World", "papers", "I", false)
  | 3 => ("ReceiptLeft$World", "locked", "I", false)
  | 4 => ("ReceiptLeft$World", "purses", "[I", true)
  | 5 => ("ReceiptLeft$World", "place", "[I", true)
  | 6 => ("ReceiptLeft$World", "moves", "[I", true)
  | 7 => ("ReceiptLeft$World", "thief", "[I", true)
  | 8 => ("ReceiptLeft$World", "stolen", "[I", true)
  | 9 => ("ReceiptLeft$World", "holder", "[I", true)
  | 10 => ("ReceiptLeft$World", "dueDay", "[I", true)
  | 11 => ("ReceiptLeft$World", "how", "[I", true)
  | 12 => ("ReceiptLeft$World", "stations", "[I", true)
  | 13 => ("ReceiptLeft$World", "brought", "[I", true)
  | _ => ("ReceiptLeft$World", "lowest", "[I", true)
def tyX9 : Nat → FieldType := fun k => match k with
  | 0 => .object "ReceiptLeft$City"
  | 1 => .int
  | 2 => .int
  | 3 => .int
  | 4 => .array .int
  | 5 => .array .int
  | 6 => .array .int
  | 7 => .array .int
  | 8 => .array .int
  | 9 => .array .int
  | 10 => .array .int
  | 11 => .array .int
  | 12 => .array .int
  | 13 => .array .int
  | _ => .array .int
theorem nmX9 : ∀ a, a < 15 → ∀ b, b < 15 → a ≠ b → (TX9 a).2.1 ≠ (TX9 b).2.1 := by decide +kernel
theorem tyX9_ok : ∀ k, k < 15 → parseFieldDescriptor (TX9 k).2.2.1 = some (tyX9 k) := by decide +kernel
theorem ziX9 : ∀ w ∈ u_ws RX9 TX9 15, w ∈ zT := fun w h => zT_in ((by decide +kernel : ∀ w ∈ u_ws RX9 TX9 15, w ∈ lw_tbl) w h) ((by decide +kernel : ∀ w ∈ u_ws RX9 TX9 15, goodWord w = true) w h)
def RX10 : String := "ReceiptLeft"
def TX10 : u_T := fun k => match k with
  | 0 => ("ReceiptLeft", "tape", "LReceiptLeft$Tape;", true)
  | 1 => ("ReceiptLeft", "city", "LReceiptLeft$City;", true)
  | 2 => ("ReceiptLeft", "draft", "LReceiptLeft$City;", true)
  | 3 => ("ReceiptLeft", "acts", "LReceiptLeft$Acts;", true)
  | 4 => ("ReceiptLeft", "world", "LReceiptLeft$World;", true)
  | 5 => ("ReceiptLeft", "trial", "LReceiptLeft$World;", true)
  | 6 => ("ReceiptLeft", "titles", "LReceiptLeft$Titles;", true)
  | 7 => ("ReceiptLeft", "deal", "LReceiptLeft$Deal;", true)
  | 8 => ("ReceiptLeft", "dice", "LReceiptLeft$Dice;", true)
  | 9 => ("ReceiptLeft", "audit", "LReceiptLeft$Audit;", true)
  | 10 => ("ReceiptLeft", "images", "[LReceiptLeft$Image;", true)
  | _ => ("ReceiptLeft", "slots", "[LReceiptLeft$Row;", true)
def tyX10 : Nat → FieldType := fun k => match k with
  | 0 => .object "ReceiptLeft$Tape"
  | 1 => .object "ReceiptLeft$City"
  | 2 => .object "ReceiptLeft$City"
  | 3 => .object "ReceiptLeft$Acts"
  | 4 => .object "ReceiptLeft$World"
  | 5 => .object "ReceiptLeft$World"
  | 6 => .object "ReceiptLeft$Titles"
  | 7 => .object "ReceiptLeft$Deal"
  | 8 => .object "ReceiptLeft$Dice"
  | 9 => .object "ReceiptLeft$Audit"
  | 10 => .array (.object "ReceiptLeft$Image")
  | _ => .array (.object "ReceiptLeft$Row")
theorem nmX10 : ∀ a, a < 12 → ∀ b, b < 12 → a ≠ b → (TX10 a).2.1 ≠ (TX10 b).2.1 := by decide +kernel
theorem tyX10_ok : ∀ k, k < 12 → parseFieldDescriptor (TX10 k).2.2.1 = some (tyX10 k) := by decide +kernel
theorem ziX10 : ∀ w ∈ u_ws RX10 TX10 12, w ∈ zT := fun w h => zT_in ((by decide +kernel : ∀ w ∈ u_ws RX10 TX10 12, w ∈ lw_tbl) w h) ((by decide +kernel : ∀ w ∈ u_ws RX10 TX10 12, goodWord w = true) w h)
def RX11 : String := "ReceiptLeftModel"
def TX11 : u_T := fun k => match k with
  | 0 => ("ReceiptLeftModel", "thrown", "I", false)
  | 1 => ("ReceiptLeftModel", "world", "[I", true)
  | 2 => ("ReceiptLeftModel", "images", "[I", true)
  | 3 => ("ReceiptLeftModel", "hasImage", "[Z", true)
  | 4 => ("ReceiptLeftModel", "tape", "[B", true)
  | 5 => ("ReceiptLeftModel", "taped", "I", false)
  | 6 => ("ReceiptLeftModel", "five", "[I", true)
  | 7 => ("ReceiptLeftModel", "size", "I", false)
  | 8 => ("ReceiptLeftModel", "at", "I", false)
  | 9 => ("ReceiptLeftModel", "from", "I", false)
  | 10 => ("ReceiptLeftModel", "token", "I", false)
  | 11 => ("ReceiptLeftModel", "value", "I", false)
  | 12 => ("ReceiptLeftModel", "faultKind", "I", false)
  | 13 => ("ReceiptLeftModel", "faultPlace", "I", false)
  | 14 => ("ReceiptLeftModel", "fresh", "[I", true)
  | 15 => ("ReceiptLeftModel", "purse", "[I", true)
  | 16 => ("ReceiptLeftModel", "locked", "[I", true)
  | 17 => ("ReceiptLeftModel", "place", "[I", true)
  | 18 => ("ReceiptLeftModel", "thief", "[I", true)
  | 19 => ("ReceiptLeftModel", "stolen", "[I", true)
  | 20 => ("ReceiptLeftModel", "holder", "[I", true)
  | 21 => ("ReceiptLeftModel", "dueDay", "[I", true)
  | 22 => ("ReceiptLeftModel", "state", "[I", true)
  | 23 => ("ReceiptLeftModel", "brought", "[I", true)
  | 24 => ("ReceiptLeftModel", "trail", "[I", true)
  | 25 => ("ReceiptLeftModel", "trailLong", "[I", true)
  | 26 => ("ReceiptLeftModel", "papers", "I", false)
  | 27 => ("ReceiptLeftModel", "day", "I", false)
  | 28 => ("ReceiptLeftModel", "leastPurse", "I", false)
  | 29 => ("ReceiptLeftModel", "watched", "I", false)
  | 30 => ("ReceiptLeftModel", "chain", "[I", true)
  | 31 => ("ReceiptLeftModel", "chainLong", "I", false)
  | 32 => ("ReceiptLeftModel", "keeps", "[I", true)
  | 33 => ("ReceiptLeftModel", "hitHouse", "I", false)
  | 34 => ("ReceiptLeftModel", "planSet", "I", false)
  | 35 => ("ReceiptLeftModel", "dealt", "[I", true)
  | 36 => ("ReceiptLeftModel", "falseMany", "I", false)
  | 37 => ("ReceiptLeftModel", "falseFirst", "I", false)
  | 38 => ("ReceiptLeftModel", "falseWorth", "I", false)
  | 39 => ("ReceiptLeftModel", "drawX", "J", false)
  | 40 => ("ReceiptLeftModel", "many", "[I", true)
  | 41 => ("ReceiptLeftModel", "width", "[I", true)
  | 42 => ("ReceiptLeftModel", "numbers", "[J", true)
  | _ => ("ReceiptLeftModel", "moving", "[J", true)
def tyX11 : Nat → FieldType := fun k => match k with
  | 0 => .int
  | 1 => .array .int
  | 2 => .array .int
  | 3 => .array .boolean
  | 4 => .array .byte
  | 5 => .int
  | 6 => .array .int
  | 7 => .int
  | 8 => .int
  | 9 => .int
  | 10 => .int
  | 11 => .int
  | 12 => .int
  | 13 => .int
  | 14 => .array .int
  | 15 => .array .int
  | 16 => .array .int
  | 17 => .array .int
  | 18 => .array .int
  | 19 => .array .int
  | 20 => .array .int
  | 21 => .array .int
  | 22 => .array .int
  | 23 => .array .int
  | 24 => .array .int
  | 25 => .array .int
  | 26 => .int
  | 27 => .int
  | 28 => .int
  | 29 => .int
  | 30 => .array .int
  | 31 => .int
  | 32 => .array .int
  | 33 => .int
  | 34 => .int
  | 35 => .array .int
  | 36 => .int
  | 37 => .int
  | 38 => .int
  | 39 => .long
  | 40 => .array .int
  | 41 => .array .int
  | 42 => .array .long
  | _ => .array .long
theorem nmX11 : ∀ a, a < 44 → ∀ b, b < 44 → a ≠ b → (TX11 a).2.1 ≠ (TX11 b).2.1 := by decide +kernel
theorem tyX11_ok : ∀ k, k < 44 → parseFieldDescriptor (TX11 k).2.2.1 = some (tyX11 k) := by decide +kernel
theorem ziX11 : ∀ w ∈ u_ws RX11 TX11 44, w ∈ zT := fun w h => zT_in ((by decide +kernel : ∀ w ∈ u_ws RX11 TX11 44, w ∈ lw_tbl) w h) ((by decide +kernel : ∀ w ∈ u_ws RX11 TX11 44, goodWord w = true) w h)
abbrev vwCl : List vw_C := [(RX0, TX0, 2), (RX1, TX1, 3), (RX2, TX2, 11), (RX3, TX3, 1), (RX4, TX4, 1), (RX5, TX5, 3), (RX6, TX6, 3), (RX7, TX7, 7), (RX8, TX8, 6), (RX9, TX9, 15), (RX10, TX10, 12), (RX11, TX11, 44)]
abbrev cX11_in : ByteArray := prog_13_method_3_code
def yX11_in : MethodName := ⟨"ReceiptLeftModel", "in", "(JJJ)Z"⟩
abbrev cX11_isCity : ByteArray := prog_13_method_8_code
def yX11_isCity : MethodName := ⟨"ReceiptLeftModel", "isCity", "()Z"⟩
abbrev cX11_isHouse : ByteArray := prog_13_method_9_code
def yX11_isHouse : MethodName := ⟨"ReceiptLeftModel", "isHouse", "(J)Z"⟩
abbrev cX11_isThing : ByteArray := prog_13_method_10_code
def yX11_isThing : MethodName := ⟨"ReceiptLeftModel", "isThing", "(J)Z"⟩
abbrev cX11_house : ByteArray := prog_13_method_44_code
def yX11_house : MethodName := ⟨"ReceiptLeftModel", "house", "(II)I"⟩
abbrev cX11_thing : ByteArray := prog_13_method_45_code
def yX11_thing : MethodName := ⟨"ReceiptLeftModel", "thing", "(II)I"⟩
abbrev cX11_value : ByteArray := prog_13_method_46_code
def yX11_value : MethodName := ⟨"ReceiptLeftModel", "value", "(II)I"⟩
abbrev cX11_net : ByteArray := prog_13_method_50_code
def yX11_net : MethodName := ⟨"ReceiptLeftModel", "net", "(I)I"⟩
abbrev cX11_steal : ByteArray := prog_13_method_52_code
def yX11_steal : MethodName := ⟨"ReceiptLeftModel", "steal", "(III)I"⟩
abbrev cX11_lock : ByteArray := prog_13_method_56_code
def yX11_lock : MethodName := ⟨"ReceiptLeftModel", "lock", "(II)I"⟩
abbrev cX11_night : ByteArray := prog_13_method_57_code
def yX11_night : MethodName := ⟨"ReceiptLeftModel", "night", "()I"⟩
abbrev cX11_undo : ByteArray := prog_13_method_58_code
def yX11_undo : MethodName := ⟨"ReceiptLeftModel", "undo", "()I"⟩
abbrev cX11_anew : ByteArray := prog_13_method_59_code
def yX11_anew : MethodName := ⟨"ReceiptLeftModel", "anew", "()I"⟩
abbrev cX11_now : ByteArray := prog_13_method_60_code
def yX11_now : MethodName := ⟨"ReceiptLeftModel", "now", "(I)I"⟩
abbrev cX11_owner : ByteArray := prog_13_method_64_code
def yX11_owner : MethodName := ⟨"ReceiptLeftModel", "owner", "(I)I"⟩
abbrev cX11_chain : ByteArray := prog_13_method_65_code
def yX11_chain : MethodName := ⟨"ReceiptLeftModel", "chain", "(II)I"⟩
abbrev cX11_rings : ByteArray := prog_13_method_66_code
def yX11_rings : MethodName := ⟨"ReceiptLeftModel", "rings", "()I"⟩
abbrev cX11_owns : ByteArray := prog_13_method_67_code
def yX11_owns : MethodName := ⟨"ReceiptLeftModel", "owns", "(I)I"⟩
abbrev cX11_twice : ByteArray := prog_13_method_69_code
def yX11_twice : MethodName := ⟨"ReceiptLeftModel", "twice", "()I"⟩
abbrev cX11_strikes : ByteArray := prog_13_method_74_code
def yX11_strikes : MethodName := ⟨"ReceiptLeftModel", "strikes", "()I"⟩
abbrev cX11_struck : ByteArray := prog_13_method_75_code
def yX11_struck : MethodName := ⟨"ReceiptLeftModel", "struck", "()I"⟩
abbrev cX11_trail : ByteArray := prog_13_method_76_code
def yX11_trail : MethodName := ⟨"ReceiptLeftModel", "trail", "(II)I"⟩
abbrev cX11_went : ByteArray := prog_13_method_77_code
def yX11_went : MethodName := ⟨"ReceiptLeftModel", "went", "(I)I"⟩
abbrev cX11_lies : ByteArray := prog_13_method_79_code
def yX11_lies : MethodName := ⟨"ReceiptLeftModel", "lies", "(I)I"⟩
abbrev cX11_poorest : ByteArray := prog_13_method_80_code
def yX11_poorest : MethodName := ⟨"ReceiptLeftModel", "poorest", "()I"⟩
abbrev cX11_due : ByteArray := prog_13_method_82_code
def yX11_due : MethodName := ⟨"ReceiptLeftModel", "due", "(I)I"⟩
abbrev cX11_monday : ByteArray := prog_13_method_83_code
def yX11_monday : MethodName := ⟨"ReceiptLeftModel", "monday", "()I"⟩
abbrev cX11_lacks : ByteArray := prog_13_method_84_code
def yX11_lacks : MethodName := ⟨"ReceiptLeftModel", "lacks", "(I)I"⟩
abbrev cX11_needs_ : ByteArray := prog_13_method_85_code
def yX11_needs_ : MethodName := ⟨"ReceiptLeftModel", "needs", "(I)I"⟩
abbrev cX11_fails : ByteArray := prog_13_method_89_code
def yX11_fails : MethodName := ⟨"ReceiptLeftModel", "fails", "(I)I"⟩
abbrev cX11_later : ByteArray := prog_13_method_90_code
def yX11_later : MethodName := ⟨"ReceiptLeftModel", "later", "(II)I"⟩
abbrev cX11_purse : ByteArray := prog_13_method_91_code
def yX11_purse : MethodName := ⟨"ReceiptLeftModel", "purse", "(II)I"⟩
abbrev cX11_run : ByteArray := prog_13_method_92_code
def yX11_run : MethodName := ⟨"ReceiptLeftModel", "run", "()I"⟩
abbrev cX11_hit : ByteArray := prog_13_method_94_code
def yX11_hit : MethodName := ⟨"ReceiptLeftModel", "hit", "(I)I"⟩
abbrev cX11_hits : ByteArray := prog_13_method_95_code
def yX11_hits : MethodName := ⟨"ReceiptLeftModel", "hits", "(I)I"⟩
abbrev cX11_plan : ByteArray := prog_13_method_98_code
def yX11_plan : MethodName := ⟨"ReceiptLeftModel", "plan", "(II)I"⟩
abbrev cX11_plans : ByteArray := prog_13_method_99_code
def yX11_plans : MethodName := ⟨"ReceiptLeftModel", "plans", "(III)I"⟩
abbrev cX11_change : ByteArray := prog_13_method_100_code
def yX11_change : MethodName := ⟨"ReceiptLeftModel", "change", "(II)I"⟩
abbrev cX11_deal : ByteArray := prog_13_method_104_code
def yX11_deal : MethodName := ⟨"ReceiptLeftModel", "deal", "()I"⟩
abbrev cX11_deals : ByteArray := prog_13_method_105_code
def yX11_deals : MethodName := ⟨"ReceiptLeftModel", "deals", "(I)I"⟩
abbrev cX11_dear : ByteArray := prog_13_method_113_code
def yX11_dear : MethodName := ⟨"ReceiptLeftModel", "dear", "()I"⟩
abbrev cX11_rate : ByteArray := prog_13_method_128_code
def yX11_rate : MethodName := ⟨"ReceiptLeftModel", "rate", "(II)I"⟩
abbrev cX11_want : ByteArray := prog_13_method_129_code
def yX11_want : MethodName := ⟨"ReceiptLeftModel", "want", "(III)I"⟩
abbrev cX10_hasCity : ByteArray := prog_1_method_63_code
def yX10_hasCity : MethodName := ⟨"ReceiptLeft", "hasCity", "()Z"⟩
abbrev cX10_isHouse : ByteArray := prog_1_method_64_code
def yX10_isHouse : MethodName := ⟨"ReceiptLeft", "isHouse", "(I)Z"⟩
