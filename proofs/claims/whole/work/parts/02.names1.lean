def RX0 : String := "ComposedInterval$Cast"
def TX0 : u_T := fun k => match k with
  | 0 => ("ComposedInterval$Cast", "guest", "LComposedInterval$Guest;", true)
  | 1 => ("ComposedInterval$Cast", "enemy", "LComposedInterval$Guest;", true)
  | 2 => ("ComposedInterval$Cast", "singer", "LComposedInterval$Guest;", true)
  | 3 => ("ComposedInterval$Cast", "late", "LComposedInterval$Guest;", true)
  | 4 => ("ComposedInterval$Cast", "diva", "LComposedInterval$Guest;", true)
  | _ => ("ComposedInterval$Cast", "rival", "LComposedInterval$Guest;", true)
def tyX0 : Nat → FieldType := fun k => match k with
  | 0 => .object "ComposedInterval$Guest"
  | 1 => .object "ComposedInterval$Guest"
  | 2 => .object "ComposedInterval$Guest"
  | 3 => .object "ComposedInterval$Guest"
  | 4 => .object "ComposedInterval$Guest"
  | _ => .object "ComposedInterval$Guest"
abbrev wsX00 : List Cond := u_ws RX0 TX0 6
theorem nmX0 : ∀ a, a < 6 → ∀ b, b < 6 → a ≠ b → (TX0 a).2.1 ≠ (TX0 b).2.1 := by decide +kernel
theorem tyX0_ok : ∀ k, k < 6 → parseFieldDescriptor (TX0 k).2.2.1 = some (tyX0 k) := by decide +kernel
abbrev cX0_init : ByteArray := prog_2_method_1_code
def yX0_init : MethodName := ⟨RX0, "<init>", "()V"⟩
abbrev cX0_numbered : ByteArray := prog_2_method_2_code
def yX0_numbered : MethodName := ⟨RX0, "numbered", "(I)LComposedInterval$Guest;"⟩
abbrev cX0_nameOf : ByteArray := prog_2_method_3_code
def yX0_nameOf : MethodName := ⟨RX0, "nameOf", "(I)Ljava/lang/String;"⟩
def RX1 : String := "ComposedInterval$Diva"
def TX1 : u_T := fun k => match k with
  | _ => ("", "", "", false)
def tyX1 : Nat → FieldType := fun k => match k with
  | _ => .int
abbrev wsX10 : List Cond := u_ws RX1 TX1 0
theorem nmX1 : ∀ a, a < 0 → ∀ b, b < 0 → a ≠ b → (TX1 a).2.1 ≠ (TX1 b).2.1 := by decide +kernel
theorem tyX1_ok : ∀ k, k < 0 → parseFieldDescriptor (TX1 k).2.2.1 = some (tyX1 k) := by decide +kernel
abbrev cX1_init : ByteArray := prog_3_method_1_code
def yX1_init : MethodName := ⟨RX1, "<init>", "()V"⟩
abbrev cX1_due : ByteArray := prog_3_method_2_code
def yX1_due : MethodName := ⟨RX1, "due", "(LComposedInterval$Foyer;I)I"⟩
abbrev cX1_hears : ByteArray := prog_3_method_3_code
def yX1_hears : MethodName := ⟨RX1, "hears", "(LComposedInterval$Foyer;I)Z"⟩
abbrev cX1_walks : ByteArray := prog_3_method_4_code
def yX1_walks : MethodName := ⟨RX1, "walks", "(LComposedInterval$Foyer;II)I"⟩
abbrev cX1_spoils : ByteArray := prog_3_method_5_code
def yX1_spoils : MethodName := ⟨RX1, "spoils", "()I"⟩
def RX2 : String := "ComposedInterval$Enemy"
def TX2 : u_T := fun k => match k with
  | _ => ("", "", "", false)
def tyX2 : Nat → FieldType := fun k => match k with
  | _ => .int
abbrev wsX20 : List Cond := u_ws RX2 TX2 0
theorem nmX2 : ∀ a, a < 0 → ∀ b, b < 0 → a ≠ b → (TX2 a).2.1 ≠ (TX2 b).2.1 := by decide +kernel
theorem tyX2_ok : ∀ k, k < 0 → parseFieldDescriptor (TX2 k).2.2.1 = some (tyX2 k) := by decide +kernel
abbrev cX2_init : ByteArray := prog_4_method_1_code
def yX2_init : MethodName := ⟨RX2, "<init>", "()V"⟩
abbrev cX2_due : ByteArray := prog_4_method_2_code
def yX2_due : MethodName := ⟨RX2, "due", "(LComposedInterval$Foyer;I)I"⟩
abbrev cX2_walks : ByteArray := prog_4_method_3_code
def yX2_walks : MethodName := ⟨RX2, "walks", "(LComposedInterval$Foyer;II)I"⟩
abbrev cX2_spoils : ByteArray := prog_4_method_4_code
def yX2_spoils : MethodName := ⟨RX2, "spoils", "()I"⟩
def RX3 : String := "ComposedInterval$Foyer"
def TX3 : u_T := fun k => match k with
  | 0 => ("ComposedInterval$Foyer", "cast", "LComposedInterval$Cast;", true)
  | 1 => ("ComposedInterval$Foyer", "score", "[I", true)
  | 2 => ("ComposedInterval$Foyer", "bells", "[I", true)
  | 3 => ("ComposedInterval$Foyer", "kind", "[I", true)
  | 4 => ("ComposedInterval$Foyer", "at", "[I", true)
  | 5 => ("ComposedInterval$Foyer", "quick", "[I", true)
  | 6 => ("ComposedInterval$Foyer", "played", "[I", true)
  | 7 => ("ComposedInterval$Foyer", "spoilt", "[I", true)
  | 8 => ("ComposedInterval$Foyer", "minute", "I", false)
  | 9 => ("ComposedInterval$Foyer", "people", "I", false)
  | 10 => ("ComposedInterval$Foyer", "quarter", "I", false)
  | 11 => ("ComposedInterval$Foyer", "spot", "I", false)
  | 12 => ("ComposedInterval$Foyer", "ringing", "I", false)
  | 13 => ("ComposedInterval$Foyer", "wasDue", "[I", true)
  | _ => ("ComposedInterval$Foyer", "inTime", "I", false)
def tyX3 : Nat → FieldType := fun k => match k with
  | 0 => .object "ComposedInterval$Cast"
  | 1 => .array .int
  | 2 => .array .int
  | 3 => .array .int
  | 4 => .array .int
  | 5 => .array .int
  | 6 => .array .int
  | 7 => .array .int
  | 8 => .int
  | 9 => .int
  | 10 => .int
  | 11 => .int
  | 12 => .int
  | 13 => .array .int
  | _ => .int
abbrev wsX30 : List Cond := u_ws RX3 TX3 15
theorem nmX3 : ∀ a, a < 15 → ∀ b, b < 15 → a ≠ b → (TX3 a).2.1 ≠ (TX3 b).2.1 := by decide +kernel
theorem tyX3_ok : ∀ k, k < 15 → parseFieldDescriptor (TX3 k).2.2.1 = some (tyX3 k) := by decide +kernel
abbrev cX3_init : ByteArray := prog_5_method_1_code
def yX3_init : MethodName := ⟨RX3, "<init>", "(LComposedInterval$Cast;)V"⟩
abbrev cX3_become : ByteArray := prog_5_method_2_code
def yX3_become : MethodName := ⟨RX3, "become", "(LComposedInterval$Foyer;)V"⟩
abbrev cX3_admit : ByteArray := prog_5_method_3_code
def yX3_admit : MethodName := ⟨RX3, nm_f3, "(III)V"⟩
abbrev cX3_look : ByteArray := prog_5_method_4_code
def yX3_look : MethodName := ⟨RX3, "look", "()V"⟩
abbrev cX3_guest : ByteArray := prog_5_method_5_code
def yX3_guest : MethodName := ⟨RX3, "guest", "(I)LComposedInterval$Guest;"⟩
abbrev cX3_isDeceived : ByteArray := prog_5_method_6_code
def yX3_isDeceived : MethodName := ⟨RX3, "isDeceived", "(I)Z"⟩
abbrev cX3_dueOf : ByteArray := prog_5_method_7_code
def yX3_dueOf : MethodName := ⟨RX3, "dueOf", "(I)I"⟩
abbrev cX3_go : ByteArray := prog_5_method_8_code
def yX3_go : MethodName := ⟨RX3, "go", "(I)V"⟩
abbrev cX3_passMinute : ByteArray := prog_5_method_9_code
def yX3_passMinute : MethodName := ⟨RX3, "passMinute", "()V"⟩
abbrev cX3_markMinute : ByteArray := prog_5_method_10_code
def yX3_markMinute : MethodName := ⟨RX3, "markMinute", "()V"⟩
abbrev cX3_isBarred : ByteArray := prog_5_method_11_code
def yX3_isBarred : MethodName := ⟨RX3, "isBarred", "(II)Z"⟩
abbrev cX3_whoIsAt : ByteArray := prog_5_method_12_code
def yX3_whoIsAt : MethodName := ⟨RX3, "whoIsAt", "(I)I"⟩
abbrev cX3_whoIsDueHere : ByteArray := prog_5_method_13_code
def yX3_whoIsDueHere : MethodName := ⟨RX3, "whoIsDueHere", "()I"⟩
abbrev cX3_sumOf : ByteArray := prog_5_method_14_code
def yX3_sumOf : MethodName := ⟨RX3, "sumOf", "([I)I"⟩
abbrev cX3_sumHarmony : ByteArray := prog_5_method_15_code
def yX3_sumHarmony : MethodName := ⟨RX3, "sumHarmony", "()I"⟩
def RX4 : String := "ComposedInterval$Guest"
def TX4 : u_T := fun k => match k with
  | _ => ("", "", "", false)
def tyX4 : Nat → FieldType := fun k => match k with
  | _ => .int
abbrev wsX40 : List Cond := u_ws RX4 TX4 0
theorem nmX4 : ∀ a, a < 0 → ∀ b, b < 0 → a ≠ b → (TX4 a).2.1 ≠ (TX4 b).2.1 := by decide +kernel
theorem tyX4_ok : ∀ k, k < 0 → parseFieldDescriptor (TX4 k).2.2.1 = some (tyX4 k) := by decide +kernel
abbrev cX4_init : ByteArray := prog_6_method_1_code
def yX4_init : MethodName := ⟨RX4, "<init>", "()V"⟩
abbrev cX4_due : ByteArray := prog_6_method_2_code
def yX4_due : MethodName := ⟨RX4, "due", "(LComposedInterval$Foyer;I)I"⟩
abbrev cX4_hears : ByteArray := prog_6_method_3_code
def yX4_hears : MethodName := ⟨RX4, "hears", "(LComposedInterval$Foyer;I)Z"⟩
abbrev cX4_walks : ByteArray := prog_6_method_4_code
def yX4_walks : MethodName := ⟨RX4, "walks", "(LComposedInterval$Foyer;II)I"⟩
abbrev cX4_spoils : ByteArray := prog_6_method_5_code
def yX4_spoils : MethodName := ⟨RX4, "spoils", "()I"⟩
def RX5 : String := "ComposedInterval$Late"
def TX5 : u_T := fun k => match k with
  | _ => ("", "", "", false)
def tyX5 : Nat → FieldType := fun k => match k with
  | _ => .int
abbrev wsX50 : List Cond := u_ws RX5 TX5 0
theorem nmX5 : ∀ a, a < 0 → ∀ b, b < 0 → a ≠ b → (TX5 a).2.1 ≠ (TX5 b).2.1 := by decide +kernel
theorem tyX5_ok : ∀ k, k < 0 → parseFieldDescriptor (TX5 k).2.2.1 = some (tyX5 k) := by decide +kernel
abbrev cX5_init : ByteArray := prog_7_method_1_code
def yX5_init : MethodName := ⟨RX5, "<init>", "()V"⟩
abbrev cX5_due : ByteArray := prog_7_method_2_code
def yX5_due : MethodName := ⟨RX5, "due", "(LComposedInterval$Foyer;I)I"⟩
abbrev cX5_hears : ByteArray := prog_7_method_3_code
def yX5_hears : MethodName := ⟨RX5, "hears", "(LComposedInterval$Foyer;I)Z"⟩
abbrev cX5_walks : ByteArray := prog_7_method_4_code
def yX5_walks : MethodName := ⟨RX5, "walks", "(LComposedInterval$Foyer;II)I"⟩
abbrev cX5_spoils : ByteArray := prog_7_method_5_code
def yX5_spoils : MethodName := ⟨RX5, "spoils", "()I"⟩
def RX6 : String := "ComposedInterval$Rival"
def TX6 : u_T := fun k => match k with
  | _ => ("", "", "", false)
def tyX6 : Nat → FieldType := fun k => match k with
  | _ => .int
abbrev wsX60 : List Cond := u_ws RX6 TX6 0
theorem nmX6 : ∀ a, a < 0 → ∀ b, b < 0 → a ≠ b → (TX6 a).2.1 ≠ (TX6 b).2.1 := by decide +kernel
theorem tyX6_ok : ∀ k, k < 0 → parseFieldDescriptor (TX6 k).2.2.1 = some (tyX6 k) := by decide +kernel
abbrev cX6_init : ByteArray := prog_8_method_1_code
def yX6_init : MethodName := ⟨RX6, "<init>", "()V"⟩
abbrev cX6_due : ByteArray := prog_8_method_2_code
def yX6_due : MethodName := ⟨RX6, "due", "(LComposedInterval$Foyer;I)I"⟩
abbrev cX6_hears : ByteArray := prog_8_method_3_code
def yX6_hears : MethodName := ⟨RX6, "hears", "(LComposedInterval$Foyer;I)Z"⟩
abbrev cX6_spoils : ByteArray := prog_8_method_4_code
def yX6_spoils : MethodName := ⟨RX6, "spoils", "()I"⟩
def RX7 : String := "ComposedInterval$Sheet"
def TX7 : u_T := fun k => match k with
  | 0 => ("ComposedInterval$Sheet", "numbers", "[J", true)
  | 1 => ("ComposedInterval$Sheet", "bits", "I", false)
  | _ => ("ComposedInterval$Sheet", "size", "I", false)
def tyX7 : Nat → FieldType := fun k => match k with
  | 0 => .array .long
  | 1 => .int
  | _ => .int
abbrev wsX70 : List Cond := u_ws RX7 TX7 3
theorem nmX7 : ∀ a, a < 3 → ∀ b, b < 3 → a ≠ b → (TX7 a).2.1 ≠ (TX7 b).2.1 := by decide +kernel
theorem tyX7_ok : ∀ k, k < 3 → parseFieldDescriptor (TX7 k).2.2.1 = some (tyX7 k) := by decide +kernel
abbrev cX7_init : ByteArray := prog_9_method_1_code
def yX7_init : MethodName := ⟨RX7, "<init>", "()V"⟩
abbrev cX7_lay : ByteArray := prog_9_method_2_code
def yX7_lay : MethodName := ⟨RX7, "lay", "(II)V"⟩
abbrev cX7_isMissing : ByteArray := prog_9_method_3_code
def yX7_isMissing : MethodName := ⟨RX7, "isMissing", "()Z"⟩
abbrev cX7_narrow : ByteArray := prog_9_method_4_code
def yX7_narrow : MethodName := ⟨RX7, "narrow", "(J)J"⟩
abbrev cX7_hasRun : ByteArray := prog_9_method_5_code
def yX7_hasRun : MethodName := ⟨RX7, "hasRun", "(II)Z"⟩
def RX8 : String := "ComposedInterval$Singer"
def TX8 : u_T := fun k => match k with
  | _ => ("", "", "", false)
def tyX8 : Nat → FieldType := fun k => match k with
  | _ => .int
abbrev wsX80 : List Cond := u_ws RX8 TX8 0
theorem nmX8 : ∀ a, a < 0 → ∀ b, b < 0 → a ≠ b → (TX8 a).2.1 ≠ (TX8 b).2.1 := by decide +kernel
theorem tyX8_ok : ∀ k, k < 0 → parseFieldDescriptor (TX8 k).2.2.1 = some (tyX8 k) := by decide +kernel
abbrev cX8_init : ByteArray := prog_10_method_1_code
def yX8_init : MethodName := ⟨RX8, "<init>", "()V"⟩
abbrev cX8_due : ByteArray := prog_10_method_2_code
def yX8_due : MethodName := ⟨RX8, "due", "(LComposedInterval$Foyer;I)I"⟩
abbrev cX8_hears : ByteArray := prog_10_method_3_code
def yX8_hears : MethodName := ⟨RX8, "hears", "(LComposedInterval$Foyer;I)Z"⟩
abbrev cX8_walks : ByteArray := prog_10_method_4_code
def yX8_walks : MethodName := ⟨RX8, "walks", "(LComposedInterval$Foyer;II)I"⟩
abbrev cX8_spoils : ByteArray := prog_10_method_5_code
def yX8_spoils : MethodName := ⟨RX8, "spoils", "()I"⟩
def RX9 : String := "ComposedInterval$Tape"
def TX9 : u_T := fun k => match k with
  | 0 => ("ComposedInterval$Tape", "bytes", "[I", true)
  | 1 => ("ComposedInterval$Tape", "length", "I", false)
  | 2 => ("ComposedInterval$Tape", "token", "I", false)
  | 3 => ("ComposedInterval$Tape", "start", "I", false)
  | 4 => ("ComposedInterval$Tape", "next", "I", false)
  | _ => ("ComposedInterval$Tape", "value", "I", false)
def tyX9 : Nat → FieldType := fun k => match k with
  | 0 => .array .int
  | 1 => .int
  | 2 => .int
  | 3 => .int
  | 4 => .int
  | _ => .int
abbrev wsX90 : List Cond := u_ws RX9 TX9 6
theorem nmX9 : ∀ a, a < 6 → ∀ b, b < 6 → a ≠ b → (TX9 a).2.1 ≠ (TX9 b).2.1 := by decide +kernel
theorem tyX9_ok : ∀ k, k < 6 → parseFieldDescriptor (TX9 k).2.2.1 = some (tyX9 k) := by decide +kernel
abbrev cX9_init : ByteArray := prog_11_method_1_code
def yX9_init : MethodName := ⟨RX9, "<init>", "()V"⟩
abbrev cX9_append : ByteArray := prog_11_method_2_code
def yX9_append : MethodName := ⟨RX9, "append", "(I)V"⟩
abbrev cX9_perform : ByteArray := prog_11_method_3_code
def yX9_perform : MethodName := ⟨RX9, "perform", "(LComposedInterval$Foyer;)I"⟩
abbrev cX9_takeItem : ByteArray := prog_11_method_4_code
def yX9_takeItem : MethodName := ⟨RX9, "takeItem", "(LComposedInterval$Foyer;)Z"⟩
abbrev cX9_takeScore : ByteArray := prog_11_method_5_code
def yX9_takeScore : MethodName := ⟨RX9, "takeScore", "(LComposedInterval$Foyer;)Z"⟩
abbrev cX9_takeBell : ByteArray := prog_11_method_6_code
def yX9_takeBell : MethodName := ⟨RX9, "takeBell", "(LComposedInterval$Foyer;)Z"⟩
abbrev cX9_takePerson : ByteArray := prog_11_method_7_code
def yX9_takePerson : MethodName := ⟨RX9, "takePerson", "(LComposedInterval$Foyer;I)Z"⟩
abbrev cX9_isNumber : ByteArray := prog_11_method_8_code
def yX9_isNumber : MethodName := ⟨RX9, "isNumber", "(II)Z"⟩
abbrev cX9_isWord : ByteArray := prog_11_method_9_code
def yX9_isWord : MethodName := ⟨RX9, "isWord", "(Ljava/lang/String;)Z"⟩
abbrev cX9_advance : ByteArray := prog_11_method_10_code
def yX9_advance : MethodName := ⟨RX9, "advance", "()V"⟩
abbrev cX9_isLetter : ByteArray := prog_11_method_11_code
def yX9_isLetter : MethodName := ⟨RX9, "isLetter", "(I)Z"⟩
abbrev cX9_isDigit : ByteArray := prog_11_method_12_code
def yX9_isDigit : MethodName := ⟨RX9, "isDigit", "(I)Z"⟩
def RX10 : String := "ComposedInterval"
def TX10 : u_T := fun k => match k with
  | 0 => ("ComposedInterval", "present", "LComposedInterval$Foyer;", true)
  | 1 => ("ComposedInterval", "trial", "LComposedInterval$Foyer;", true)
  | 2 => ("ComposedInterval", "kept", "LComposedInterval$Foyer;", true)
  | 3 => ("ComposedInterval", "tape", "LComposedInterval$Tape;", true)
  | 4 => ("ComposedInterval", "sheets", "[LComposedInterval$Sheet;", true)
  | 5 => ("ComposedInterval", "told", "[I", true)
  | _ => ("ComposedInterval", "isKept", "Z", false)
def tyX10 : Nat → FieldType := fun k => match k with
  | 0 => .object "ComposedInterval$Foyer"
  | 1 => .object "ComposedInterval$Foyer"
  | 2 => .object "ComposedInterval$Foyer"
  | 3 => .object "ComposedInterval$Tape"
  | 4 => .array (.object "ComposedInterval$Sheet")
  | 5 => .array .int
  | _ => .boolean
abbrev wsX100 : List Cond := u_ws RX10 TX10 7
theorem nmX10 : ∀ a, a < 7 → ∀ b, b < 7 → a ≠ b → (TX10 a).2.1 ≠ (TX10 b).2.1 := by decide +kernel
theorem tyX10_ok : ∀ k, k < 7 → parseFieldDescriptor (TX10 k).2.2.1 = some (tyX10 k) := by decide +kernel
abbrev cX10_init : ByteArray := prog_1_method_1_code
def yX10_init : MethodName := ⟨RX10, "<init>", "()V"⟩
abbrev cX10_score : ByteArray := prog_1_method_2_code
def yX10_score : MethodName := ⟨RX10, "score", "(II)I"⟩
abbrev cX10_bell : ByteArray := prog_1_method_3_code
def yX10_bell : MethodName := ⟨RX10, "bell", "(II)I"⟩
abbrev cX10_now : ByteArray := prog_1_method_4_code
def yX10_now : MethodName := ⟨RX10, "now", "(I)I"⟩
abbrev cX10_who : ByteArray := prog_1_method_5_code
def yX10_who : MethodName := ⟨RX10, "who", "(I)I"⟩
abbrev cX10_person : ByteArray := prog_1_method_6_code
def yX10_person : MethodName := ⟨RX10, "person", "(II)I"⟩
abbrev cX10_of : ByteArray := prog_1_method_7_code
def yX10_of : MethodName := ⟨RX10, "of", "(II)I"⟩
abbrev cX10_set : ByteArray := prog_1_method_8_code
def yX10_set : MethodName := ⟨RX10, "set", "(III)I"⟩
abbrev cX10_turn : ByteArray := prog_1_method_9_code
def yX10_turn : MethodName := ⟨RX10, "turn", "(II)I"⟩
abbrev cX10_as : ByteArray := prog_1_method_10_code
def yX10_as : MethodName := ⟨RX10, "as", "(II)I"⟩
abbrev cX10_minutes : ByteArray := prog_1_method_11_code
def yX10_minutes : MethodName := ⟨RX10, "minutes", "(I)I"⟩
abbrev cX10_on : ByteArray := prog_1_method_12_code
def yX10_on : MethodName := ⟨RX10, "on", "(III)I"⟩
abbrev cX10_harmony : ByteArray := prog_1_method_13_code
def yX10_harmony : MethodName := ⟨RX10, "harmony", "(I)I"⟩
abbrev cX10_comes : ByteArray := prog_1_method_14_code
def yX10_comes : MethodName := ⟨RX10, "comes", "(II)I"⟩
abbrev cX10_plays : ByteArray := prog_1_method_15_code
def yX10_plays : MethodName := ⟨RX10, "plays", "(I)I"⟩
abbrev cX10_meet : ByteArray := prog_1_method_16_code
def yX10_meet : MethodName := ⟨RX10, "meet", "(II)I"⟩
abbrev cX10_begin : ByteArray := prog_1_method_17_code
def yX10_begin : MethodName := ⟨RX10, "begin", "(II)I"⟩
abbrev cX10_kind : ByteArray := prog_1_method_18_code
def yX10_kind : MethodName := ⟨RX10, "kind", "(II)I"⟩
abbrev cX10_quick : ByteArray := prog_1_method_19_code
def yX10_quick : MethodName := ⟨RX10, "quick", "(III)I"⟩
abbrev cX10_compose : ByteArray := prog_1_method_20_code
def yX10_compose : MethodName := ⟨RX10, "compose", "(II)I"⟩
abbrev cX10_deceive : ByteArray := prog_1_method_21_code
def yX10_deceive : MethodName := ⟨RX10, "deceive", "(II)I"⟩
abbrev cX10_worst : ByteArray := prog_1_method_22_code
def yX10_worst : MethodName := ⟨RX10, "worst", "(I)I"⟩
abbrev cX10_feed : ByteArray := prog_1_method_23_code
def yX10_feed : MethodName := ⟨RX10, "feed", "(II)I"⟩
abbrev cX10_wipe : ByteArray := prog_1_method_24_code
def yX10_wipe : MethodName := ⟨RX10, "wipe", "()I"⟩
abbrev cX10_interval : ByteArray := prog_1_method_25_code
def yX10_interval : MethodName := ⟨RX10, "interval", "()I"⟩
abbrev cX10_sheet : ByteArray := prog_1_method_26_code
def yX10_sheet : MethodName := ⟨RX10, "sheet", "(III)I"⟩
abbrev cX10_write : ByteArray := prog_1_method_27_code
def yX10_write : MethodName := ⟨RX10, "write", "(IIJ)J"⟩
abbrev cX10_copy : ByteArray := prog_1_method_28_code
def yX10_copy : MethodName := ⟨RX10, "copy", "(IIIII)I"⟩
abbrev cX10_lays : ByteArray := prog_1_method_29_code
def yX10_lays : MethodName := ⟨RX10, "lays", "(I)I"⟩
abbrev cX10_book : ByteArray := prog_1_method_30_code
def yX10_book : MethodName := ⟨RX10, "book", "(II)I"⟩
abbrev cX10_read : ByteArray := prog_1_method_31_code
def yX10_read : MethodName := ⟨RX10, "read", "(II)I"⟩
abbrev cX10_image : ByteArray := prog_1_method_32_code
def yX10_image : MethodName := ⟨RX10, "image", "()I"⟩
abbrev cX10_undo : ByteArray := prog_1_method_33_code
def yX10_undo : MethodName := ⟨RX10, "undo", "()I"⟩
abbrev cX10_tear : ByteArray := prog_1_method_34_code
def yX10_tear : MethodName := ⟨RX10, "tear", "()I"⟩
abbrev cX10_count : ByteArray := prog_1_method_35_code
def yX10_count : MethodName := ⟨RX10, "count", "(I)I"⟩
abbrev cX10_status : ByteArray := prog_1_method_36_code
def yX10_status : MethodName := ⟨RX10, "status", "(I)I"⟩
abbrev cX10_tell : ByteArray := prog_1_method_37_code
def yX10_tell : MethodName := ⟨RX10, "tell", "(I)I"⟩
abbrev cX10_bestPlayed : ByteArray := prog_1_method_38_code
def yX10_bestPlayed : MethodName := ⟨RX10, "bestPlayed", "([IIII)I"⟩
abbrev cX10_sheetFinding : ByteArray := prog_1_method_39_code
def yX10_sheetFinding : MethodName := ⟨RX10, "sheetFinding", "(I)I"⟩
abbrev cX10_goesAsTold : ByteArray := prog_1_method_40_code
def yX10_goesAsTold : MethodName := ⟨RX10, "goesAsTold", "(LComposedInterval$Sheet;I)Z"⟩
abbrev cX10_isNobody : ByteArray := prog_1_method_41_code
def yX10_isNobody : MethodName := ⟨RX10, "isNobody", "(I)Z"⟩
abbrev cX10_isOutside : ByteArray := prog_1_method_42_code
def yX10_isOutside : MethodName := ⟨RX10, "isOutside", "(III)Z"⟩
abbrev cX10_isNoSpot : ByteArray := prog_1_method_43_code
def yX10_isNoSpot : MethodName := ⟨RX10, "isNoSpot", "(I)Z"⟩
abbrev cX10_isNoKind : ByteArray := prog_1_method_44_code
def yX10_isNoKind : MethodName := ⟨RX10, "isNoKind", "(I)Z"⟩
abbrev cX10_isNoSheet : ByteArray := prog_1_method_45_code
def yX10_isNoSheet : MethodName := ⟨RX10, "isNoSheet", "(I)Z"⟩
abbrev cX10_isOfKind : ByteArray := prog_1_method_46_code
def yX10_isOfKind : MethodName := ⟨RX10, "isOfKind", "(II)Z"⟩
abbrev cX10_exchange : ByteArray := prog_1_method_47_code
def yX10_exchange : MethodName := ⟨RX10, "exchange", "([III)I"⟩
def RX11 : String := "ComposedIntervalModel"
def TX11 : u_T := fun k => match k with
  | 0 => ("ComposedIntervalModel", "s", "[I", true)
  | 1 => ("ComposedIntervalModel", "keptS", "[I", true)
  | 2 => ("ComposedIntervalModel", "other", "[I", true)
  | 3 => ("ComposedIntervalModel", "aside", "[I", true)
  | 4 => ("ComposedIntervalModel", "statuses", "[I", true)
  | 5 => ("ComposedIntervalModel", "due", "[I", true)
  | 6 => ("ComposedIntervalModel", "isKept", "Z", false)
  | 7 => ("ComposedIntervalModel", "inTime", "I", false)
  | 8 => ("ComposedIntervalModel", "tape", "[I", true)
  | 9 => ("ComposedIntervalModel", "taped", "I", false)
  | 10 => ("ComposedIntervalModel", "from", "I", false)
  | 11 => ("ComposedIntervalModel", "to", "I", false)
  | 12 => ("ComposedIntervalModel", "value", "I", false)
  | 13 => ("ComposedIntervalModel", "isWrong", "Z", false)
  | 14 => ("ComposedIntervalModel", "bitsOf", "[I", true)
  | 15 => ("ComposedIntervalModel", "sizeOf", "[I", true)
  | 16 => ("ComposedIntervalModel", "numbers", "[J", true)
  | _ => ("ComposedIntervalModel", "moved", "[J", true)
def tyX11 : Nat → FieldType := fun k => match k with
  | 0 => .array .int
  | 1 => .array .int
  | 2 => .array .int
  | 3 => .array .int
  | 4 => .array .int
  | 5 => .array .int
  | 6 => .boolean
  | 7 => .int
  | 8 => .array .int
  | 9 => .int
  | 10 => .int
  | 11 => .int
  | 12 => .int
  | 13 => .boolean
  | 14 => .array .int
  | 15 => .array .int
  | 16 => .array .long
  | _ => .array .long
abbrev wsX110 : List Cond := u_ws RX11 TX11 18
theorem nmX11 : ∀ a, a < 18 → ∀ b, b < 18 → a ≠ b → (TX11 a).2.1 ≠ (TX11 b).2.1 := by decide +kernel
theorem tyX11_ok : ∀ k, k < 18 → parseFieldDescriptor (TX11 k).2.2.1 = some (tyX11 k) := by decide +kernel
abbrev cX11_init : ByteArray := prog_13_method_1_code
def yX11_init : MethodName := ⟨RX11, "<init>", "()V"⟩
abbrev cX11_in : ByteArray := prog_13_method_2_code
def yX11_in : MethodName := ⟨RX11, "in", "(JJJ)Z"⟩
abbrev cX11_finds : ByteArray := prog_13_method_3_code
def yX11_finds : MethodName := ⟨RX11, "finds", "(I)I"⟩
abbrev cX11_saves : ByteArray := prog_13_method_4_code
def yX11_saves : MethodName := ⟨RX11, "saves", "()V"⟩
abbrev cX11_putsBack : ByteArray := prog_13_method_5_code
def yX11_putsBack : MethodName := ⟨RX11, "putsBack", "()V"⟩
abbrev cX11_laysAside : ByteArray := prog_13_method_6_code
def yX11_laysAside : MethodName := ⟨RX11, "laysAside", "()V"⟩
abbrev cX11_takesBack : ByteArray := prog_13_method_7_code
def yX11_takesBack : MethodName := ⟨RX11, "takesBack", "(I)I"⟩
abbrev cX11_becomes : ByteArray := prog_13_method_8_code
def yX11_becomes : MethodName := ⟨RX11, "becomes", "(II)I"⟩
abbrev cX11_spot : ByteArray := prog_13_method_9_code
def yX11_spot : MethodName := ⟨RX11, "spot", "(II)I"⟩
abbrev cX11_its : ByteArray := prog_13_method_10_code
def yX11_its : MethodName := ⟨RX11, "its", "(II)I"⟩
abbrev cX11_isPerson : ByteArray := prog_13_method_11_code
def yX11_isPerson : MethodName := ⟨RX11, "isPerson", "(I)Z"⟩
abbrev cX11_isSpot : ByteArray := prog_13_method_12_code
def yX11_isSpot : MethodName := ⟨RX11, "isSpot", "(I)Z"⟩
abbrev cX11_isQuarter : ByteArray := prog_13_method_13_code
def yX11_isQuarter : MethodName := ⟨RX11, "isQuarter", "(I)Z"⟩
abbrev cX11_isBell : ByteArray := prog_13_method_14_code
def yX11_isBell : MethodName := ⟨RX11, "isBell", "(I)Z"⟩
abbrev cX11_isKind : ByteArray := prog_13_method_15_code
def yX11_isKind : MethodName := ⟨RX11, "isKind", "(I)Z"⟩
abbrev cX11_together : ByteArray := prog_13_method_16_code
def yX11_together : MethodName := ⟨RX11, "together", "(I)I"⟩
abbrev cX11_harmonyNow : ByteArray := prog_13_method_17_code
def yX11_harmonyNow : MethodName := ⟨RX11, "harmonyNow", "()I"⟩
abbrev cX11_score : ByteArray := prog_13_method_18_code
def yX11_score : MethodName := ⟨RX11, "score", "(II)I"⟩
abbrev cX11_bell : ByteArray := prog_13_method_19_code
def yX11_bell : MethodName := ⟨RX11, "bell", "(II)I"⟩
abbrev cX11_quarter : ByteArray := prog_13_method_20_code
def yX11_quarter : MethodName := ⟨RX11, "quarter", "()I"⟩
abbrev cX11_ringing : ByteArray := prog_13_method_21_code
def yX11_ringing : MethodName := ⟨RX11, "ringing", "()I"⟩
abbrev cX11_dueOnes : ByteArray := prog_13_method_22_code
def yX11_dueOnes : MethodName := ⟨RX11, "dueOnes", "()I"⟩
abbrev cX11_now : ByteArray := prog_13_method_23_code
def yX11_now : MethodName := ⟨RX11, "now", "(I)I"⟩
abbrev cX11_whoAt : ByteArray := prog_13_method_24_code
def yX11_whoAt : MethodName := ⟨RX11, "whoAt", "(I)I"⟩
abbrev cX11_who : ByteArray := prog_13_method_25_code
def yX11_who : MethodName := ⟨RX11, "who", "(I)I"⟩
abbrev cX11_isHearing : ByteArray := prog_13_method_26_code
def yX11_isHearing : MethodName := ⟨RX11, "isHearing", "(I)Z"⟩
abbrev cX11_writtenFor : ByteArray := prog_13_method_27_code
def yX11_writtenFor : MethodName := ⟨RX11, "writtenFor", "(I)I"⟩
abbrev cX11_dueOf : ByteArray := prog_13_method_28_code
def yX11_dueOf : MethodName := ⟨RX11, "dueOf", "(I)I"⟩
abbrev cX11_signOf : ByteArray := prog_13_method_29_code
def yX11_signOf : MethodName := ⟨RX11, "signOf", "(I)I"⟩
abbrev cX11_isBarred : ByteArray := prog_13_method_30_code
def yX11_isBarred : MethodName := ⟨RX11, "isBarred", "(I)Z"⟩
abbrev cX11_walksOf : ByteArray := prog_13_method_31_code
def yX11_walksOf : MethodName := ⟨RX11, "walksOf", "(I)I"⟩
abbrev cX11_spoilsOf : ByteArray := prog_13_method_32_code
def yX11_spoilsOf : MethodName := ⟨RX11, "spoilsOf", "(I)I"⟩
abbrev cX11_adds : ByteArray := prog_13_method_33_code
def yX11_adds : MethodName := ⟨RX11, "adds", "(II)I"⟩
abbrev cX11_person : ByteArray := prog_13_method_34_code
def yX11_person : MethodName := ⟨RX11, "person", "(II)I"⟩
abbrev cX11_of : ByteArray := prog_13_method_35_code
def yX11_of : MethodName := ⟨RX11, "of", "(II)I"⟩
abbrev cX11_set : ByteArray := prog_13_method_36_code
def yX11_set : MethodName := ⟨RX11, "set", "(III)I"⟩
abbrev cX11_turn : ByteArray := prog_13_method_37_code
def yX11_turn : MethodName := ⟨RX11, "turn", "(II)I"⟩
abbrev cX11_isUnder : ByteArray := prog_13_method_38_code
def yX11_isUnder : MethodName := ⟨RX11, "isUnder", "(II)Z"⟩
abbrev cX11_as : ByteArray := prog_13_method_39_code
def yX11_as : MethodName := ⟨RX11, "as", "(II)I"⟩
abbrev cX11_walks : ByteArray := prog_13_method_40_code
def yX11_walks : MethodName := ⟨RX11, "walks", "(I)V"⟩
abbrev cX11_minute : ByteArray := prog_13_method_41_code
def yX11_minute : MethodName := ⟨RX11, "minute", "()V"⟩
abbrev cX11_minutesGo : ByteArray := prog_13_method_42_code
def yX11_minutesGo : MethodName := ⟨RX11, "minutesGo", "(I)V"⟩
abbrev cX11_minutes : ByteArray := prog_13_method_43_code
def yX11_minutes : MethodName := ⟨RX11, "minutes", "(I)I"⟩
abbrev cX11_isAhead : ByteArray := prog_13_method_44_code
def yX11_isAhead : MethodName := ⟨RX11, "isAhead", "(I)Z"⟩
abbrev cX11_behind : ByteArray := prog_13_method_45_code
def yX11_behind : MethodName := ⟨RX11, "behind", "(II)I"⟩
abbrev cX11_on : ByteArray := prog_13_method_46_code
def yX11_on : MethodName := ⟨RX11, "on", "(III)I"⟩
abbrev cX11_harmony : ByteArray := prog_13_method_47_code
def yX11_harmony : MethodName := ⟨RX11, "harmony", "(I)I"⟩
abbrev cX11_toldAt : ByteArray := prog_13_method_48_code
def yX11_toldAt : MethodName := ⟨RX11, "toldAt", "(I)I"⟩
abbrev cX11_comes : ByteArray := prog_13_method_49_code
def yX11_comes : MethodName := ⟨RX11, "comes", "(II)I"⟩
abbrev cX11_plays : ByteArray := prog_13_method_50_code
def yX11_plays : MethodName := ⟨RX11, "plays", "(I)I"⟩
abbrev cX11_meet : ByteArray := prog_13_method_51_code
def yX11_meet : MethodName := ⟨RX11, "meet", "(II)I"⟩
abbrev cX11_isSoon : ByteArray := prog_13_method_52_code
def yX11_isSoon : MethodName := ⟨RX11, "isSoon", "(I)Z"⟩
abbrev cX11_mostBy : ByteArray := prog_13_method_53_code
def yX11_mostBy : MethodName := ⟨RX11, "mostBy", "(IIIII)I"⟩
abbrev cX11_begin : ByteArray := prog_13_method_54_code
def yX11_begin : MethodName := ⟨RX11, "begin", "(II)I"⟩
abbrev cX11_kind : ByteArray := prog_13_method_55_code
def yX11_kind : MethodName := ⟨RX11, "kind", "(II)I"⟩
abbrev cX11_quick : ByteArray := prog_13_method_56_code
def yX11_quick : MethodName := ⟨RX11, "quick", "(III)I"⟩
abbrev cX11_compose : ByteArray := prog_13_method_57_code
def yX11_compose : MethodName := ⟨RX11, "compose", "(II)I"⟩
abbrev cX11_deceive : ByteArray := prog_13_method_58_code
def yX11_deceive : MethodName := ⟨RX11, "deceive", "(II)I"⟩
abbrev cX11_worst : ByteArray := prog_13_method_59_code
def yX11_worst : MethodName := ⟨RX11, "worst", "(I)I"⟩
abbrev cX11_feed : ByteArray := prog_13_method_60_code
def yX11_feed : MethodName := ⟨RX11, "feed", "(II)I"⟩
abbrev cX11_wipe : ByteArray := prog_13_method_61_code
def yX11_wipe : MethodName := ⟨RX11, "wipe", "()I"⟩
abbrev cX11_byteAt : ByteArray := prog_13_method_62_code
def yX11_byteAt : MethodName := ⟨RX11, "byteAt", "(I)I"⟩
abbrev cX11_isLetter : ByteArray := prog_13_method_63_code
def yX11_isLetter : MethodName := ⟨RX11, "isLetter", "(I)Z"⟩
abbrev cX11_isDigit : ByteArray := prog_13_method_64_code
def yX11_isDigit : MethodName := ⟨RX11, "isDigit", "(I)Z"⟩
abbrev cX11_token : ByteArray := prog_13_method_65_code
def yX11_token : MethodName := ⟨RX11, "token", "()V"⟩
abbrev cX11_must : ByteArray := prog_13_method_66_code
def yX11_must : MethodName := ⟨RX11, "must", "(Z)V"⟩
abbrev cX11_word : ByteArray := prog_13_method_67_code
def yX11_word : MethodName := ⟨RX11, "word", "()J"⟩
abbrev cX11_number : ByteArray := prog_13_method_68_code
def yX11_number : MethodName := ⟨RX11, "number", "(II)V"⟩
abbrev cX11_kindHere : ByteArray := prog_13_method_69_code
def yX11_kindHere : MethodName := ⟨RX11, "kindHere", "()I"⟩
abbrev cX11_personItem : ByteArray := prog_13_method_70_code
def yX11_personItem : MethodName := ⟨RX11, "personItem", "(I)V"⟩
abbrev cX11_toldItem : ByteArray := prog_13_method_71_code
def yX11_toldItem : MethodName := ⟨RX11, "toldItem", "(III)V"⟩
abbrev cX11_item : ByteArray := prog_13_method_72_code
def yX11_item : MethodName := ⟨RX11, "item", "()V"⟩
abbrev cX11_interval : ByteArray := prog_13_method_73_code
def yX11_interval : MethodName := ⟨RX11, "interval", "()I"⟩
abbrev cX11_isOne : ByteArray := prog_13_method_74_code
def yX11_isOne : MethodName := ⟨RX11, "isOne", "(I)Z"⟩
abbrev cX11_sheet : ByteArray := prog_13_method_75_code
def yX11_sheet : MethodName := ⟨RX11, "sheet", "(III)I"⟩
abbrev cX11_narrowed : ByteArray := prog_13_method_76_code
def yX11_narrowed : MethodName := ⟨RX11, "narrowed", "(IJ)J"⟩
abbrev cX11_wrongSheet : ByteArray := prog_13_method_77_code
def yX11_wrongSheet : MethodName := ⟨RX11, "wrongSheet", "(I)I"⟩
abbrev cX11_write : ByteArray := prog_13_method_78_code
def yX11_write : MethodName := ⟨RX11, "write", "(IIJ)J"⟩
abbrev cX11_copy : ByteArray := prog_13_method_79_code
def yX11_copy : MethodName := ⟨RX11, "copy", "(IIIII)I"⟩
abbrev cX11_lays : ByteArray := prog_13_method_80_code
def yX11_lays : MethodName := ⟨RX11, "lays", "(I)I"⟩
abbrev cX11_book : ByteArray := prog_13_method_81_code
def yX11_book : MethodName := ⟨RX11, "book", "(II)I"⟩
abbrev cX11_isBook : ByteArray := prog_13_method_82_code
def yX11_isBook : MethodName := ⟨RX11, "isBook", "(II)Z"⟩
abbrev cX11_read : ByteArray := prog_13_method_83_code
def yX11_read : MethodName := ⟨RX11, "read", "(II)I"⟩
abbrev cX11_image : ByteArray := prog_13_method_84_code
def yX11_image : MethodName := ⟨RX11, "image", "()I"⟩
abbrev cX11_undo : ByteArray := prog_13_method_85_code
def yX11_undo : MethodName := ⟨RX11, "undo", "()I"⟩
abbrev cX11_tear : ByteArray := prog_13_method_86_code
def yX11_tear : MethodName := ⟨RX11, "tear", "()I"⟩
abbrev cX11_count : ByteArray := prog_13_method_87_code
def yX11_count : MethodName := ⟨RX11, "count", "(I)I"⟩
abbrev cX11_status : ByteArray := prog_13_method_88_code
def yX11_status : MethodName := ⟨RX11, "status", "(I)I"⟩
def RJx145de : String := "java/io/Serializable"
def TJx145de : u_T := fun k => match k with
  | _ => ("", "", "", false)
def tyJx145de : Nat → FieldType := fun k => match k with
  | _ => .int
theorem nmJx145de : ∀ a, a < 0 → ∀ b, b < 0 → a ≠ b → (TJx145de a).2.1 ≠ (TJx145de b).2.1 := by decide +kernel
theorem tyJx145de_ok : ∀ k, k < 0 → parseFieldDescriptor (TJx145de k).2.2.1 = some (tyJx145de k) := by decide +kernel
def RJx9f9b0 : String := "java/lang/CharSequence"
def TJx9f9b0 : u_T := fun k => match k with
  | _ => ("", "", "", false)
def tyJx9f9b0 : Nat → FieldType := fun k => match k with
  | _ => .int
theorem nmJx9f9b0 : ∀ a, a < 0 → ∀ b, b < 0 → a ≠ b → (TJx9f9b0 a).2.1 ≠ (TJx9f9b0 b).2.1 := by decide +kernel
theorem tyJx9f9b0_ok : ∀ k, k < 0 → parseFieldDescriptor (TJx9f9b0 k).2.2.1 = some (tyJx9f9b0 k) := by decide +kernel
def RJxb160c : String := "java/lang/Comparable"
def TJxb160c : u_T := fun k => match k with
  | _ => ("", "", "", false)
def tyJxb160c : Nat → FieldType := fun k => match k with
  | _ => .int
theorem nmJxb160c : ∀ a, a < 0 → ∀ b, b < 0 → a ≠ b → (TJxb160c a).2.1 ≠ (TJxb160c b).2.1 := by decide +kernel
theorem tyJxb160c_ok : ∀ k, k < 0 → parseFieldDescriptor (TJxb160c k).2.2.1 = some (tyJxb160c k) := by decide +kernel
def RJ9 : String := "java/lang/Math"
def TJ9 : u_T := fun k => match k with
  | _ => ("", "", "", false)
def tyJ9 : Nat → FieldType := fun k => match k with
  | _ => .int
theorem nmJ9 : ∀ a, a < 0 → ∀ b, b < 0 → a ≠ b → (TJ9 a).2.1 ≠ (TJ9 b).2.1 := by decide +kernel
theorem tyJ9_ok : ∀ k, k < 0 → parseFieldDescriptor (TJ9 k).2.2.1 = some (tyJ9 k) := by decide +kernel
abbrev cJ9_abs_0f7a4 : ByteArray := prog_14_method_59_code
def yJ9_abs_0f7a4 : MethodName := ⟨RJ9, "abs", "(I)I"⟩
abbrev cJ9_max_7cf53 : ByteArray := prog_14_method_65_code
def yJ9_max_7cf53 : MethodName := ⟨RJ9, "max", "(II)I"⟩
abbrev cJ9_min_7cf53 : ByteArray := prog_14_method_69_code
def yJ9_min_7cf53 : MethodName := ⟨RJ9, "min", "(II)I"⟩
def RJ0 : String := "java/lang/String"
def TJ0 : u_T := fun k => match k with
  | _ => ("", "", "", false)
def tyJ0 : Nat → FieldType := fun k => match k with
  | _ => .int
theorem nmJ0 : ∀ a, a < 0 → ∀ b, b < 0 → a ≠ b → (TJ0 a).2.1 ≠ (TJ0 b).2.1 := by decide +kernel
theorem tyJ0_ok : ∀ k, k < 0 → parseFieldDescriptor (TJ0 k).2.2.1 = some (tyJ0 k) := by decide +kernel
abbrev cJ0_length_8abf5 : ByteArray := prog_15_method_54_code
def yJ0_length_8abf5 : MethodName := ⟨RJ0, "length", "()I"⟩
abbrev cJ0_charAt_5068e : ByteArray := prog_15_method_56_code
def yJ0_charAt_5068e : MethodName := ⟨RJ0, "charAt", "(I)C"⟩
abbrev cJ0_coder_7d493 : ByteArray := prog_15_method_152_code
def yJ0_coder_7d493 : MethodName := ⟨RJ0, "coder", "()B"⟩
abbrev cJ0_isLatin1_aae02 : ByteArray := prog_15_method_154_code
def yJ0_isLatin1_aae02 : MethodName := ⟨RJ0, "isLatin1", "()Z"⟩
abbrev cJ0_checkIndex_df160 : ByteArray := prog_15_method_155_code
def yJ0_checkIndex_df160 : MethodName := ⟨RJ0, "checkIndex", "(II)V"⟩
def RJ1 : String := "java/lang/StringLatin1"
def TJ1 : u_T := fun k => match k with
  | _ => ("", "", "", false)
def tyJ1 : Nat → FieldType := fun k => match k with
  | _ => .int
theorem nmJ1 : ∀ a, a < 0 → ∀ b, b < 0 → a ≠ b → (TJ1 a).2.1 ≠ (TJ1 b).2.1 := by decide +kernel
theorem tyJ1_ok : ∀ k, k < 0 → parseFieldDescriptor (TJ1 k).2.2.1 = some (tyJ1 k) := by decide +kernel
abbrev cJ1_charAt_3b067 : ByteArray := prog_16_method_2_code
def yJ1_charAt_3b067 : MethodName := ⟨RJ1, "charAt", "([BI)C"⟩
def RJ2 : String := "java/lang/StringUTF16"
def TJ2 : u_T := fun k => match k with
  | _ => ("", "", "", false)
def tyJ2 : Nat → FieldType := fun k => match k with
  | _ => .int
theorem nmJ2 : ∀ a, a < 0 → ∀ b, b < 0 → a ≠ b → (TJ2 a).2.1 ≠ (TJ2 b).2.1 := by decide +kernel
theorem tyJ2_ok : ∀ k, k < 0 → parseFieldDescriptor (TJ2 k).2.2.1 = some (tyJ2 k) := by decide +kernel
abbrev cJ2_getChar_3b067 : ByteArray := prog_17_method_5_code
def yJ2_getChar_3b067 : MethodName := ⟨RJ2, "getChar", "([BI)C"⟩
abbrev cJ2_length_9d52b : ByteArray := prog_17_method_6_code
def yJ2_length_9d52b : MethodName := ⟨RJ2, "length", "([B)I"⟩
abbrev cJ2_charAt_3b067 : ByteArray := prog_17_method_83_code
def yJ2_charAt_3b067 : MethodName := ⟨RJ2, "charAt", "([BI)C"⟩
abbrev cJ2_checkIndex_2214a : ByteArray := prog_17_method_91_code
def yJ2_checkIndex_2214a : MethodName := ⟨RJ2, "checkIndex", "(I[B)V"⟩
def RJ10 : String := "java/lang/System"
def TJ10 : u_T := fun k => match k with
  | _ => ("", "", "", false)
def tyJ10 : Nat → FieldType := fun k => match k with
  | _ => .int
theorem nmJ10 : ∀ a, a < 0 → ∀ b, b < 0 → a ≠ b → (TJ10 a).2.1 ≠ (TJ10 b).2.1 := by decide +kernel
theorem tyJ10_ok : ∀ k, k < 0 → parseFieldDescriptor (TJ10 k).2.2.1 = some (tyJ10 k) := by decide +kernel
def RJxfd54e : String := "java/lang/constant/Constable"
def TJxfd54e : u_T := fun k => match k with
  | _ => ("", "", "", false)
def tyJxfd54e : Nat → FieldType := fun k => match k with
  | _ => .int
theorem nmJxfd54e : ∀ a, a < 0 → ∀ b, b < 0 → a ≠ b → (TJxfd54e a).2.1 ≠ (TJxfd54e b).2.1 := by decide +kernel
theorem tyJxfd54e_ok : ∀ k, k < 0 → parseFieldDescriptor (TJxfd54e k).2.2.1 = some (tyJxfd54e k) := by decide +kernel
def RJx3cf43 : String := "java/lang/constant/ConstantDesc"
def TJx3cf43 : u_T := fun k => match k with
  | _ => ("", "", "", false)
def tyJx3cf43 : Nat → FieldType := fun k => match k with
  | _ => .int
theorem nmJx3cf43 : ∀ a, a < 0 → ∀ b, b < 0 → a ≠ b → (TJx3cf43 a).2.1 ≠ (TJx3cf43 b).2.1 := by decide +kernel
theorem tyJx3cf43_ok : ∀ k, k < 0 → parseFieldDescriptor (TJx3cf43 k).2.2.1 = some (tyJx3cf43 k) := by decide +kernel
def RJ7 : String := "java/util/Arrays"
def TJ7 : u_T := fun k => match k with
  | _ => ("", "", "", false)
def tyJ7 : Nat → FieldType := fun k => match k with
  | _ => .int
theorem nmJ7 : ∀ a, a < 0 → ∀ b, b < 0 → a ≠ b → (TJ7 a).2.1 ≠ (TJ7 b).2.1 := by decide +kernel
theorem tyJ7_ok : ∀ k, k < 0 → parseFieldDescriptor (TJ7 k).2.2.1 = some (tyJ7 k) := by decide +kernel
abbrev cJ7_fill_d0a16 : ByteArray := prog_19_method_101_code
def yJ7_fill_d0a16 : MethodName := ⟨RJ7, "fill", "([JJ)V"⟩
def RJ3 : String := "jdk/internal/util/Preconditions"
def TJ3 : u_T := fun k => match k with
  | _ => ("", "", "", false)
def tyJ3 : Nat → FieldType := fun k => match k with
  | _ => .int
theorem nmJ3 : ∀ a, a < 0 → ∀ b, b < 0 → a ≠ b → (TJ3 a).2.1 ≠ (TJ3 b).2.1 := by decide +kernel
theorem tyJ3_ok : ∀ k, k < 0 → parseFieldDescriptor (TJ3 k).2.2.1 = some (tyJ3 k) := by decide +kernel
abbrev cJ3_checkIndex_8e157 : ByteArray := prog_20_method_11_code
def yJ3_checkIndex_8e157 : MethodName := ⟨RJ3, "checkIndex", "(IILjava/util/function/BiFunction;)I"⟩
def RL : String := "ComposedIntervalLaw"
abbrev cL_law : ByteArray := code
def yL_law : MethodName := ⟨RL, "law", "([I)Z"⟩
def wsL_law_r1 : List Cond := [Cond.classLink RL 7 RX10, Cond.instantiable RX10 7, Cond.initialized RX10, Cond.classLink RL 10 RX11, Cond.instantiable RX11 18, Cond.initialized RX11, Cond.constantLong RL 117 (4294967295), Cond.methodLink RL 9 yX10_init, Cond.instanceMethod yX10_init, Cond.code yX10_init cX10_init 3 none, Cond.methodLink RX10 1 objectInit, Cond.instanceMethod objectInit, Cond.code objectInit ⟨#[0xb1]⟩ 1 none, Cond.classLink RX10 7 RX9, Cond.instantiable RX9 6, Cond.initialized RX9, Cond.fieldLink RX10 10 "ComposedInterval" "tape" "LComposedInterval$Tape;", Cond.classLink RX10 16 RX7, Cond.fieldLink RX10 18 "ComposedInterval" "sheets" "[LComposedInterval$Sheet;", Cond.arrayClass .int, Cond.fieldLink RX10 22 "ComposedInterval" "told" "[I", Cond.fieldLink RX10 26 "ComposedInterval" "isKept" "Z", Cond.classLink RX10 30 RX0, Cond.instantiable RX0 6]
def wsL_law_r2 : List Cond := [Cond.initialized RX0, Cond.classLink RX10 33 RX3, Cond.instantiable RX3 15, Cond.initialized RX3, Cond.fieldLink RX10 38 "ComposedInterval" "present" "LComposedInterval$Foyer;", Cond.fieldLink RX10 42 "ComposedInterval" "trial" "LComposedInterval$Foyer;", Cond.fieldLink RX10 45 "ComposedInterval" "kept" "LComposedInterval$Foyer;", Cond.instantiable RX7 3, Cond.initialized RX7, Cond.instanceMethod yX9_init, Cond.code yX9_init cX9_init 1 none, Cond.methodLink RX9 3 objectInit, Cond.fieldLink RX9 9 "ComposedInterval$Tape" "bytes" "[I", Cond.fieldLink RX9 15 "ComposedInterval$Tape" "length" "I", Cond.fieldLink RX9 19 "ComposedInterval$Tape" "token" "I", Cond.fieldLink RX9 22 "ComposedInterval$Tape" "start" "I", Cond.fieldLink RX9 25 "ComposedInterval$Tape" "next" "I", Cond.fieldLink RX9 28 "ComposedInterval$Tape" "value" "I", Cond.instanceMethod yX0_init, Cond.code yX0_init cX0_init 1 none, Cond.methodLink RX0 1 objectInit, Cond.classLink RX0 7 RX4, Cond.instantiable RX4 0, Cond.initialized RX4]
def wsL_law_r3 : List Cond := [Cond.fieldLink RX0 10 "ComposedInterval$Cast" "guest" "LComposedInterval$Guest;", Cond.classLink RX0 16 RX2, Cond.instantiable RX2 0, Cond.initialized RX2, Cond.fieldLink RX0 19 "ComposedInterval$Cast" "enemy" "LComposedInterval$Guest;", Cond.classLink RX0 22 RX8, Cond.instantiable RX8 0, Cond.initialized RX8, Cond.fieldLink RX0 25 "ComposedInterval$Cast" "singer" "LComposedInterval$Guest;", Cond.classLink RX0 28 RX5, Cond.instantiable RX5 0, Cond.initialized RX5, Cond.fieldLink RX0 31 "ComposedInterval$Cast" "late" "LComposedInterval$Guest;", Cond.classLink RX0 34 RX1, Cond.instantiable RX1 0, Cond.initialized RX1, Cond.fieldLink RX0 37 "ComposedInterval$Cast" "diva" "LComposedInterval$Guest;", Cond.classLink RX0 40 RX6, Cond.instantiable RX6 0, Cond.initialized RX6, Cond.fieldLink RX0 43 "ComposedInterval$Cast" "rival" "LComposedInterval$Guest;", Cond.instanceMethod yX4_init, Cond.code yX4_init cX4_init 1 none, Cond.methodLink RX4 1 objectInit]
def wsL_law_r4 : List Cond := [Cond.instanceMethod yX2_init, Cond.code yX2_init cX2_init 1 none, Cond.instanceMethod yX8_init, Cond.code yX8_init cX8_init 1 none, Cond.instanceMethod yX5_init, Cond.code yX5_init cX5_init 1 none, Cond.instanceMethod yX1_init, Cond.code yX1_init cX1_init 1 none, Cond.instanceMethod yX6_init, Cond.code yX6_init cX6_init 1 none, Cond.instanceMethod yX3_init, Cond.code yX3_init cX3_init 3 none, Cond.methodLink RX3 3 objectInit, Cond.fieldLink RX3 9 "ComposedInterval$Foyer" "score" "[I", Cond.fieldLink RX3 15 "ComposedInterval$Foyer" "bells" "[I", Cond.fieldLink RX3 18 "ComposedInterval$Foyer" "kind" "[I", Cond.fieldLink RX3 21 "ComposedInterval$Foyer" "at" "[I", Cond.fieldLink RX3 24 "ComposedInterval$Foyer" "quick" "[I", Cond.fieldLink RX3 27 "ComposedInterval$Foyer" "played" "[I", Cond.fieldLink RX3 30 "ComposedInterval$Foyer" "spoilt" "[I", Cond.fieldLink RX3 33 "ComposedInterval$Foyer" "minute" "I", Cond.fieldLink RX3 37 "ComposedInterval$Foyer" "people" "I", Cond.fieldLink RX3 40 "ComposedInterval$Foyer" "quarter" "I", Cond.fieldLink RX3 43 "ComposedInterval$Foyer" "spot" "I"]
def wsL_law_r5 : List Cond := [Cond.fieldLink RX3 46 "ComposedInterval$Foyer" "ringing" "I", Cond.fieldLink RX3 49 "ComposedInterval$Foyer" "wasDue" "[I", Cond.fieldLink RX3 52 "ComposedInterval$Foyer" "inTime" "I", Cond.fieldLink RX3 55 "ComposedInterval$Foyer" "cast" "LComposedInterval$Cast;", Cond.instanceMethod yX7_init, Cond.code yX7_init cX7_init 1 none, Cond.methodLink RX7 3 objectInit, Cond.arrayClass .long, Cond.fieldLink RX7 9 "ComposedInterval$Sheet" "numbers" "[J", Cond.fieldLink RX7 15 "ComposedInterval$Sheet" "bits" "I", Cond.fieldLink RX7 19 "ComposedInterval$Sheet" "size" "I", Cond.methodLink RL 12 yX11_init, Cond.instanceMethod yX11_init, Cond.code yX11_init cX11_init 2 none, Cond.methodLink RX11 1 objectInit, Cond.fieldLink RX11 7 "ComposedIntervalModel" "s" "[I", Cond.fieldLink RX11 13 "ComposedIntervalModel" "keptS" "[I", Cond.fieldLink RX11 16 "ComposedIntervalModel" "other" "[I", Cond.fieldLink RX11 19 "ComposedIntervalModel" "aside" "[I", Cond.fieldLink RX11 22 "ComposedIntervalModel" "statuses" "[I", Cond.fieldLink RX11 25 "ComposedIntervalModel" "due" "[I", Cond.fieldLink RX11 28 "ComposedIntervalModel" "tape" "[I", Cond.fieldLink RX11 31 "ComposedIntervalModel" "bitsOf" "[I", Cond.fieldLink RX11 34 "ComposedIntervalModel" "sizeOf" "[I"]
def wsL_law_r6 : List Cond := [Cond.fieldLink RX11 37 "ComposedIntervalModel" "numbers" "[J", Cond.fieldLink RX11 41 "ComposedIntervalModel" "moved" "[J", Cond.methodLink RL 13 yX10_score, Cond.instanceMethod yX10_score, Cond.selects RX10 yX10_score yX10_score, Cond.code yX10_score cX10_score 4 (some .int), Cond.constant RX10 57 (-1000000001), Cond.methodLink RX10 49 yX10_isOutside, Cond.static yX10_isOutside, Cond.code yX10_isOutside cX10_isOutside 3 (some .boolean), Cond.methodLink RX10 53 yX10_isNoSpot, Cond.static yX10_isNoSpot, Cond.code yX10_isNoSpot cX10_isNoSpot 1 (some .boolean), Cond.methodLink RX10 58 yX10_tell, Cond.instanceMethod yX10_tell, Cond.selects RX10 yX10_tell yX10_tell, Cond.code yX10_tell cX10_tell 3 (some .int), Cond.methodLink RL 17 yX11_score, Cond.instanceMethod yX11_score, Cond.selects RX11 yX11_score yX11_score, Cond.code yX11_score cX11_score 3 (some .int), Cond.constant RX11 44 (-1000000001), Cond.methodLink RX11 66 yX11_isQuarter, Cond.static yX11_isQuarter]
def wsL_law_r7 : List Cond := [Cond.code yX11_isQuarter cX11_isQuarter 1 (some .boolean), Cond.constantLong RX11 55 (5), Cond.methodLink RX11 49 yX11_in, Cond.static yX11_in, Cond.code yX11_in cX11_in 6 (some .boolean), Cond.methodLink RX11 70 yX11_isSpot, Cond.static yX11_isSpot, Cond.code yX11_isSpot cX11_isSpot 1 (some .boolean), Cond.constantLong RX11 53 (11), Cond.methodLink RX11 73 yX11_becomes, Cond.instanceMethod yX11_becomes, Cond.selects RX11 yX11_becomes yX11_becomes, Cond.code yX11_becomes cX11_becomes 4 (some .int), Cond.methodLink RX11 76 yX11_finds, Cond.instanceMethod yX11_finds, Cond.selects RX11 yX11_finds yX11_finds, Cond.code yX11_finds cX11_finds 2 (some .int), Cond.methodLink RL 18 yX10_bell, Cond.instanceMethod yX10_bell, Cond.selects RX10 yX10_bell yX10_bell, Cond.code yX10_bell cX10_bell 4 (some .int), Cond.methodLink RL 21 yX11_bell, Cond.instanceMethod yX11_bell, Cond.selects RX11 yX11_bell yX11_bell]
def wsL_law_r8 : List Cond := [Cond.code yX11_bell cX11_bell 3 (some .int), Cond.constantLong RX11 82 (47), Cond.methodLink RX11 79 yX11_isBell, Cond.static yX11_isBell, Cond.code yX11_isBell cX11_isBell 1 (some .boolean), Cond.constantLong RX11 57 (2), Cond.methodLink RL 22 yX10_now, Cond.instanceMethod yX10_now, Cond.selects RX10 yX10_now yX10_now, Cond.code yX10_now cX10_now 2 (some .int), Cond.constant RX10 88 (100000), Cond.instanceMethod yX3_look, Cond.selects RX3 yX3_look yX3_look, Cond.code yX3_look cX3_look 3 none, Cond.instanceMethod yX3_whoIsDueHere, Cond.selects RX3 yX3_whoIsDueHere yX3_whoIsDueHere, Cond.code yX3_whoIsDueHere cX3_whoIsDueHere 3 (some .int), Cond.methodLink RX3 90 yX3_dueOf, Cond.instanceMethod yX3_dueOf, Cond.selects RX3 yX3_dueOf yX3_dueOf, Cond.code yX3_dueOf cX3_dueOf 3 (some .int), Cond.methodLink RX3 71 yX3_guest, Cond.instanceMethod yX3_guest, Cond.selects RX3 yX3_guest yX3_guest]
def wsL_law_r9 : List Cond := [Cond.code yX3_guest cX3_guest 2 (some (.object "ComposedInterval$Guest")), Cond.instanceMethod yX0_numbered, Cond.selects RX0 yX0_numbered yX0_numbered, Cond.code yX0_numbered cX0_numbered 2 (some (.object "ComposedInterval$Guest")), Cond.methodLink RX3 74 ⟨"ComposedInterval$Guest", "hears", "(LComposedInterval$Foyer;I)Z"⟩, Cond.sameMethod "ComposedInterval$Guest" "ComposedInterval$Guest" "hears" "(LComposedInterval$Foyer;I)Z", Cond.instanceMethod ⟨"ComposedInterval$Guest", "hears", "(LComposedInterval$Foyer;I)Z"⟩, Cond.selects RX1 ⟨"ComposedInterval$Guest", "hears", "(LComposedInterval$Foyer;I)Z"⟩ yX1_hears, Cond.instanceMethod yX1_hears, Cond.code yX1_hears cX1_hears 3 (some .boolean), Cond.code yX4_hears cX4_hears 3 (some .boolean), Cond.selects RX2 ⟨"ComposedInterval$Guest", "hears", "(LComposedInterval$Foyer;I)Z"⟩ yX4_hears, Cond.instanceMethod yX4_hears, Cond.methodLink RX3 74 yX4_hears, Cond.selects RX4 yX4_hears yX4_hears, Cond.selects RX5 ⟨"ComposedInterval$Guest", "hears", "(LComposedInterval$Foyer;I)Z"⟩ yX5_hears, Cond.instanceMethod yX5_hears, Cond.code yX5_hears cX5_hears 3 (some .boolean), Cond.selects RX6 ⟨"ComposedInterval$Guest", "hears", "(LComposedInterval$Foyer;I)Z"⟩ yX6_hears, Cond.instanceMethod yX6_hears, Cond.code yX6_hears cX6_hears 3 (some .boolean), Cond.selects RX8 ⟨"ComposedInterval$Guest", "hears", "(LComposedInterval$Foyer;I)Z"⟩ yX8_hears, Cond.instanceMethod yX8_hears, Cond.code yX8_hears cX8_hears 3 (some .boolean)]
def wsL_law_r10 : List Cond := [Cond.methodLink RX3 80 ⟨"ComposedInterval$Guest", "due", "(LComposedInterval$Foyer;I)I"⟩, Cond.sameMethod "ComposedInterval$Guest" "ComposedInterval$Guest" "due" "(LComposedInterval$Foyer;I)I", Cond.instanceMethod ⟨"ComposedInterval$Guest", "due", "(LComposedInterval$Foyer;I)I"⟩, Cond.selects RX1 ⟨"ComposedInterval$Guest", "due", "(LComposedInterval$Foyer;I)I"⟩ yX1_due, Cond.instanceMethod yX1_due, Cond.code yX1_due cX1_due 4 (some .int), Cond.methodLink RX1 15 yX8_due, Cond.sameMethod "ComposedInterval$Singer" "ComposedInterval$Singer" "due" "(LComposedInterval$Foyer;I)I", Cond.superclass RX1 RX8, Cond.instanceMethod yX8_due, Cond.code yX8_due cX8_due 3 (some .int), Cond.methodLink RX8 15 yX4_due, Cond.superclass RX8 RX4, Cond.instanceMethod yX4_due, Cond.code yX4_due cX4_due 3 (some .int), Cond.selects RX2 ⟨"ComposedInterval$Guest", "due", "(LComposedInterval$Foyer;I)I"⟩ yX2_due, Cond.instanceMethod yX2_due, Cond.code yX2_due cX2_due 3 (some .int), Cond.methodLink RX3 80 yX4_due, Cond.selects RX4 yX4_due yX4_due, Cond.selects RX5 ⟨"ComposedInterval$Guest", "due", "(LComposedInterval$Foyer;I)I"⟩ yX5_due, Cond.instanceMethod yX5_due, Cond.code yX5_due cX5_due 3 (some .int), Cond.selects RX6 ⟨"ComposedInterval$Guest", "due", "(LComposedInterval$Foyer;I)I"⟩ yX6_due]
def wsL_law_r11 : List Cond := [Cond.instanceMethod yX6_due, Cond.code yX6_due cX6_due 3 (some .int), Cond.methodLink RX6 11 Lib.Math.max.name, Cond.static Lib.Math.max.name, Cond.initialized "java/lang/Math", Cond.code Lib.Math.max.name Lib.Math.max.code 2 (some .int), Cond.methodLink RX6 7 yX2_due, Cond.sameMethod "ComposedInterval$Enemy" "ComposedInterval$Enemy" "due" "(LComposedInterval$Foyer;I)I", Cond.superclass RX6 RX2, Cond.selects RX8 ⟨"ComposedInterval$Guest", "due", "(LComposedInterval$Foyer;I)I"⟩ yX8_due, Cond.instanceMethod yX3_sumHarmony, Cond.selects RX3 yX3_sumHarmony yX3_sumHarmony, Cond.code yX3_sumHarmony cX3_sumHarmony 1 (some .int), Cond.methodLink RX3 114 yX3_sumOf, Cond.instanceMethod yX3_sumOf, Cond.selects RX3 yX3_sumOf yX3_sumOf, Cond.code yX3_sumOf cX3_sumOf 4 (some .int), Cond.methodLink RL 26 yX11_now, Cond.instanceMethod yX11_now, Cond.selects RX11 yX11_now yX11_now, Cond.code yX11_now cX11_now 2 (some .int), Cond.constant RX11 97 (100000), Cond.methodLink RX11 87 yX11_quarter, Cond.instanceMethod yX11_quarter]
def wsL_law_r12 : List Cond := [Cond.selects RX11 yX11_quarter yX11_quarter, Cond.code yX11_quarter cX11_quarter 1 (some .int), Cond.methodLink RX11 91 yX11_ringing, Cond.instanceMethod yX11_ringing, Cond.selects RX11 yX11_ringing yX11_ringing, Cond.code yX11_ringing cX11_ringing 3 (some .int), Cond.methodLink RX11 94 yX11_dueOnes, Cond.instanceMethod yX11_dueOnes, Cond.selects RX11 yX11_dueOnes yX11_dueOnes, Cond.code yX11_dueOnes cX11_dueOnes 3 (some .int), Cond.methodLink RX11 59 yX11_its, Cond.instanceMethod yX11_its, Cond.selects RX11 yX11_its yX11_its, Cond.code yX11_its cX11_its 3 (some .int), Cond.methodLink RX11 45 yX11_spot, Cond.static yX11_spot, Cond.code yX11_spot cX11_spot 2 (some .int), Cond.methodLink RX11 84 yX11_dueOf, Cond.instanceMethod yX11_dueOf, Cond.selects RX11 yX11_dueOf yX11_dueOf, Cond.code yX11_dueOf cX11_dueOf 2 (some .int), Cond.methodLink RX11 104 yX11_isHearing, Cond.instanceMethod yX11_isHearing, Cond.selects RX11 yX11_isHearing yX11_isHearing]
def wsL_law_r13 : List Cond := [Cond.code yX11_isHearing cX11_isHearing 4 (some .boolean), Cond.methodLink RX11 107 yX11_writtenFor, Cond.instanceMethod yX11_writtenFor, Cond.selects RX11 yX11_writtenFor yX11_writtenFor, Cond.code yX11_writtenFor cX11_writtenFor 6 (some .int), Cond.methodLink RX11 98 yX11_harmonyNow, Cond.instanceMethod yX11_harmonyNow, Cond.selects RX11 yX11_harmonyNow yX11_harmonyNow, Cond.code yX11_harmonyNow cX11_harmonyNow 1 (some .int), Cond.methodLink RX11 62 yX11_together, Cond.instanceMethod yX11_together, Cond.selects RX11 yX11_together yX11_together, Cond.code yX11_together cX11_together 4 (some .int), Cond.methodLink RL 27 yX10_who, Cond.instanceMethod yX10_who, Cond.selects RX10 yX10_who yX10_who, Cond.code yX10_who cX10_who 2 (some .int), Cond.instanceMethod yX3_whoIsAt, Cond.selects RX3 yX3_whoIsAt yX3_whoIsAt, Cond.code yX3_whoIsAt cX3_whoIsAt 4 (some .int), Cond.methodLink RL 30 yX11_who, Cond.instanceMethod yX11_who, Cond.selects RX11 yX11_who yX11_who, Cond.code yX11_who cX11_who 2 (some .int)]
def wsL_law_r14 : List Cond := [Cond.methodLink RX11 101 yX11_whoAt, Cond.instanceMethod yX11_whoAt, Cond.selects RX11 yX11_whoAt yX11_whoAt, Cond.code yX11_whoAt cX11_whoAt 4 (some .int), Cond.methodLink RL 31 yX10_person, Cond.instanceMethod yX10_person, Cond.selects RX10 yX10_person yX10_person, Cond.code yX10_person cX10_person 3 (some .int), Cond.constant RX10 101 (-1000000002), Cond.methodLink RX10 95 yX10_isNoKind, Cond.static yX10_isNoKind, Cond.code yX10_isNoKind cX10_isNoKind 1 (some .boolean), Cond.instanceMethod yX3_admit, Cond.selects RX3 yX3_admit yX3_admit, Cond.code yX3_admit cX3_admit 4 none, Cond.methodLink RL 34 yX11_person, Cond.instanceMethod yX11_person, Cond.selects RX11 yX11_person yX11_person, Cond.code yX11_person cX11_person 3 (some .int), Cond.constant RX11 119 (-1000000002), Cond.methodLink RX11 116 yX11_isKind, Cond.static yX11_isKind, Cond.code yX11_isKind cX11_isKind 1 (some .boolean), Cond.methodLink RX11 120 yX11_adds]
def wsL_law_r15 : List Cond := [Cond.instanceMethod yX11_adds, Cond.selects RX11 yX11_adds yX11_adds, Cond.code yX11_adds cX11_adds 4 (some .int), Cond.methodLink RL 35 yX10_of, Cond.instanceMethod yX10_of, Cond.selects RX10 yX10_of yX10_of, Cond.code yX10_of cX10_of 3 (some .int), Cond.methodLink RX10 106 yX10_isNobody, Cond.instanceMethod yX10_isNobody, Cond.selects RX10 yX10_isNobody yX10_isNobody, Cond.code yX10_isNobody cX10_isNobody 2 (some .boolean), Cond.instanceMethod yX3_isDeceived, Cond.selects RX3 yX3_isDeceived yX3_isDeceived, Cond.code yX3_isDeceived cX3_isDeceived 2 (some .boolean), Cond.methodLink RX10 134 ⟨"ComposedInterval$Guest", "walks", "(LComposedInterval$Foyer;II)I"⟩, Cond.sameMethod "ComposedInterval$Guest" "ComposedInterval$Guest" "walks" "(LComposedInterval$Foyer;II)I", Cond.instanceMethod ⟨"ComposedInterval$Guest", "walks", "(LComposedInterval$Foyer;II)I"⟩, Cond.selects RX1 ⟨"ComposedInterval$Guest", "walks", "(LComposedInterval$Foyer;II)I"⟩ yX1_walks, Cond.instanceMethod yX1_walks, Cond.code yX1_walks cX1_walks 4 (some .int), Cond.methodLink RX1 19 yX8_walks, Cond.sameMethod "ComposedInterval$Singer" "ComposedInterval$Singer" "walks" "(LComposedInterval$Foyer;II)I", Cond.instanceMethod yX8_walks, Cond.code yX8_walks cX8_walks 4 (some .int)]
def wsL_law_r16 : List Cond := [Cond.code yX4_walks cX4_walks 4 (some .int), Cond.selects RX2 ⟨"ComposedInterval$Guest", "walks", "(LComposedInterval$Foyer;II)I"⟩ yX2_walks, Cond.instanceMethod yX2_walks, Cond.code yX2_walks cX2_walks 4 (some .int), Cond.instanceMethod yX3_isBarred, Cond.selects RX3 yX3_isBarred yX3_isBarred, Cond.code yX3_isBarred cX3_isBarred 5 (some .boolean), Cond.methodLink RX2 19 yX4_walks, Cond.superclass RX2 RX4, Cond.instanceMethod yX4_walks, Cond.methodLink RX10 134 yX4_walks, Cond.selects RX4 yX4_walks yX4_walks, Cond.selects RX5 ⟨"ComposedInterval$Guest", "walks", "(LComposedInterval$Foyer;II)I"⟩ yX5_walks, Cond.instanceMethod yX5_walks, Cond.code yX5_walks cX5_walks 4 (some .int), Cond.methodLink RX5 15 yX4_walks, Cond.superclass RX5 RX4, Cond.selects RX6 ⟨"ComposedInterval$Guest", "walks", "(LComposedInterval$Foyer;II)I"⟩ yX2_walks, Cond.selects RX8 ⟨"ComposedInterval$Guest", "walks", "(LComposedInterval$Foyer;II)I"⟩ yX8_walks, Cond.methodLink RX10 140 ⟨"ComposedInterval$Guest", "spoils", "()I"⟩, Cond.sameMethod "ComposedInterval$Guest" "ComposedInterval$Guest" "spoils" "()I", Cond.instanceMethod ⟨"ComposedInterval$Guest", "spoils", "()I"⟩, Cond.selects RX1 ⟨"ComposedInterval$Guest", "spoils", "()I"⟩ yX1_spoils, Cond.instanceMethod yX1_spoils]
def wsL_law_r17 : List Cond := [Cond.code yX1_spoils cX1_spoils 1 (some .int), Cond.methodLink RX1 27 yX8_spoils, Cond.sameMethod "ComposedInterval$Singer" "ComposedInterval$Singer" "spoils" "()I", Cond.instanceMethod yX8_spoils, Cond.code yX8_spoils cX8_spoils 1 (some .int), Cond.code yX4_spoils cX4_spoils 1 (some .int), Cond.selects RX2 ⟨"ComposedInterval$Guest", "spoils", "()I"⟩ yX2_spoils, Cond.instanceMethod yX2_spoils, Cond.code yX2_spoils cX2_spoils 1 (some .int), Cond.methodLink RX2 23 yX4_spoils, Cond.instanceMethod yX4_spoils, Cond.methodLink RX10 140 yX4_spoils, Cond.selects RX4 yX4_spoils yX4_spoils, Cond.selects RX5 ⟨"ComposedInterval$Guest", "spoils", "()I"⟩ yX5_spoils, Cond.instanceMethod yX5_spoils, Cond.code yX5_spoils cX5_spoils 1 (some .int), Cond.selects RX6 ⟨"ComposedInterval$Guest", "spoils", "()I"⟩ yX6_spoils, Cond.instanceMethod yX6_spoils, Cond.code yX6_spoils cX6_spoils 1 (some .int), Cond.methodLink RX6 27 yX2_spoils, Cond.sameMethod "ComposedInterval$Enemy" "ComposedInterval$Enemy" "spoils" "()I", Cond.selects RX8 ⟨"ComposedInterval$Guest", "spoils", "()I"⟩ yX8_spoils, Cond.methodLink RL 38 yX11_of, Cond.instanceMethod yX11_of]
def wsL_law_r18 : List Cond := [Cond.selects RX11 yX11_of yX11_of, Cond.code yX11_of cX11_of 3 (some .int), Cond.constantLong RX11 126 (8), Cond.methodLink RX11 123 yX11_isPerson, Cond.instanceMethod yX11_isPerson, Cond.selects RX11 yX11_isPerson yX11_isPerson, Cond.code yX11_isPerson cX11_isPerson 2 (some .boolean), Cond.methodLink RX11 128 yX11_walksOf, Cond.instanceMethod yX11_walksOf, Cond.selects RX11 yX11_walksOf yX11_walksOf, Cond.code yX11_walksOf cX11_walksOf 3 (some .int), Cond.methodLink RX11 113 yX11_isBarred, Cond.instanceMethod yX11_isBarred, Cond.selects RX11 yX11_isBarred yX11_isBarred, Cond.code yX11_isBarred cX11_isBarred 4 (some .boolean), Cond.methodLink RX11 110 yX11_signOf, Cond.static yX11_signOf, Cond.code yX11_signOf cX11_signOf 1 (some .int), Cond.methodLink RX11 131 yX11_spoilsOf, Cond.instanceMethod yX11_spoilsOf, Cond.selects RX11 yX11_spoilsOf yX11_spoilsOf, Cond.code yX11_spoilsOf cX11_spoilsOf 2 (some .int), Cond.methodLink RL 39 yX10_set, Cond.instanceMethod yX10_set]
def wsL_law_r19 : List Cond := [Cond.selects RX10 yX10_set yX10_set, Cond.code yX10_set cX10_set 4 (some .int), Cond.methodLink RX10 143 yX10_exchange, Cond.static yX10_exchange, Cond.code yX10_exchange cX10_exchange 4 (some .int), Cond.methodLink RL 43 yX11_set, Cond.instanceMethod yX11_set, Cond.selects RX11 yX11_set yX11_set, Cond.code yX11_set cX11_set 5 (some .int), Cond.constantLong RX11 134 (4), Cond.constantLong RX11 136 (9999), Cond.methodLink RL 44 yX10_turn, Cond.instanceMethod yX10_turn, Cond.selects RX10 yX10_turn yX10_turn, Cond.code yX10_turn cX10_turn 3 (some .int), Cond.methodLink RL 47 yX11_turn, Cond.instanceMethod yX11_turn, Cond.selects RX11 yX11_turn yX11_turn, Cond.code yX11_turn cX11_turn 3 (some .int), Cond.methodLink RL 48 yX10_as, Cond.instanceMethod yX10_as, Cond.selects RX10 yX10_as yX10_as, Cond.code yX10_as cX10_as 3 (some .int), Cond.constant RX10 151 (-1000000003)]
def wsL_law_r20 : List Cond := [Cond.methodLink RX10 147 yX10_isOfKind, Cond.static yX10_isOfKind, Cond.code yX10_isOfKind cX10_isOfKind 4 (some .boolean), Cond.fieldLink RX10 232 "ComposedInterval" "ABOVE" "[I", Cond.methodLink RL 51 yX11_as, Cond.instanceMethod yX11_as, Cond.selects RX11 yX11_as yX11_as, Cond.code yX11_as cX11_as 3 (some .int), Cond.constant RX11 142 (-1000000003), Cond.methodLink RX11 138 yX11_isUnder, Cond.static yX11_isUnder, Cond.code yX11_isUnder cX11_isUnder 2 (some .boolean), Cond.methodLink RL 52 yX10_minutes, Cond.instanceMethod yX10_minutes, Cond.selects RX10 yX10_minutes yX10_minutes, Cond.code yX10_minutes cX10_minutes 2 (some .int), Cond.constant RX10 152 (99999), Cond.constant RX10 153 (-1000000005), Cond.instanceMethod yX3_go, Cond.selects RX3 yX3_go yX3_go, Cond.code yX3_go cX3_go 3 none, Cond.methodLink RX3 84 yX3_passMinute, Cond.instanceMethod yX3_passMinute, Cond.selects RX3 yX3_passMinute yX3_passMinute]
def wsL_law_r21 : List Cond := [Cond.code yX3_passMinute cX3_passMinute 5 none, Cond.methodLink RX3 98 Lib.Math.abs.name, Cond.static Lib.Math.abs.name, Cond.code Lib.Math.abs.name Lib.Math.abs.code 1 (some .int), Cond.methodLink RX3 103 Lib.Math.min.name, Cond.static Lib.Math.min.name, Cond.code Lib.Math.min.name Lib.Math.min.code 2 (some .int), Cond.methodLink RX3 87 yX3_look, Cond.methodLink RX3 94 ⟨"ComposedInterval$Guest", "walks", "(LComposedInterval$Foyer;II)I"⟩, Cond.methodLink RX3 94 yX4_walks, Cond.methodLink RX3 107 yX3_markMinute, Cond.instanceMethod yX3_markMinute, Cond.selects RX3 yX3_markMinute yX3_markMinute, Cond.code yX3_markMinute cX3_markMinute 2 none, Cond.methodLink RX3 110 ⟨"ComposedInterval$Guest", "spoils", "()I"⟩, Cond.methodLink RX3 110 yX4_spoils, Cond.methodLink RL 55 yX11_minutes, Cond.instanceMethod yX11_minutes, Cond.selects RX11 yX11_minutes yX11_minutes, Cond.code yX11_minutes cX11_minutes 2 (some .int), Cond.constantLong RX11 154 (200), Cond.constant RX11 156 (99999), Cond.constant RX11 157 (-1000000005), Cond.fieldLink RX11 147 "ComposedIntervalModel" "inTime" "I"]
def wsL_law_r22 : List Cond := [Cond.methodLink RX11 158 yX11_minutesGo, Cond.instanceMethod yX11_minutesGo, Cond.selects RX11 yX11_minutesGo yX11_minutesGo, Cond.code yX11_minutesGo cX11_minutesGo 3 none, Cond.methodLink RX11 151 yX11_minute, Cond.instanceMethod yX11_minute, Cond.selects RX11 yX11_minute yX11_minute, Cond.code yX11_minute cX11_minute 5 none, Cond.methodLink RX11 143 yX11_walks, Cond.instanceMethod yX11_walks, Cond.selects RX11 yX11_walks yX11_walks, Cond.code yX11_walks cX11_walks 6 none, Cond.methodLink RL 56 yX10_on, Cond.instanceMethod yX10_on, Cond.selects RX10 yX10_on yX10_on, Cond.code yX10_on cX10_on 4 (some .int), Cond.instanceMethod yX3_become, Cond.selects RX3 yX3_become yX3_become, Cond.code yX3_become cX3_become 2 none, Cond.methodLink RX3 59 arraycopyName, Cond.native arraycopyName, Cond.static arraycopyName, Cond.initialized "java/lang/System", Cond.methodLink RL 59 yX11_on]
def wsL_law_r23 : List Cond := [Cond.instanceMethod yX11_on, Cond.selects RX11 yX11_on yX11_on, Cond.code yX11_on cX11_on 4 (some .int), Cond.methodLink RX11 169 yX11_isAhead, Cond.static yX11_isAhead, Cond.code yX11_isAhead cX11_isAhead 1 (some .boolean), Cond.constantLong RX11 161 (300), Cond.methodLink RX11 172 yX11_behind, Cond.instanceMethod yX11_behind, Cond.selects RX11 yX11_behind yX11_behind, Cond.code yX11_behind cX11_behind 3 (some .int), Cond.methodLink RX11 163 yX11_laysAside, Cond.instanceMethod yX11_laysAside, Cond.selects RX11 yX11_laysAside yX11_laysAside, Cond.code yX11_laysAside cX11_laysAside 2 none, Cond.methodLink RX11 166 yX11_takesBack, Cond.instanceMethod yX11_takesBack, Cond.selects RX11 yX11_takesBack yX11_takesBack, Cond.code yX11_takesBack cX11_takesBack 3 (some .int), Cond.methodLink RL 60 yX10_harmony, Cond.instanceMethod yX10_harmony, Cond.selects RX10 yX10_harmony yX10_harmony, Cond.code yX10_harmony cX10_harmony 2 (some .int), Cond.methodLink RL 63 yX11_harmony]
def wsL_law_r24 : List Cond := [Cond.instanceMethod yX11_harmony, Cond.selects RX11 yX11_harmony yX11_harmony, Cond.code yX11_harmony cX11_harmony 2 (some .int), Cond.methodLink RL 64 yX10_comes, Cond.instanceMethod yX10_comes, Cond.selects RX10 yX10_comes yX10_comes, Cond.code yX10_comes cX10_comes 4 (some .int), Cond.constant RX10 168 (-1000000004), Cond.methodLink RL 67 yX11_comes, Cond.instanceMethod yX11_comes, Cond.selects RX11 yX11_comes yX11_comes, Cond.code yX11_comes cX11_comes 4 (some .int), Cond.methodLink RX11 176 yX11_toldAt, Cond.instanceMethod yX11_toldAt, Cond.selects RX11 yX11_toldAt yX11_toldAt, Cond.code yX11_toldAt cX11_toldAt 3 (some .int), Cond.constant RX11 175 (-1000000004), Cond.methodLink RL 68 yX10_plays, Cond.instanceMethod yX10_plays, Cond.selects RX10 yX10_plays yX10_plays, Cond.code yX10_plays cX10_plays 3 (some .int), Cond.methodLink RL 71 yX11_plays, Cond.instanceMethod yX11_plays, Cond.selects RX11 yX11_plays yX11_plays]
def wsL_law_r25 : List Cond := [Cond.code yX11_plays cX11_plays 4 (some .int), Cond.methodLink RL 72 yX10_meet, Cond.instanceMethod yX10_meet, Cond.selects RX10 yX10_meet yX10_meet, Cond.code yX10_meet cX10_meet 4 (some .int), Cond.methodLink RL 75 yX11_meet, Cond.instanceMethod yX11_meet, Cond.selects RX11 yX11_meet yX11_meet, Cond.code yX11_meet cX11_meet 4 (some .int), Cond.methodLink RL 76 yX10_begin, Cond.instanceMethod yX10_begin, Cond.selects RX10 yX10_begin yX10_begin, Cond.code yX10_begin cX10_begin 3 (some .int), Cond.methodLink RX10 169 yX10_bestPlayed, Cond.instanceMethod yX10_bestPlayed, Cond.selects RX10 yX10_bestPlayed yX10_bestPlayed, Cond.code yX10_bestPlayed cX10_bestPlayed 8 (some .int), Cond.methodLink RL 79 yX11_begin, Cond.instanceMethod yX11_begin, Cond.selects RX11 yX11_begin yX11_begin, Cond.code yX11_begin cX11_begin 3 (some .int), Cond.methodLink RX11 182 yX11_isSoon, Cond.static yX11_isSoon, Cond.code yX11_isSoon cX11_isSoon 1 (some .boolean)]
def wsL_law_r26 : List Cond := [Cond.constantLong RX11 179 (100), Cond.methodLink RX11 185 yX11_mostBy, Cond.instanceMethod yX11_mostBy, Cond.selects RX11 yX11_mostBy yX11_mostBy, Cond.code yX11_mostBy cX11_mostBy 11 (some .int), Cond.constant RX11 181 (-999999), Cond.methodLink RL 80 yX10_kind, Cond.instanceMethod yX10_kind, Cond.selects RX10 yX10_kind yX10_kind, Cond.code yX10_kind cX10_kind 3 (some .int), Cond.methodLink RL 83 yX11_kind, Cond.instanceMethod yX11_kind, Cond.selects RX11 yX11_kind yX11_kind, Cond.code yX11_kind cX11_kind 3 (some .int), Cond.methodLink RL 84 yX10_quick, Cond.instanceMethod yX10_quick, Cond.selects RX10 yX10_quick yX10_quick, Cond.code yX10_quick cX10_quick 5 (some .int), Cond.methodLink RL 87 yX11_quick, Cond.instanceMethod yX11_quick, Cond.selects RX11 yX11_quick yX11_quick, Cond.code yX11_quick cX11_quick 8 (some .int), Cond.methodLink RL 88 yX10_compose, Cond.instanceMethod yX10_compose]
def wsL_law_r27 : List Cond := [Cond.selects RX10 yX10_compose yX10_compose, Cond.code yX10_compose cX10_compose 7 (some .int), Cond.methodLink RL 91 yX11_compose, Cond.instanceMethod yX11_compose, Cond.selects RX11 yX11_compose yX11_compose, Cond.code yX11_compose cX11_compose 3 (some .int), Cond.methodLink RL 92 yX10_deceive, Cond.instanceMethod yX10_deceive, Cond.selects RX10 yX10_deceive yX10_deceive, Cond.code yX10_deceive cX10_deceive 7 (some .int), Cond.methodLink RL 95 yX11_deceive, Cond.instanceMethod yX11_deceive, Cond.selects RX11 yX11_deceive yX11_deceive, Cond.code yX11_deceive cX11_deceive 3 (some .int), Cond.constantLong RX11 189 (60), Cond.methodLink RL 96 yX10_worst, Cond.instanceMethod yX10_worst, Cond.selects RX10 yX10_worst yX10_worst, Cond.code yX10_worst cX10_worst 4 (some .int), Cond.methodLink RL 99 yX11_worst, Cond.instanceMethod yX11_worst, Cond.selects RX11 yX11_worst yX11_worst, Cond.code yX11_worst cX11_worst 4 (some .int), Cond.methodLink RL 100 yX10_feed]
def wsL_law_r28 : List Cond := [Cond.instanceMethod yX10_feed, Cond.selects RX10 yX10_feed yX10_feed, Cond.code yX10_feed cX10_feed 4 (some .int), Cond.instanceMethod yX9_append, Cond.selects RX9 yX9_append yX9_append, Cond.code yX9_append cX9_append 2 none, Cond.methodLink RL 103 yX11_feed, Cond.instanceMethod yX11_feed, Cond.selects RX11 yX11_feed yX11_feed, Cond.code yX11_feed cX11_feed 4 (some .int), Cond.fieldLink RX11 191 "ComposedIntervalModel" "taped" "I", Cond.methodLink RL 104 yX10_wipe, Cond.instanceMethod yX10_wipe, Cond.selects RX10 yX10_wipe yX10_wipe, Cond.code yX10_wipe cX10_wipe 2 (some .int), Cond.methodLink RL 108 yX11_wipe, Cond.instanceMethod yX11_wipe, Cond.selects RX11 yX11_wipe yX11_wipe, Cond.code yX11_wipe cX11_wipe 2 (some .int), Cond.methodLink RL 109 yX10_interval, Cond.instanceMethod yX10_interval, Cond.selects RX10 yX10_interval yX10_interval, Cond.code yX10_interval cX10_interval 2 (some .int), Cond.instanceMethod yX9_perform]
def wsL_law_r29 : List Cond := [Cond.selects RX9 yX9_perform yX9_perform, Cond.code yX9_perform cX9_perform 3 (some .int), Cond.methodLink RX9 31 yX9_advance, Cond.instanceMethod yX9_advance, Cond.selects RX9 yX9_advance yX9_advance, Cond.code yX9_advance cX9_advance 2 none, Cond.methodLink RX9 98 Lib.Math.min.name, Cond.methodLink RX9 91 yX9_isLetter, Cond.static yX9_isLetter, Cond.code yX9_isLetter cX9_isLetter 1 (some .boolean), Cond.methodLink RX9 95 yX9_isDigit, Cond.static yX9_isDigit, Cond.code yX9_isDigit cX9_isDigit 1 (some .boolean), Cond.methodLink RX9 34 yX9_takeItem, Cond.instanceMethod yX9_takeItem, Cond.selects RX9 yX9_takeItem yX9_takeItem, Cond.code yX9_takeItem cX9_takeItem 3 (some .boolean), Cond.methodLink RX9 40 yX9_isWord, Cond.instanceMethod yX9_isWord, Cond.selects RX9 yX9_isWord yX9_isWord, Cond.code yX9_isWord cX9_isWord 3 (some .boolean), Cond.methodLink RX9 82 yJ0_length_8abf5, Cond.instanceMethod yJ0_length_8abf5, Cond.selects RJ0 yJ0_length_8abf5 yJ0_length_8abf5]
def wsL_law_r30 : List Cond := [Cond.initialized RJ0, Cond.code yJ0_length_8abf5 cJ0_length_8abf5 1 (some .int), Cond.fieldLink RJ0 9 "java/lang/String" "value" "[B", Cond.methodLink RJ0 335 yJ0_coder_7d493, Cond.instanceMethod yJ0_coder_7d493, Cond.selects RJ0 yJ0_coder_7d493 yJ0_coder_7d493, Cond.code yJ0_coder_7d493 cJ0_coder_7d493 1 (some .byte), Cond.fieldLink RJ0 38 "java/lang/String" "COMPACT_STRINGS" "Z", Cond.fieldLink RJ0 15 "java/lang/String" "coder" "B", Cond.methodLink RX9 87 yJ0_charAt_5068e, Cond.instanceMethod yJ0_charAt_5068e, Cond.selects RJ0 yJ0_charAt_5068e yJ0_charAt_5068e, Cond.code yJ0_charAt_5068e cJ0_charAt_5068e 2 (some .char), Cond.methodLink RJ0 492 yJ0_isLatin1_aae02, Cond.instanceMethod yJ0_isLatin1_aae02, Cond.selects RJ0 yJ0_isLatin1_aae02 yJ0_isLatin1_aae02, Cond.code yJ0_isLatin1_aae02 cJ0_isLatin1_aae02 1 (some .boolean), Cond.methodLink RJ0 495 yJ1_charAt_3b067, Cond.static yJ1_charAt_3b067, Cond.initialized RJ1, Cond.code yJ1_charAt_3b067 cJ1_charAt_3b067 2 (some .char), Cond.methodLink RJ1 9 yJ0_checkIndex_df160, Cond.static yJ0_checkIndex_df160, Cond.code yJ0_checkIndex_df160 cJ0_checkIndex_df160 2 none]
def wsL_law_r31 : List Cond := [Cond.fieldLink RJ0 1053 "jdk/internal/util/Preconditions" "SIOOBE_FORMATTER" "Ljava/util/function/BiFunction;", Cond.methodLink RJ0 1059 yJ3_checkIndex_8e157, Cond.static yJ3_checkIndex_8e157, Cond.initialized RJ3, Cond.code yJ3_checkIndex_8e157 cJ3_checkIndex_8e157 3 (some .int), Cond.methodLink RJ0 498 yJ2_charAt_3b067, Cond.static yJ2_charAt_3b067, Cond.initialized RJ2, Cond.code yJ2_charAt_3b067 cJ2_charAt_3b067 2 (some .char), Cond.methodLink RJ2 67 yJ2_checkIndex_2214a, Cond.static yJ2_checkIndex_2214a, Cond.code yJ2_checkIndex_2214a cJ2_checkIndex_2214a 2 none, Cond.methodLink RJ2 48 yJ2_length_9d52b, Cond.static yJ2_length_9d52b, Cond.code yJ2_length_9d52b cJ2_length_9d52b 1 (some .int), Cond.methodLink RJ2 414 yJ0_checkIndex_df160, Cond.methodLink RJ2 71 yJ2_getChar_3b067, Cond.static yJ2_getChar_3b067, Cond.code yJ2_getChar_3b067 cJ2_getChar_3b067 2 (some .char), Cond.fieldLink RJ2 44 "java/lang/StringUTF16" "$assertionsDisabled" "Z", Cond.fieldLink RJ2 59 "java/lang/StringUTF16" "HI_BYTE_SHIFT" "I", Cond.fieldLink RJ2 63 "java/lang/StringUTF16" "LO_BYTE_SHIFT" "I", Cond.methodLink RX9 44 yX9_takeScore, Cond.instanceMethod yX9_takeScore]
def wsL_law_r32 : List Cond := [Cond.selects RX9 yX9_takeScore yX9_takeScore, Cond.code yX9_takeScore cX9_takeScore 3 (some .boolean), Cond.methodLink RX9 62 yX9_isNumber, Cond.instanceMethod yX9_isNumber, Cond.selects RX9 yX9_isNumber yX9_isNumber, Cond.code yX9_isNumber cX9_isNumber 3 (some .boolean), Cond.methodLink RX9 49 yX9_takeBell, Cond.instanceMethod yX9_takeBell, Cond.selects RX9 yX9_takeBell yX9_takeBell, Cond.code yX9_takeBell cX9_takeBell 3 (some .boolean), Cond.static yX0_nameOf, Cond.code yX0_nameOf cX0_nameOf 1 (some (.object "java/lang/String")), Cond.methodLink RX9 58 yX9_takePerson, Cond.instanceMethod yX9_takePerson, Cond.selects RX9 yX9_takePerson yX9_takePerson, Cond.code yX9_takePerson cX9_takePerson 5 (some .boolean), Cond.methodLink RL 112 yX11_interval, Cond.instanceMethod yX11_interval, Cond.selects RX11 yX11_interval yX11_interval, Cond.code yX11_interval cX11_interval 2 (some .int), Cond.fieldLink RX11 217 "ComposedIntervalModel" "isWrong" "Z", Cond.fieldLink RX11 202 "ComposedIntervalModel" "to" "I", Cond.fieldLink RX11 205 "ComposedIntervalModel" "from" "I", Cond.methodLink RX11 271 yX11_saves]
def wsL_law_r33 : List Cond := [Cond.instanceMethod yX11_saves, Cond.selects RX11 yX11_saves yX11_saves, Cond.code yX11_saves cX11_saves 2 none, Cond.methodLink RX11 221 yX11_token, Cond.instanceMethod yX11_token, Cond.selects RX11 yX11_token yX11_token, Cond.code yX11_token cX11_token 3 none, Cond.methodLink RX11 208 yX11_byteAt, Cond.instanceMethod yX11_byteAt, Cond.selects RX11 yX11_byteAt yX11_byteAt, Cond.code yX11_byteAt cX11_byteAt 2 (some .int), Cond.methodLink RX11 211 yX11_isLetter, Cond.static yX11_isLetter, Cond.code yX11_isLetter cX11_isLetter 1 (some .boolean), Cond.constantLong RX11 194 (97), Cond.constantLong RX11 196 (122), Cond.methodLink RX11 214 yX11_isDigit, Cond.static yX11_isDigit, Cond.code yX11_isDigit cX11_isDigit 1 (some .boolean), Cond.constantLong RX11 198 (48), Cond.constantLong RX11 200 (57), Cond.methodLink RX11 274 yX11_item, Cond.instanceMethod yX11_item, Cond.selects RX11 yX11_item yX11_item]
def wsL_law_r34 : List Cond := [Cond.code yX11_item cX11_item 4 none, Cond.constantLong RX11 263 (20037189), Cond.constantLong RX11 269 (71052), Cond.methodLink RX11 257 yX11_kindHere, Cond.instanceMethod yX11_kindHere, Cond.selects RX11 yX11_kindHere yX11_kindHere, Cond.code yX11_kindHere cX11_kindHere 3 (some .int), Cond.constantLong RX11 239 (8033908), Cond.constantLong RX11 241 (5707193), Cond.constantLong RX11 243 (647437490), Cond.constantLong RX11 245 (394885), Cond.constantLong RX11 247 (140993), Cond.constantLong RX11 249 (19191852), Cond.methodLink RX11 235 yX11_word, Cond.instanceMethod yX11_word, Cond.selects RX11 yX11_word yX11_word, Cond.code yX11_word cX11_word 4 (some .long), Cond.constantLong RX11 224 (36028797018963967), Cond.constantLong RX11 226 (32), Cond.methodLink RX11 260 yX11_personItem, Cond.instanceMethod yX11_personItem, Cond.selects RX11 yX11_personItem yX11_personItem, Cond.code yX11_personItem cX11_personItem 3 none, Cond.fieldLink RX11 228 "ComposedIntervalModel" "value" "I"]
def wsL_law_r35 : List Cond := [Cond.constantLong RX11 255 (18523243), Cond.methodLink RX11 231 yX11_must, Cond.instanceMethod yX11_must, Cond.selects RX11 yX11_must yX11_must, Cond.code yX11_must cX11_must 2 none, Cond.methodLink RX11 251 yX11_number, Cond.instanceMethod yX11_number, Cond.selects RX11 yX11_number yX11_number, Cond.code yX11_number cX11_number 6 none, Cond.methodLink RX11 265 yX11_toldItem, Cond.instanceMethod yX11_toldItem, Cond.selects RX11 yX11_toldItem yX11_toldItem, Cond.code yX11_toldItem cX11_toldItem 5 none, Cond.methodLink RX11 277 yX11_putsBack, Cond.instanceMethod yX11_putsBack, Cond.selects RX11 yX11_putsBack yX11_putsBack, Cond.code yX11_putsBack cX11_putsBack 2 none, Cond.methodLink RL 113 yX10_sheet, Cond.instanceMethod yX10_sheet, Cond.selects RX10 yX10_sheet yX10_sheet, Cond.code yX10_sheet cX10_sheet 4 (some .int), Cond.constant RX10 186 (-1000000007), Cond.methodLink RX10 183 yX10_isNoSheet, Cond.static yX10_isNoSheet]
def wsL_law_r36 : List Cond := [Cond.code yX10_isNoSheet cX10_isNoSheet 1 (some .boolean), Cond.instanceMethod yX7_lay, Cond.selects RX7 yX7_lay yX7_lay, Cond.code yX7_lay cX7_lay 3 none, Cond.methodLink RX7 22 yJ7_fill_d0a16, Cond.static yJ7_fill_d0a16, Cond.initialized RJ7, Cond.code yJ7_fill_d0a16 cJ7_fill_d0a16 5 none, Cond.methodLink RL 116 yX11_sheet, Cond.instanceMethod yX11_sheet, Cond.selects RX11 yX11_sheet yX11_sheet, Cond.code yX11_sheet cX11_sheet 5 (some .int), Cond.constant RX11 285 (-1000000007), Cond.methodLink RX11 282 yX11_isOne, Cond.static yX11_isOne, Cond.code yX11_isOne cX11_isOne 1 (some .boolean), Cond.constantLong RX11 280 (3), Cond.methodLink RL 119 yX10_write, Cond.instanceMethod yX10_write, Cond.selects RX10 yX10_write yX10_write, Cond.code yX10_write cX10_write 8 (some .long), Cond.methodLink RX10 194 yX10_sheetFinding, Cond.instanceMethod yX10_sheetFinding, Cond.selects RX10 yX10_sheetFinding yX10_sheetFinding]
def wsL_law_r37 : List Cond := [Cond.code yX10_sheetFinding cX10_sheetFinding 2 (some .int), Cond.constant RX10 209 (-1000000006), Cond.instanceMethod yX7_isMissing, Cond.selects RX7 yX7_isMissing yX7_isMissing, Cond.code yX7_isMissing cX7_isMissing 1 (some .boolean), Cond.instanceMethod yX7_narrow, Cond.selects RX7 yX7_narrow yX7_narrow, Cond.code yX7_narrow cX7_narrow 3 (some .long), Cond.methodLink RL 123 yX11_write, Cond.instanceMethod yX11_write, Cond.selects RX11 yX11_write yX11_write, Cond.code yX11_write cX11_write 8 (some .long), Cond.methodLink RX11 287 yX11_wrongSheet, Cond.instanceMethod yX11_wrongSheet, Cond.selects RX11 yX11_wrongSheet yX11_wrongSheet, Cond.code yX11_wrongSheet cX11_wrongSheet 2 (some .int), Cond.constant RX11 286 (-1000000006), Cond.methodLink RX11 290 yX11_narrowed, Cond.static yX11_narrowed, Cond.code yX11_narrowed cX11_narrowed 3 (some .long), Cond.methodLink RL 124 yX10_copy, Cond.instanceMethod yX10_copy, Cond.selects RX10 yX10_copy yX10_copy, Cond.code yX10_copy cX10_copy 6 (some .int)]
def wsL_law_r38 : List Cond := [Cond.methodLink RX10 216 arraycopyName, Cond.instanceMethod yX7_hasRun, Cond.selects RX7 yX7_hasRun yX7_hasRun, Cond.code yX7_hasRun cX7_hasRun 3 (some .boolean), Cond.methodLink RL 128 yX11_copy, Cond.instanceMethod yX11_copy, Cond.selects RX11 yX11_copy yX11_copy, Cond.code yX11_copy cX11_copy 7 (some .int), Cond.methodLink RL 129 yX10_lays, Cond.instanceMethod yX10_lays, Cond.selects RX10 yX10_lays yX10_lays, Cond.code yX10_lays cX10_lays 7 (some .int), Cond.constantLong RX10 222 (11), Cond.methodLink RL 132 yX11_lays, Cond.instanceMethod yX11_lays, Cond.selects RX11 yX11_lays yX11_lays, Cond.code yX11_lays cX11_lays 6 (some .int), Cond.methodLink RL 133 yX10_book, Cond.instanceMethod yX10_book, Cond.selects RX10 yX10_book yX10_book, Cond.code yX10_book cX10_book 5 (some .int), Cond.methodLink RL 136 yX11_book, Cond.instanceMethod yX11_book, Cond.selects RX11 yX11_book yX11_book]
def wsL_law_r39 : List Cond := [Cond.code yX11_book cX11_book 5 (some .int), Cond.methodLink RL 137 yX10_read, Cond.instanceMethod yX10_read, Cond.selects RX10 yX10_read yX10_read, Cond.code yX10_read cX10_read 7 (some .int), Cond.methodLink RX10 224 yX10_goesAsTold, Cond.instanceMethod yX10_goesAsTold, Cond.selects RX10 yX10_goesAsTold yX10_goesAsTold, Cond.code yX10_goesAsTold cX10_goesAsTold 4 (some .boolean), Cond.methodLink RL 140 yX11_read, Cond.instanceMethod yX11_read, Cond.selects RX11 yX11_read yX11_read, Cond.code yX11_read cX11_read 6 (some .int), Cond.methodLink RX11 294 yX11_isBook, Cond.instanceMethod yX11_isBook, Cond.selects RX11 yX11_isBook yX11_isBook, Cond.code yX11_isBook cX11_isBook 4 (some .boolean), Cond.methodLink RL 141 yX10_image, Cond.instanceMethod yX10_image, Cond.selects RX10 yX10_image yX10_image, Cond.code yX10_image cX10_image 1 (some .int), Cond.methodLink RL 144 yX11_image, Cond.instanceMethod yX11_image, Cond.selects RX11 yX11_image yX11_image]
def wsL_law_r40 : List Cond := [Cond.code yX11_image cX11_image 2 (some .int), Cond.fieldLink RX11 297 "ComposedIntervalModel" "isKept" "Z", Cond.methodLink RL 145 yX10_undo, Cond.instanceMethod yX10_undo, Cond.selects RX10 yX10_undo yX10_undo, Cond.code yX10_undo cX10_undo 1 (some .int), Cond.methodLink RL 148 yX11_undo, Cond.instanceMethod yX11_undo, Cond.selects RX11 yX11_undo yX11_undo, Cond.code yX11_undo cX11_undo 2 (some .int), Cond.methodLink RL 149 yX10_tear, Cond.instanceMethod yX10_tear, Cond.selects RX10 yX10_tear yX10_tear, Cond.code yX10_tear cX10_tear 2 (some .int), Cond.methodLink RL 152 yX11_tear, Cond.instanceMethod yX11_tear, Cond.selects RX11 yX11_tear yX11_tear, Cond.code yX11_tear cX11_tear 2 (some .int), Cond.methodLink RL 153 yX10_count, Cond.instanceMethod yX10_count, Cond.selects RX10 yX10_count yX10_count, Cond.code yX10_count cX10_count 2 (some .int), Cond.methodLink RL 156 yX11_count, Cond.instanceMethod yX11_count]
def wsL_law_r41 : List Cond := [Cond.selects RX11 yX11_count yX11_count, Cond.code yX11_count cX11_count 2 (some .int), Cond.methodLink RL 157 yX10_status, Cond.instanceMethod yX10_status, Cond.selects RX10 yX10_status yX10_status, Cond.code yX10_status cX10_status 4 (some .int), Cond.methodLink RL 160 yX11_status, Cond.instanceMethod yX11_status, Cond.selects RX11 yX11_status yX11_status, Cond.code yX11_status cX11_status 4 (some .int), Cond.constantLong RX11 300 (-1), Cond.constantLong RX11 302 (6)]
def wsL_law : List Cond := (wsL_law_r1 ++ (wsL_law_r2 ++ (wsL_law_r3 ++ (wsL_law_r4 ++ (wsL_law_r5 ++ (wsL_law_r6 ++ (wsL_law_r7 ++ (wsL_law_r8 ++ (wsL_law_r9 ++ (wsL_law_r10 ++ (wsL_law_r11 ++ (wsL_law_r12 ++ (wsL_law_r13 ++ (wsL_law_r14 ++ (wsL_law_r15 ++ (wsL_law_r16 ++ (wsL_law_r17 ++ (wsL_law_r18 ++ (wsL_law_r19 ++ (wsL_law_r20 ++ (wsL_law_r21 ++ (wsL_law_r22 ++ (wsL_law_r23 ++ (wsL_law_r24 ++ (wsL_law_r25 ++ (wsL_law_r26 ++ (wsL_law_r27 ++ (wsL_law_r28 ++ (wsL_law_r29 ++ (wsL_law_r30 ++ (wsL_law_r31 ++ (wsL_law_r32 ++ (wsL_law_r33 ++ (wsL_law_r34 ++ (wsL_law_r35 ++ (wsL_law_r36 ++ (wsL_law_r37 ++ (wsL_law_r38 ++ (wsL_law_r39 ++ (wsL_law_r40 ++ wsL_law_r41)))))))))))))))))))))))))))))))))))))))) ++ wsX100 ++ wsX110 ++ wsX90 ++ wsX00 ++ wsX30 ++ wsX70 ++ wsX40 ++ wsX20 ++ wsX80 ++ wsX50 ++ wsX10 ++ wsX60 ++ ([] : List Cond)
theorem inlX0 : ∀ w ∈ wsX00, w ∈ wsL_law := fun _ h => List.mem_append_left _ (List.mem_append_left _ (List.mem_append_left _ (List.mem_append_left _ (List.mem_append_left _ (List.mem_append_left _ (List.mem_append_left _ (List.mem_append_left _ (List.mem_append_left _ (List.mem_append_right _ h)))))))))
theorem inlX1 : ∀ w ∈ wsX10, w ∈ wsL_law := fun _ h => List.mem_append_left _ (List.mem_append_left _ (List.mem_append_right _ h))
theorem inlX2 : ∀ w ∈ wsX20, w ∈ wsL_law := fun _ h => List.mem_append_left _ (List.mem_append_left _ (List.mem_append_left _ (List.mem_append_left _ (List.mem_append_left _ (List.mem_append_right _ h)))))
theorem inlX3 : ∀ w ∈ wsX30, w ∈ wsL_law := fun _ h => List.mem_append_left _ (List.mem_append_left _ (List.mem_append_left _ (List.mem_append_left _ (List.mem_append_left _ (List.mem_append_left _ (List.mem_append_left _ (List.mem_append_left _ (List.mem_append_right _ h))))))))
theorem inlX4 : ∀ w ∈ wsX40, w ∈ wsL_law := fun _ h => List.mem_append_left _ (List.mem_append_left _ (List.mem_append_left _ (List.mem_append_left _ (List.mem_append_left _ (List.mem_append_left _ (List.mem_append_right _ h))))))
theorem inlX5 : ∀ w ∈ wsX50, w ∈ wsL_law := fun _ h => List.mem_append_left _ (List.mem_append_left _ (List.mem_append_left _ (List.mem_append_right _ h)))
theorem inlX6 : ∀ w ∈ wsX60, w ∈ wsL_law := fun _ h => List.mem_append_left _ (List.mem_append_right _ h)
theorem inlX7 : ∀ w ∈ wsX70, w ∈ wsL_law := fun _ h => List.mem_append_left _ (List.mem_append_left _ (List.mem_append_left _ (List.mem_append_left _ (List.mem_append_left _ (List.mem_append_left _ (List.mem_append_left _ (List.mem_append_right _ h)))))))
theorem inlX8 : ∀ w ∈ wsX80, w ∈ wsL_law := fun _ h => List.mem_append_left _ (List.mem_append_left _ (List.mem_append_left _ (List.mem_append_left _ (List.mem_append_right _ h))))
theorem inlX9 : ∀ w ∈ wsX90, w ∈ wsL_law := fun _ h => List.mem_append_left _ (List.mem_append_left _ (List.mem_append_left _ (List.mem_append_left _ (List.mem_append_left _ (List.mem_append_left _ (List.mem_append_left _ (List.mem_append_left _ (List.mem_append_left _ (List.mem_append_left _ (List.mem_append_right _ h))))))))))
theorem inlX10 : ∀ w ∈ wsX100, w ∈ wsL_law := fun _ h => List.mem_append_left _ (List.mem_append_left _ (List.mem_append_left _ (List.mem_append_left _ (List.mem_append_left _ (List.mem_append_left _ (List.mem_append_left _ (List.mem_append_left _ (List.mem_append_left _ (List.mem_append_left _ (List.mem_append_left _ (List.mem_append_left _ (List.mem_append_right _ h))))))))))))
theorem inlX11 : ∀ w ∈ wsX110, w ∈ wsL_law := fun _ h => List.mem_append_left _ (List.mem_append_left _ (List.mem_append_left _ (List.mem_append_left _ (List.mem_append_left _ (List.mem_append_left _ (List.mem_append_left _ (List.mem_append_left _ (List.mem_append_left _ (List.mem_append_left _ (List.mem_append_left _ (List.mem_append_right _ h)))))))))))
abbrev vwCl : List vw_C := [(RX0, TX0, 6), (RX1, TX1, 0), (RX2, TX2, 0), (RX3, TX3, 15), (RX4, TX4, 0), (RX5, TX5, 0), (RX6, TX6, 0), (RX7, TX7, 3), (RX8, TX8, 0), (RX9, TX9, 6), (RX10, TX10, 7), (RX11, TX11, 18)]
