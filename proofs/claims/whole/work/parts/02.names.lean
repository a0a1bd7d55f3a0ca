def RX0 : String := "LetterSchool$Edition"
def TX0 : u_T := fun k => match k with
  | 0 => ("LetterSchool$Edition", "from", "I", false)
  | 1 => ("LetterSchool$Edition", "lessons", "I", false)
  | 2 => ("LetterSchool$Edition", "name", "[I", true)
  | 3 => ("LetterSchool$Edition", "pass", "[I", true)
  | 4 => ("LetterSchool$Edition", "stands", "[I", true)
  | 5 => ("LetterSchool$Edition", "start", "[I", true)
  | 6 => ("LetterSchool$Edition", "end", "[I", true)
  | 7 => ("LetterSchool$Edition", "code", "[S", true)
  | _ => ("LetterSchool$Edition", "codeLength", "I", false)
def tyX0 : Nat → FieldType := fun k => match k with
  | 0 => .int
  | 1 => .int
  | 2 => .array .int
  | 3 => .array .int
  | 4 => .array .int
  | 5 => .array .int
  | 6 => .array .int
  | 7 => .array .short
  | _ => .int
theorem nmX0 : ∀ a, a < 9 → ∀ b, b < 9 → a ≠ b → (TX0 a).2.1 ≠ (TX0 b).2.1 := by decide +kernel
theorem tyX0_ok : ∀ k, k < 9 → parseFieldDescriptor (TX0 k).2.2.1 = some (tyX0 k) := by decide +kernel
abbrev cX0_init : ByteArray := prog_2_method_1_code
def yX0_init : MethodName := ⟨RX0, "<init>", "()V"⟩
abbrev cX0_clear : ByteArray := prog_2_method_2_code
def yX0_clear : MethodName := ⟨RX0, "clear", "()V"⟩
abbrev cX0_tells : ByteArray := prog_2_method_3_code
def yX0_tells : MethodName := ⟨RX0, "tells", "(I)Z"⟩
abbrev cX0_tell : ByteArray := prog_2_method_4_code
def yX0_tell : MethodName := ⟨RX0, "tell", "(III)V"⟩
abbrev cX0_addPassed : ByteArray := prog_2_method_5_code
def yX0_addPassed : MethodName := ⟨RX0, "addPassed", "(II)V"⟩
abbrev cX0_addAbove : ByteArray := prog_2_method_6_code
def yX0_addAbove : MethodName := ⟨RX0, "addAbove", "(III)V"⟩
abbrev cX0_add : ByteArray := prog_2_method_7_code
def yX0_add : MethodName := ⟨RX0, "add", "(II)V"⟩
abbrev cX0_leansOnToldAlone : ByteArray := prog_2_method_8_code
def yX0_leansOnToldAlone : MethodName := ⟨RX0, "leansOnToldAlone", "()Z"⟩
abbrev cX0_isPassed : ByteArray := prog_2_method_9_code
def yX0_isPassed : MethodName := ⟨RX0, "isPassed", "(I[I)Z"⟩
abbrev cX0_claimHolds : ByteArray := prog_2_method_10_code
def yX0_claimHolds : MethodName := ⟨RX0, "claimHolds", "(I[I)Z"⟩
abbrev cX0_holds : ByteArray := prog_2_method_11_code
def yX0_holds : MethodName := ⟨RX0, "holds", "(I[I)Z"⟩
abbrev cX0_passed : ByteArray := prog_2_method_12_code
def yX0_passed : MethodName := ⟨RX0, "passed", "([I)I"⟩
abbrev cX0_open : ByteArray := prog_2_method_13_code
def yX0_open : MethodName := ⟨RX0, "open", "([I)I"⟩
abbrev cX0_namedLike : ByteArray := prog_2_method_14_code
def yX0_namedLike : MethodName := ⟨RX0, "namedLike", "(I)I"⟩
def RX1 : String := "LetterSchool$Fees"
def TX1 : u_T := fun k => match k with
  | 0 => ("LetterSchool$Fees", "count", "I", false)
  | 1 => ("LetterSchool$Fees", "part", "[Z", true)
  | 2 => ("LetterSchool$Fees", "days", "[I", true)
  | _ => ("LetterSchool$Fees", "amount", "[I", true)
def tyX1 : Nat → FieldType := fun k => match k with
  | 0 => .int
  | 1 => .array .boolean
  | 2 => .array .int
  | _ => .array .int
theorem nmX1 : ∀ a, a < 4 → ∀ b, b < 4 → a ≠ b → (TX1 a).2.1 ≠ (TX1 b).2.1 := by decide +kernel
theorem tyX1_ok : ∀ k, k < 4 → parseFieldDescriptor (TX1 k).2.2.1 = some (tyX1 k) := by decide +kernel
abbrev cX1_init : ByteArray := prog_3_method_1_code
def yX1_init : MethodName := ⟨RX1, "<init>", "()V"⟩
abbrev cX1_add : ByteArray := prog_3_method_2_code
def yX1_add : MethodName := ⟨RX1, "add", "(ZII)V"⟩
abbrev cX1_partsBy : ByteArray := prog_3_method_3_code
def yX1_partsBy : MethodName := ⟨RX1, "partsBy", "(I)I"⟩
abbrev cX1_backAfter : ByteArray := prog_3_method_4_code
def yX1_backAfter : MethodName := ⟨RX1, "backAfter", "(I)I"⟩
def RX2 : String := "LetterSchool$Ledger"
def TX2 : u_T := fun k => match k with
  | 0 => ("LetterSchool$Ledger", "payer", "[B", true)
  | 1 => ("LetterSchool$Ledger", "pence", "[I", true)
  | 2 => ("LetterSchool$Ledger", "paidOn", "[S", true)
  | _ => ("LetterSchool$Ledger", "count", "I", false)
def tyX2 : Nat → FieldType := fun k => match k with
  | 0 => .array .byte
  | 1 => .array .int
  | 2 => .array .short
  | _ => .int
theorem nmX2 : ∀ a, a < 4 → ∀ b, b < 4 → a ≠ b → (TX2 a).2.1 ≠ (TX2 b).2.1 := by decide +kernel
theorem tyX2_ok : ∀ k, k < 4 → parseFieldDescriptor (TX2 k).2.2.1 = some (tyX2 k) := by decide +kernel
abbrev cX2_init : ByteArray := prog_4_method_1_code
def yX2_init : MethodName := ⟨RX2, "<init>", "()V"⟩
abbrev cX2_enter : ByteArray := prog_4_method_2_code
def yX2_enter : MethodName := ⟨RX2, "enter", "(III)Z"⟩
abbrev cX2_paidBy : ByteArray := prog_4_method_3_code
def yX2_paidBy : MethodName := ⟨RX2, "paidBy", "(II)I"⟩
def RX3 : String := "LetterSchool$Post"
def TX3 : u_T := fun k => match k with
  | 0 => ("LetterSchool$Post", "days", "I", false)
  | 1 => ("LetterSchool$Post", "each", "I", false)
  | _ => ("LetterSchool$Post", "carried", "I", false)
def tyX3 : Nat → FieldType := fun k => match k with
  | 0 => .int
  | 1 => .int
  | _ => .int
theorem nmX3 : ∀ a, a < 3 → ∀ b, b < 3 → a ≠ b → (TX3 a).2.1 ≠ (TX3 b).2.1 := by decide +kernel
theorem tyX3_ok : ∀ k, k < 3 → parseFieldDescriptor (TX3 k).2.2.1 = some (tyX3 k) := by decide +kernel
abbrev cX3_init : ByteArray := prog_5_method_1_code
def yX3_init : MethodName := ⟨RX3, "<init>", "()V"⟩
abbrev cX3_losesNext : ByteArray := prog_5_method_2_code
def yX3_losesNext : MethodName := ⟨RX3, "losesNext", "()Z"⟩
def RX4 : String := "LetterSchool$Pupil"
def TX4 : u_T := fun k => match k with
  | 0 => ("LetterSchool$Pupil", "place", "I", true)
  | 1 => ("LetterSchool$Pupil", "begin", "I", true)
  | 2 => ("LetterSchool$Pupil", "course", "I", false)
  | 3 => ("LetterSchool$Pupil", "edition", "I", false)
  | 4 => ("LetterSchool$Pupil", "taught", "LLetterSchool$Edition;", false)
  | 5 => ("LetterSchool$Pupil", "habit", "I", false)
  | _ => ("LetterSchool$Pupil", "left", "I", false)
def tyX4 : Nat → FieldType := fun k => match k with
  | 0 => .int
  | 1 => .int
  | 2 => .int
  | 3 => .int
  | 4 => .object "LetterSchool$Edition"
  | 5 => .int
  | _ => .int
theorem nmX4 : ∀ a, a < 7 → ∀ b, b < 7 → a ≠ b → (TX4 a).2.1 ≠ (TX4 b).2.1 := by decide +kernel
theorem tyX4_ok : ∀ k, k < 7 → parseFieldDescriptor (TX4 k).2.2.1 = some (tyX4 k) := by decide +kernel
abbrev cX4_init : ByteArray := prog_6_method_1_code
def yX4_init : MethodName := ⟨RX4, "<init>", "(IIIILLetterSchool$Edition;)V"⟩
abbrev cX4_follow : ByteArray := prog_6_method_2_code
def yX4_follow : MethodName := ⟨RX4, "follow", "(IILLetterSchool$Edition;)V"⟩
abbrev cX4_hasLeftBy : ByteArray := prog_6_method_3_code
def yX4_hasLeftBy : MethodName := ⟨RX4, "hasLeftBy", "(I)Z"⟩
def RX5 : String := "LetterSchool$Sharing"
def TX5 : u_T := fun k => match k with
  | 0 => ("LetterSchool$Sharing", "thing", "[I", true)
  | 1 => ("LetterSchool$Sharing", "fit", "[I", true)
  | 2 => ("LetterSchool$Sharing", "now", "[I", true)
  | 3 => ("LetterSchool$Sharing", "chosen", "[I", true)
  | 4 => ("LetterSchool$Sharing", "mostLater", "[I", true)
  | 5 => ("LetterSchool$Sharing", "daysLater", "[I", true)
  | 6 => ("LetterSchool$Sharing", "load", "[I", true)
  | 7 => ("LetterSchool$Sharing", "pace", "[I", true)
  | 8 => ("LetterSchool$Sharing", "count", "I", false)
  | 9 => ("LetterSchool$Sharing", "tutors", "I", false)
  | 10 => ("LetterSchool$Sharing", "mostGiven", "I", false)
  | _ => ("LetterSchool$Sharing", "leastDays", "I", false)
def tyX5 : Nat → FieldType := fun k => match k with
  | 0 => .array .int
  | 1 => .array .int
  | 2 => .array .int
  | 3 => .array .int
  | 4 => .array .int
  | 5 => .array .int
  | 6 => .array .int
  | 7 => .array .int
  | 8 => .int
  | 9 => .int
  | 10 => .int
  | _ => .int
theorem nmX5 : ∀ a, a < 12 → ∀ b, b < 12 → a ≠ b → (TX5 a).2.1 ≠ (TX5 b).2.1 := by decide +kernel
theorem tyX5_ok : ∀ k, k < 12 → parseFieldDescriptor (TX5 k).2.2.1 = some (tyX5 k) := by decide +kernel
abbrev cX5_init : ByteArray := prog_7_method_1_code
def yX5_init : MethodName := ⟨RX5, "<init>", "()V"⟩
abbrev cX5_clear : ByteArray := prog_7_method_2_code
def yX5_clear : MethodName := ⟨RX5, "clear", "()V"⟩
abbrev cX5_addTutor : ByteArray := prog_7_method_3_code
def yX5_addTutor : MethodName := ⟨RX5, "addTutor", "(LLetterSchool$Tutor;)V"⟩
abbrev cX5_addThing : ByteArray := prog_7_method_4_code
def yX5_addThing : MethodName := ⟨RX5, "addThing", "(II)V"⟩
abbrev cX5_solve : ByteArray := prog_7_method_5_code
def yX5_solve : MethodName := ⟨RX5, "solve", "()V"⟩
abbrev cX5_lookAhead : ByteArray := prog_7_method_6_code
def yX5_lookAhead : MethodName := ⟨RX5, "lookAhead", "()V"⟩
abbrev cX5_fewestDays : ByteArray := prog_7_method_7_code
def yX5_fewestDays : MethodName := ⟨RX5, "fewestDays", "(I)I"⟩
abbrev cX5_canTake : ByteArray := prog_7_method_8_code
def yX5_canTake : MethodName := ⟨RX5, "canTake", "(II)Z"⟩
abbrev cX5_seek : ByteArray := prog_7_method_9_code
def yX5_seek : MethodName := ⟨RX5, "seek", "(III)V"⟩
abbrev cX5_canBeBetter : ByteArray := prog_7_method_10_code
def yX5_canBeBetter : MethodName := ⟨RX5, "canBeBetter", "(III)Z"⟩
abbrev cX5_tutorOf : ByteArray := prog_7_method_11_code
def yX5_tutorOf : MethodName := ⟨RX5, "tutorOf", "(I)I"⟩
def RX6 : String := "LetterSchool$Sheet"
def TX6 : u_T := fun k => match k with
  | 0 => ("LetterSchool$Sheet", "lane", "I", false)
  | 1 => ("LetterSchool$Sheet", "size", "I", false)
  | _ => ("LetterSchool$Sheet", "items", "[I", true)
def tyX6 : Nat → FieldType := fun k => match k with
  | 0 => .int
  | 1 => .int
  | _ => .array .int
theorem nmX6 : ∀ a, a < 3 → ∀ b, b < 3 → a ≠ b → (TX6 a).2.1 ≠ (TX6 b).2.1 := by decide +kernel
theorem tyX6_ok : ∀ k, k < 3 → parseFieldDescriptor (TX6 k).2.2.1 = some (tyX6 k) := by decide +kernel
abbrev cX6_init : ByteArray := prog_8_method_1_code
def yX6_init : MethodName := ⟨RX6, "<init>", "()V"⟩
abbrev cX6_begin : ByteArray := prog_8_method_2_code
def yX6_begin : MethodName := ⟨RX6, "begin", "(II)V"⟩
abbrev cX6_refusal : ByteArray := prog_8_method_3_code
def yX6_refusal : MethodName := ⟨RX6, "refusal", "(III)I"⟩
abbrev cX6_put : ByteArray := prog_8_method_4_code
def yX6_put : MethodName := ⟨RX6, "put", "(II)V"⟩
def RX7 : String := "LetterSchool$Tape"
def TX7 : u_T := fun k => match k with
  | 0 => ("LetterSchool$Tape", "signs", "[B", true)
  | 1 => ("LetterSchool$Tape", "length", "I", false)
  | _ => ("LetterSchool$Tape", "place", "I", false)
def tyX7 : Nat → FieldType := fun k => match k with
  | 0 => .array .byte
  | 1 => .int
  | _ => .int
theorem nmX7 : ∀ a, a < 3 → ∀ b, b < 3 → a ≠ b → (TX7 a).2.1 ≠ (TX7 b).2.1 := by decide +kernel
theorem tyX7_ok : ∀ k, k < 3 → parseFieldDescriptor (TX7 k).2.2.1 = some (tyX7 k) := by decide +kernel
abbrev cX7_init : ByteArray := prog_9_method_1_code
def yX7_init : MethodName := ⟨RX7, "<init>", "()V"⟩
abbrev cX7_append : ByteArray := prog_9_method_2_code
def yX7_append : MethodName := ⟨RX7, "append", "(I)V"⟩
abbrev cX7_next : ByteArray := prog_9_method_3_code
def yX7_next : MethodName := ⟨RX7, "next", "()I"⟩
abbrev cX7_takes : ByteArray := prog_9_method_4_code
def yX7_takes : MethodName := ⟨RX7, "takes", "(I)Z"⟩
abbrev cX7_isDigit : ByteArray := prog_9_method_5_code
def yX7_isDigit : MethodName := ⟨RX7, "isDigit", "(I)Z"⟩
abbrev cX7_takeNumber : ByteArray := prog_9_method_6_code
def yX7_takeNumber : MethodName := ⟨RX7, "takeNumber", "(I)I"⟩
abbrev cX7_readEdition : ByteArray := prog_9_method_7_code
def yX7_readEdition : MethodName := ⟨RX7, "readEdition", "(LLetterSchool$Edition;)Z"⟩
abbrev cX7_readLesson : ByteArray := prog_9_method_8_code
def yX7_readLesson : MethodName := ⟨RX7, "readLesson", "(LLetterSchool$Edition;)Z"⟩
abbrev cX7_readCases : ByteArray := prog_9_method_9_code
def yX7_readCases : MethodName := ⟨RX7, "readCases", "(LLetterSchool$Edition;II)Z"⟩
abbrev cX7_readClaim : ByteArray := prog_9_method_10_code
def yX7_readClaim : MethodName := ⟨RX7, "readClaim", "(LLetterSchool$Edition;II)Z"⟩
abbrev cX7_readLeaning : ByteArray := prog_9_method_11_code
def yX7_readLeaning : MethodName := ⟨RX7, "readLeaning", "(LLetterSchool$Edition;I)Z"⟩
abbrev cX7_readFees : ByteArray := prog_9_method_12_code
def yX7_readFees : MethodName := ⟨RX7, "readFees", "(LLetterSchool$Fees;)Z"⟩
abbrev cX7_readFee : ByteArray := prog_9_method_13_code
def yX7_readFee : MethodName := ⟨RX7, "readFee", "(LLetterSchool$Fees;)Z"⟩
def RX8 : String := "LetterSchool$Thing"
def TX8 : u_T := fun k => match k with
  | 0 => ("LetterSchool$Thing", "pupil", "I", true)
  | 1 => ("LetterSchool$Thing", "name", "I", true)
  | 2 => ("LetterSchool$Thing", "lesson", "I", true)
  | 3 => ("LetterSchool$Thing", "firstSent", "I", true)
  | 4 => ("LetterSchool$Thing", "choices", "[B", true)
  | 5 => ("LetterSchool$Thing", "kind", "I", false)
  | 6 => ("LetterSchool$Thing", "sent", "I", false)
  | 7 => ("LetterSchool$Thing", "comes", "I", false)
  | 8 => ("LetterSchool$Thing", "tutor", "I", false)
  | 9 => ("LetterSchool$Thing", "given", "I", false)
  | 10 => ("LetterSchool$Thing", "again", "I", false)
  | 11 => ("LetterSchool$Thing", "marks", "I", false)
  | 12 => ("LetterSchool$Thing", "marked", "I", false)
  | 13 => ("LetterSchool$Thing", "secondTutor", "I", false)
  | _ => ("LetterSchool$Thing", "secondMarks", "I", false)
def tyX8 : Nat → FieldType := fun k => match k with
  | 0 => .int
  | 1 => .int
  | 2 => .int
  | 3 => .int
  | 4 => .array .byte
  | 5 => .int
  | 6 => .int
  | 7 => .int
  | 8 => .int
  | 9 => .int
  | 10 => .int
  | 11 => .int
  | 12 => .int
  | 13 => .int
  | _ => .int
theorem nmX8 : ∀ a, a < 15 → ∀ b, b < 15 → a ≠ b → (TX8 a).2.1 ≠ (TX8 b).2.1 := by decide +kernel
theorem tyX8_ok : ∀ k, k < 15 → parseFieldDescriptor (TX8 k).2.2.1 = some (tyX8 k) := by decide +kernel
abbrev cX8_init : ByteArray := prog_10_method_1_code
def yX8_init : MethodName := ⟨RX8, "<init>", "(IIII)V"⟩
abbrev cX8_isAnswer : ByteArray := prog_10_method_2_code
def yX8_isAnswer : MethodName := ⟨RX8, "isAnswer", "()Z"⟩
abbrev cX8_isOpenBy : ByteArray := prog_10_method_3_code
def yX8_isOpenBy : MethodName := ⟨RX8, "isOpenBy", "(I)Z"⟩
abbrev cX8_isGivenBy : ByteArray := prog_10_method_4_code
def yX8_isGivenBy : MethodName := ⟨RX8, "isGivenBy", "(I)Z"⟩
abbrev cX8_isMarkedByBoth : ByteArray := prog_10_method_5_code
def yX8_isMarkedByBoth : MethodName := ⟨RX8, "isMarkedByBoth", "(II)Z"⟩
def RX9 : String := "LetterSchool$Tutor"
def TX9 : u_T := fun k => match k with
  | 0 => ("LetterSchool$Tutor", "teaches", "I", true)
  | 1 => ("LetterSchool$Tutor", "pace", "I", true)
  | 2 => ("LetterSchool$Tutor", "kin", "I", false)
  | _ => ("LetterSchool$Tutor", "load", "I", false)
def tyX9 : Nat → FieldType := fun k => match k with
  | 0 => .int
  | 1 => .int
  | 2 => .int
  | _ => .int
theorem nmX9 : ∀ a, a < 4 → ∀ b, b < 4 → a ≠ b → (TX9 a).2.1 ≠ (TX9 b).2.1 := by decide +kernel
theorem tyX9_ok : ∀ k, k < 4 → parseFieldDescriptor (TX9 k).2.2.1 = some (tyX9 k) := by decide +kernel
abbrev cX9_init : ByteArray := prog_11_method_1_code
def yX9_init : MethodName := ⟨RX9, "<init>", "(II)V"⟩
abbrev cX9_mayMark : ByteArray := prog_11_method_2_code
def yX9_mayMark : MethodName := ⟨RX9, "mayMark", "(LLetterSchool$Thing;)Z"⟩
def RX10 : String := "LetterSchool$Way"
def TX10 : u_T := fun k => match k with
  | 0 => ("LetterSchool$Way", "steps", "[I", true)
  | 1 => ("LetterSchool$Way", "queue", "[I", true)
  | _ => ("LetterSchool$Way", "then", "[I", true)
def tyX10 : Nat → FieldType := fun k => match k with
  | 0 => .array .int
  | 1 => .array .int
  | _ => .array .int
theorem nmX10 : ∀ a, a < 3 → ∀ b, b < 3 → a ≠ b → (TX10 a).2.1 ≠ (TX10 b).2.1 := by decide +kernel
theorem tyX10_ok : ∀ k, k < 3 → parseFieldDescriptor (TX10 k).2.2.1 = some (tyX10 k) := by decide +kernel
abbrev cX10_init : ByteArray := prog_12_method_1_code
def yX10_init : MethodName := ⟨RX10, "<init>", "()V"⟩
abbrev cX10_shortest : ByteArray := prog_12_method_2_code
def yX10_shortest : MethodName := ⟨RX10, "shortest", "(LLetterSchool$Edition;[II)I"⟩
abbrev cX10_raise : ByteArray := prog_12_method_3_code
def yX10_raise : MethodName := ⟨RX10, "raise", "([II)V"⟩
abbrev cX10_reach : ByteArray := prog_12_method_4_code
def yX10_reach : MethodName := ⟨RX10, "reach", "(LLetterSchool$Edition;II)I"⟩
def RX11 : String := "LetterSchool"
def TX11 : u_T := fun k => match k with
  | 0 => ("LetterSchool", "tape", "LLetterSchool$Tape;", true)
  | 1 => ("LetterSchool", "editions", "[LLetterSchool$Edition;", true)
  | 2 => ("LetterSchool", "editionCount", "[I", true)
  | 3 => ("LetterSchool", "feesOf", "[LLetterSchool$Fees;", true)
  | 4 => ("LetterSchool", "draftEdition", "LLetterSchool$Edition;", false)
  | 5 => ("LetterSchool", "draftFees", "LLetterSchool$Fees;", false)
  | 6 => ("LetterSchool", "pupils", "[LLetterSchool$Pupil;", true)
  | 7 => ("LetterSchool", "pupilCount", "I", false)
  | 8 => ("LetterSchool", "tutors", "[LLetterSchool$Tutor;", true)
  | 9 => ("LetterSchool", "tutorCount", "I", false)
  | 10 => ("LetterSchool", "things", "[LLetterSchool$Thing;", true)
  | 11 => ("LetterSchool", "thingCount", "I", false)
  | 12 => ("LetterSchool", "posts", "[LLetterSchool$Post;", true)
  | 13 => ("LetterSchool", "ledger", "LLetterSchool$Ledger;", true)
  | 14 => ("LetterSchool", "keys", "[B", true)
  | 15 => ("LetterSchool", "doubtLimit", "I", false)
  | 16 => ("LetterSchool", "sheets", "[LLetterSchool$Sheet;", true)
  | 17 => ("LetterSchool", "sharing", "LLetterSchool$Sharing;", true)
  | 18 => ("LetterSchool", "way", "LLetterSchool$Way;", true)
  | _ => ("LetterSchool", "bests", "[I", true)
def tyX11 : Nat → FieldType := fun k => match k with
  | 0 => .object "LetterSchool$Tape"
  | 1 => .array (.object "LetterSchool$Edition")
  | 2 => .array .int
  | 3 => .array (.object "LetterSchool$Fees")
  | 4 => .object "LetterSchool$Edition"
  | 5 => .object "LetterSchool$Fees"
  | 6 => .array (.object "LetterSchool$Pupil")
  | 7 => .int
  | 8 => .array (.object "LetterSchool$Tutor")
  | 9 => .int
  | 10 => .array (.object "LetterSchool$Thing")
  | 11 => .int
  | 12 => .array (.object "LetterSchool$Post")
  | 13 => .object "LetterSchool$Ledger"
  | 14 => .array .byte
  | 15 => .int
  | 16 => .array (.object "LetterSchool$Sheet")
  | 17 => .object "LetterSchool$Sharing"
  | 18 => .object "LetterSchool$Way"
  | _ => .array .int
theorem nmX11 : ∀ a, a < 20 → ∀ b, b < 20 → a ≠ b → (TX11 a).2.1 ≠ (TX11 b).2.1 := by decide +kernel
theorem tyX11_ok : ∀ k, k < 20 → parseFieldDescriptor (TX11 k).2.2.1 = some (tyX11 k) := by decide +kernel
abbrev cX11_init : ByteArray := prog_1_method_1_code
def yX11_init : MethodName := ⟨RX11, "<init>", "()V"⟩
abbrev cX11_type : ByteArray := prog_1_method_2_code
def yX11_type : MethodName := ⟨RX11, "type", "(JI)I"⟩
abbrev cX11_edition : ByteArray := prog_1_method_3_code
def yX11_edition : MethodName := ⟨RX11, "edition", "(II)I"⟩
abbrev cX11_told : ByteArray := prog_1_method_4_code
def yX11_told : MethodName := ⟨RX11, "told", "(III)I"⟩
abbrev cX11_lesson : ByteArray := prog_1_method_5_code
def yX11_lesson : MethodName := ⟨RX11, "lesson", "(IIII)I"⟩
abbrev cX11_pupil : ByteArray := prog_1_method_6_code
def yX11_pupil : MethodName := ⟨RX11, "pupil", "(III)I"⟩
abbrev cX11_who : ByteArray := prog_1_method_7_code
def yX11_who : MethodName := ⟨RX11, "who", "(II)I"⟩
abbrev cX11_habit : ByteArray := prog_1_method_8_code
def yX11_habit : MethodName := ⟨RX11, "habit", "(II)I"⟩
abbrev cX11_best : ByteArray := prog_1_method_9_code
def yX11_best : MethodName := ⟨RX11, "best", "(III)I"⟩
abbrev cX11_may : ByteArray := prog_1_method_10_code
def yX11_may : MethodName := ⟨RX11, "may", "(II)I"⟩
abbrev cX11_lean : ByteArray := prog_1_method_11_code
def yX11_lean : MethodName := ⟨RX11, "lean", "(II)I"⟩
abbrev cX11_post : ByteArray := prog_1_method_12_code
def yX11_post : MethodName := ⟨RX11, "post", "(III)I"⟩
abbrev cX11_send : ByteArray := prog_1_method_13_code
def yX11_send : MethodName := ⟨RX11, "send", "(III)I"⟩
abbrev cX11_answer : ByteArray := prog_1_method_14_code
def yX11_answer : MethodName := ⟨RX11, "answer", "(II)I"⟩
abbrev cX11_give : ByteArray := prog_1_method_15_code
def yX11_give : MethodName := ⟨RX11, "give", "(III)I"⟩
abbrev cX11_mark : ByteArray := prog_1_method_16_code
def yX11_mark : MethodName := ⟨RX11, "mark", "(IIIII)I"⟩
abbrev cX11_again : ByteArray := prog_1_method_17_code
def yX11_again : MethodName := ⟨RX11, "again", "(II)I"⟩
abbrev cX11_second : ByteArray := prog_1_method_18_code
def yX11_second : MethodName := ⟨RX11, "second", "(IIIII)I"⟩
abbrev cX11_thing : ByteArray := prog_1_method_19_code
def yX11_thing : MethodName := ⟨RX11, "thing", "(II)I"⟩
abbrev cX11_marks : ByteArray := prog_1_method_20_code
def yX11_marks : MethodName := ⟨RX11, "marks", "(II)I"⟩
abbrev cX11_count : ByteArray := prog_1_method_21_code
def yX11_count : MethodName := ⟨RX11, "count", "(I)I"⟩
abbrev cX11_tutor : ByteArray := prog_1_method_22_code
def yX11_tutor : MethodName := ⟨RX11, "tutor", "(II)I"⟩
abbrev cX11_kin : ByteArray := prog_1_method_23_code
def yX11_kin : MethodName := ⟨RX11, "kin", "(II)I"⟩
abbrev cX11_load : ByteArray := prog_1_method_24_code
def yX11_load : MethodName := ⟨RX11, "load", "(I)I"⟩
abbrev cX11_wait : ByteArray := prog_1_method_25_code
def yX11_wait : MethodName := ⟨RX11, "wait", "(II)I"⟩
abbrev cX11_took : ByteArray := prog_1_method_26_code
def yX11_took : MethodName := ⟨RX11, "took", "(I)I"⟩
abbrev cX11_share : ByteArray := prog_1_method_27_code
def yX11_share : MethodName := ⟨RX11, "share", "(II)I"⟩
abbrev cX11_shareOf : ByteArray := prog_1_method_28_code
def yX11_shareOf : MethodName := ⟨RX11, "shareOf", "(II)I"⟩
abbrev cX11_offset : ByteArray := prog_1_method_29_code
def yX11_offset : MethodName := ⟨RX11, "offset", "(III)I"⟩
abbrev cX11_key : ByteArray := prog_1_method_30_code
def yX11_key : MethodName := ⟨RX11, "key", "(III)I"⟩
abbrev cX11_choose : ByteArray := prog_1_method_31_code
def yX11_choose : MethodName := ⟨RX11, "choose", "(III)I"⟩
abbrev cX11_like : ByteArray := prog_1_method_32_code
def yX11_like : MethodName := ⟨RX11, "like", "(II)I"⟩
abbrev cX11_limit : ByteArray := prog_1_method_33_code
def yX11_limit : MethodName := ⟨RX11, "limit", "(I)I"⟩
abbrev cX11_doubted : ByteArray := prog_1_method_34_code
def yX11_doubted : MethodName := ⟨RX11, "doubted", "(I)I"⟩
abbrev cX11_fees : ByteArray := prog_1_method_35_code
def yX11_fees : MethodName := ⟨RX11, "fees", "(I)I"⟩
abbrev cX11_pay : ByteArray := prog_1_method_36_code
def yX11_pay : MethodName := ⟨RX11, "pay", "(III)I"⟩
abbrev cX11_due : ByteArray := prog_1_method_37_code
def yX11_due : MethodName := ⟨RX11, "due", "(II)I"⟩
abbrev cX11_leave : ByteArray := prog_1_method_38_code
def yX11_leave : MethodName := ⟨RX11, "leave", "(II)I"⟩
abbrev cX11_move : ByteArray := prog_1_method_39_code
def yX11_move : MethodName := ⟨RX11, "move", "(III)I"⟩
abbrev cX11_sheet : ByteArray := prog_1_method_40_code
def yX11_sheet : MethodName := ⟨RX11, "sheet", "(III)I"⟩
abbrev cX11_drop : ByteArray := prog_1_method_41_code
def yX11_drop : MethodName := ⟨RX11, "drop", "(I)I"⟩
abbrev cX11_item : ByteArray := prog_1_method_42_code
def yX11_item : MethodName := ⟨RX11, "item", "(IIII)I"⟩
abbrev cX11_choices : ByteArray := prog_1_method_43_code
def yX11_choices : MethodName := ⟨RX11, "choices", "(IIIII)I"⟩
abbrev cX11_isIn : ByteArray := prog_1_method_44_code
def yX11_isIn : MethodName := ⟨RX11, "isIn", "(II)Z"⟩
abbrev cX11_isDay : ByteArray := prog_1_method_45_code
def yX11_isDay : MethodName := ⟨RX11, "isDay", "(I)Z"⟩
abbrev cX11_areParts : ByteArray := prog_1_method_46_code
def yX11_areParts : MethodName := ⟨RX11, "areParts", "(III)Z"⟩
abbrev cX11_weigh : ByteArray := prog_1_method_47_code
def yX11_weigh : MethodName := ⟨RX11, "weigh", "(III)I"⟩
abbrev cX11_cutUp : ByteArray := prog_1_method_48_code
def yX11_cutUp : MethodName := ⟨RX11, "cutUp", "(II)I"⟩
abbrev cX11_pupilAt : ByteArray := prog_1_method_49_code
def yX11_pupilAt : MethodName := ⟨RX11, "pupilAt", "(I)LLetterSchool$Pupil;"⟩
abbrev cX11_tutorAt : ByteArray := prog_1_method_50_code
def yX11_tutorAt : MethodName := ⟨RX11, "tutorAt", "(I)LLetterSchool$Tutor;"⟩
abbrev cX11_thingAt : ByteArray := prog_1_method_51_code
def yX11_thingAt : MethodName := ⟨RX11, "thingAt", "(I)LLetterSchool$Thing;"⟩
abbrev cX11_editionAt : ByteArray := prog_1_method_52_code
def yX11_editionAt : MethodName := ⟨RX11, "editionAt", "(II)LLetterSchool$Edition;"⟩
abbrev cX11_latestFrom : ByteArray := prog_1_method_53_code
def yX11_latestFrom : MethodName := ⟨RX11, "latestFrom", "(I)I"⟩
abbrev cX11_inForce : ByteArray := prog_1_method_54_code
def yX11_inForce : MethodName := ⟨RX11, "inForce", "(II)I"⟩
abbrev cX11_bestByName : ByteArray := prog_1_method_55_code
def yX11_bestByName : MethodName := ⟨RX11, "bestByName", "(III)I"⟩
abbrev cX11_fillBests : ByteArray := prog_1_method_56_code
def yX11_fillBests : MethodName := ⟨RX11, "fillBests", "(ILLetterSchool$Edition;)V"⟩
abbrev cX11_carry : ByteArray := prog_1_method_57_code
def yX11_carry : MethodName := ⟨RX11, "carry", "(LLetterSchool$Thing;LLetterSchool$Pupil;I)I"⟩
abbrev cX11_unload : ByteArray := prog_1_method_58_code
def yX11_unload : MethodName := ⟨RX11, "unload", "(LLetterSchool$Thing;)V"⟩
abbrev cX11_knownOn : ByteArray := prog_1_method_59_code
def yX11_knownOn : MethodName := ⟨RX11, "knownOn", "(LLetterSchool$Thing;)I"⟩
abbrev cX11_shareBy : ByteArray := prog_1_method_60_code
def yX11_shareBy : MethodName := ⟨RX11, "shareBy", "(I)V"⟩
abbrev cX11_tutorsFor : ByteArray := prog_1_method_61_code
def yX11_tutorsFor : MethodName := ⟨RX11, "tutorsFor", "(LLetterSchool$Thing;)I"⟩
abbrev cX11_areComparable : ByteArray := prog_1_method_62_code
def yX11_areComparable : MethodName := ⟨RX11, "areComparable", "(LLetterSchool$Thing;LLetterSchool$Thing;)Z"⟩
abbrev cX11_likeness : ByteArray := prog_1_method_63_code
def yX11_likeness : MethodName := ⟨RX11, "likeness", "(LLetterSchool$Thing;LLetterSchool$Thing;)I"⟩
abbrev cX11_isDoubted : ByteArray := prog_1_method_64_code
def yX11_isDoubted : MethodName := ⟨RX11, "isDoubted", "(LLetterSchool$Thing;LLetterSchool$Thing;)Z"⟩
def RX12 : String := "LetterSchoolModel"
def TX12 : u_T := fun k => match k with
  | 0 => ("LetterSchoolModel", "tape", "[I", true)
  | 1 => ("LetterSchoolModel", "taped", "I", false)
  | 2 => ("LetterSchoolModel", "at", "I", false)
  | 3 => ("LetterSchoolModel", "wrong", "Z", false)
  | 4 => ("LetterSchoolModel", "readNames", "[I", true)
  | 5 => ("LetterSchoolModel", "readMarks", "[I", true)
  | 6 => ("LetterSchoolModel", "readFrom", "[I", true)
  | 7 => ("LetterSchoolModel", "readTo", "[I", true)
  | 8 => ("LetterSchoolModel", "codes", "[I", true)
  | 9 => ("LetterSchoolModel", "codeMany", "I", false)
  | 10 => ("LetterSchoolModel", "readLessons", "I", false)
  | 11 => ("LetterSchoolModel", "readUsed", "I", false)
  | 12 => ("LetterSchoolModel", "readMany", "I", false)
  | 13 => ("LetterSchoolModel", "waiting", "[I", true)
  | 14 => ("LetterSchoolModel", "waits", "I", false)
  | 15 => ("LetterSchoolModel", "editionMany", "[I", true)
  | 16 => ("LetterSchoolModel", "editionFrom", "[I", true)
  | 17 => ("LetterSchoolModel", "editionLessons", "[I", true)
  | 18 => ("LetterSchoolModel", "names", "[I", true)
  | 19 => ("LetterSchoolModel", "passes", "[I", true)
  | 20 => ("LetterSchoolModel", "rowFrom", "[I", true)
  | 21 => ("LetterSchoolModel", "rowTo", "[I", true)
  | 22 => ("LetterSchoolModel", "rows", "[I", true)
  | 23 => ("LetterSchoolModel", "pupils", "I", false)
  | 24 => ("LetterSchoolModel", "places", "[I", true)
  | 25 => ("LetterSchoolModel", "editions", "[I", true)
  | 26 => ("LetterSchoolModel", "begins", "[I", true)
  | 27 => ("LetterSchoolModel", "habits", "[I", true)
  | 28 => ("LetterSchoolModel", "left", "[I", true)
  | 29 => ("LetterSchoolModel", "paidAll", "[I", true)
  | 30 => ("LetterSchoolModel", "paidOn", "[I", true)
  | 31 => ("LetterSchoolModel", "bests", "[I", true)
  | 32 => ("LetterSchoolModel", "stack", "[Z", true)
  | 33 => ("LetterSchoolModel", "far", "[I", true)
  | 34 => ("LetterSchoolModel", "wave", "[I", true)
  | 35 => ("LetterSchoolModel", "postDays", "[I", true)
  | 36 => ("LetterSchoolModel", "postEach", "[I", true)
  | 37 => ("LetterSchoolModel", "postMany", "[I", true)
  | 38 => ("LetterSchoolModel", "things", "I", false)
  | 39 => ("LetterSchoolModel", "kinds", "[I", true)
  | 40 => ("LetterSchoolModel", "whose", "[I", true)
  | 41 => ("LetterSchoolModel", "named", "[I", true)
  | 42 => ("LetterSchoolModel", "lessons", "[I", true)
  | 43 => ("LetterSchoolModel", "firstSent", "[I", true)
  | 44 => ("LetterSchoolModel", "sent", "[I", true)
  | 45 => ("LetterSchoolModel", "comes", "[I", true)
  | 46 => ("LetterSchoolModel", "tutorOf", "[I", true)
  | 47 => ("LetterSchoolModel", "givenOn", "[I", true)
  | 48 => ("LetterSchoolModel", "agains", "[I", true)
  | 49 => ("LetterSchoolModel", "marks", "[I", true)
  | 50 => ("LetterSchoolModel", "markedOn", "[I", true)
  | 51 => ("LetterSchoolModel", "secondTutor", "[I", true)
  | 52 => ("LetterSchoolModel", "secondMarks", "[I", true)
  | 53 => ("LetterSchoolModel", "rowsOf", "[I", true)
  | 54 => ("LetterSchoolModel", "tutors", "I", false)
  | 55 => ("LetterSchoolModel", "teaches", "[I", true)
  | 56 => ("LetterSchoolModel", "paces", "[I", true)
  | 57 => ("LetterSchoolModel", "kin", "[I", true)
  | 58 => ("LetterSchoolModel", "loads", "[I", true)
  | 59 => ("LetterSchoolModel", "shared", "I", false)
  | 60 => ("LetterSchoolModel", "sharedThings", "[I", true)
  | 61 => ("LetterSchoolModel", "tried", "[I", true)
  | 62 => ("LetterSchoolModel", "bestTutors", "[I", true)
  | 63 => ("LetterSchoolModel", "more", "[I", true)
  | 64 => ("LetterSchoolModel", "bestMany", "I", false)
  | 65 => ("LetterSchoolModel", "bestSum", "I", false)
  | 66 => ("LetterSchoolModel", "triedMany", "I", false)
  | 67 => ("LetterSchoolModel", "triedSum", "I", false)
  | 68 => ("LetterSchoolModel", "keys", "[I", true)
  | 69 => ("LetterSchoolModel", "limit", "I", false)
  | 70 => ("LetterSchoolModel", "partMany", "[I", true)
  | 71 => ("LetterSchoolModel", "partDays", "[I", true)
  | 72 => ("LetterSchoolModel", "partPence", "[I", true)
  | 73 => ("LetterSchoolModel", "backMany", "[I", true)
  | 74 => ("LetterSchoolModel", "backDays", "[I", true)
  | 75 => ("LetterSchoolModel", "backParts", "[I", true)
  | 76 => ("LetterSchoolModel", "feeKinds", "[I", true)
  | 77 => ("LetterSchoolModel", "feeDays", "[I", true)
  | 78 => ("LetterSchoolModel", "feeNumbers", "[I", true)
  | 79 => ("LetterSchoolModel", "lanes", "[I", true)
  | 80 => ("LetterSchoolModel", "sizes", "[I", true)
  | _ => ("LetterSchoolModel", "items", "[I", true)
def tyX12 : Nat → FieldType := fun k => match k with
  | 0 => .array .int
  | 1 => .int
  | 2 => .int
  | 3 => .boolean
  | 4 => .array .int
  | 5 => .array .int
  | 6 => .array .int
  | 7 => .array .int
  | 8 => .array .int
  | 9 => .int
  | 10 => .int
  | 11 => .int
  | 12 => .int
  | 13 => .array .int
  | 14 => .int
  | 15 => .array .int
  | 16 => .array .int
  | 17 => .array .int
  | 18 => .array .int
  | 19 => .array .int
  | 20 => .array .int
  | 21 => .array .int
  | 22 => .array .int
  | 23 => .int
  | 24 => .array .int
  | 25 => .array .int
  | 26 => .array .int
  | 27 => .array .int
  | 28 => .array .int
  | 29 => .array .int
  | 30 => .array .int
  | 31 => .array .int
  | 32 => .array .boolean
  | 33 => .array .int
  | 34 => .array .int
  | 35 => .array .int
  | 36 => .array .int
  | 37 => .array .int
  | 38 => .int
  | 39 => .array .int
  | 40 => .array .int
  | 41 => .array .int
  | 42 => .array .int
  | 43 => .array .int
  | 44 => .array .int
  | 45 => .array .int
  | 46 => .array .int
  | 47 => .array .int
  | 48 => .array .int
  | 49 => .array .int
  | 50 => .array .int
  | 51 => .array .int
  | 52 => .array .int
  | 53 => .array .int
  | 54 => .int
  | 55 => .array .int
  | 56 => .array .int
  | 57 => .array .int
  | 58 => .array .int
  | 59 => .int
  | 60 => .array .int
  | 61 => .array .int
  | 62 => .array .int
  | 63 => .array .int
  | 64 => .int
  | 65 => .int
  | 66 => .int
  | 67 => .int
  | 68 => .array .int
  | 69 => .int
  | 70 => .array .int
  | 71 => .array .int
  | 72 => .array .int
  | 73 => .array .int
  | 74 => .array .int
  | 75 => .array .int
  | 76 => .array .int
  | 77 => .array .int
  | 78 => .array .int
  | 79 => .array .int
  | 80 => .array .int
  | _ => .array .int
theorem nmX12 : ∀ a, a < 82 → ∀ b, b < 82 → a ≠ b → (TX12 a).2.1 ≠ (TX12 b).2.1 := by decide +kernel
theorem tyX12_ok : ∀ k, k < 82 → parseFieldDescriptor (TX12 k).2.2.1 = some (tyX12 k) := by decide +kernel
abbrev cX12_in : ByteArray := prog_14_method_1_code
def yX12_in : MethodName := ⟨RX12, "in", "(JJJ)Z"⟩
abbrev cX12_init : ByteArray := prog_14_method_2_code
def yX12_init : MethodName := ⟨RX12, "<init>", "()V"⟩
abbrev cX12_isDay : ByteArray := prog_14_method_3_code
def yX12_isDay : MethodName := ⟨RX12, "isDay", "(I)Z"⟩
abbrev cX12_type : ByteArray := prog_14_method_4_code
def yX12_type : MethodName := ⟨RX12, "type", "(JI)I"⟩
abbrev cX12_next : ByteArray := prog_14_method_5_code
def yX12_next : MethodName := ⟨RX12, "next", "()I"⟩
abbrev cX12_fail : ByteArray := prog_14_method_6_code
def yX12_fail : MethodName := ⟨RX12, "fail", "(I)V"⟩
abbrev cX12_takes : ByteArray := prog_14_method_7_code
def yX12_takes : MethodName := ⟨RX12, "takes", "(I)Z"⟩
abbrev cX12_need : ByteArray := prog_14_method_8_code
def yX12_need : MethodName := ⟨RX12, "need", "(I)V"⟩
abbrev cX12_number : ByteArray := prog_14_method_9_code
def yX12_number : MethodName := ⟨RX12, "number", "(I)I"⟩
abbrev cX12_emit : ByteArray := prog_14_method_10_code
def yX12_emit : MethodName := ⟨RX12, "emit", "(I)V"⟩
abbrev cX12_turnIfTold : ByteArray := prog_14_method_11_code
def yX12_turnIfTold : MethodName := ⟨RX12, "turnIfTold", "()V"⟩
abbrev cX12_comeOut : ByteArray := prog_14_method_12_code
def yX12_comeOut : MethodName := ⟨RX12, "comeOut", "(I)V"⟩
abbrev cX12_readClaim : ByteArray := prog_14_method_13_code
def yX12_readClaim : MethodName := ⟨RX12, "readClaim", "(I)I"⟩
abbrev cX12_readLeans : ByteArray := prog_14_method_14_code
def yX12_readLeans : MethodName := ⟨RX12, "readLeans", "()V"⟩
abbrev cX12_readLesson : ByteArray := prog_14_method_15_code
def yX12_readLesson : MethodName := ⟨RX12, "readLesson", "()V"⟩
abbrev cX12_readEdition : ByteArray := prog_14_method_16_code
def yX12_readEdition : MethodName := ⟨RX12, "readEdition", "()V"⟩
abbrev cX12_isCourse : ByteArray := prog_14_method_17_code
def yX12_isCourse : MethodName := ⟨RX12, "isCourse", "(I)Z"⟩
abbrev cX12_edition : ByteArray := prog_14_method_18_code
def yX12_edition : MethodName := ⟨RX12, "edition", "(II)I"⟩
abbrev cX12_ones : ByteArray := prog_14_method_19_code
def yX12_ones : MethodName := ⟨RX12, "ones", "(I)I"⟩
abbrev cX12_isEdition : ByteArray := prog_14_method_20_code
def yX12_isEdition : MethodName := ⟨RX12, "isEdition", "(II)Z"⟩
abbrev cX12_told : ByteArray := prog_14_method_21_code
def yX12_told : MethodName := ⟨RX12, "told", "(III)I"⟩
abbrev cX12_hasLesson : ByteArray := prog_14_method_22_code
def yX12_hasLesson : MethodName := ⟨RX12, "hasLesson", "(II)Z"⟩
abbrev cX12_lesson : ByteArray := prog_14_method_23_code
def yX12_lesson : MethodName := ⟨RX12, "lesson", "(IIII)I"⟩
abbrev cX12_forceOn : ByteArray := prog_14_method_24_code
def yX12_forceOn : MethodName := ⟨RX12, "forceOn", "(II)I"⟩
abbrev cX12_pupil : ByteArray := prog_14_method_25_code
def yX12_pupil : MethodName := ⟨RX12, "pupil", "(III)I"⟩
abbrev cX12_isPupil : ByteArray := prog_14_method_26_code
def yX12_isPupil : MethodName := ⟨RX12, "isPupil", "(I)Z"⟩
abbrev cX12_hasLeft : ByteArray := prog_14_method_27_code
def yX12_hasLeft : MethodName := ⟨RX12, "hasLeft", "(II)Z"⟩
abbrev cX12_who : ByteArray := prog_14_method_28_code
def yX12_who : MethodName := ⟨RX12, "who", "(II)I"⟩
abbrev cX12_habit : ByteArray := prog_14_method_29_code
def yX12_habit : MethodName := ⟨RX12, "habit", "(II)I"⟩
abbrev cX12_findBests : ByteArray := prog_14_method_30_code
def yX12_findBests : MethodName := ⟨RX12, "findBests", "(II)V"⟩
abbrev cX12_bestOf : ByteArray := prog_14_method_31_code
def yX12_bestOf : MethodName := ⟨RX12, "bestOf", "(II)I"⟩
abbrev cX12_isPassed : ByteArray := prog_14_method_32_code
def yX12_isPassed : MethodName := ⟨RX12, "isPassed", "(II)Z"⟩
abbrev cX12_holds : ByteArray := prog_14_method_33_code
def yX12_holds : MethodName := ⟨RX12, "holds", "(II)Z"⟩
abbrev cX12_bitsOf : ByteArray := prog_14_method_34_code
def yX12_bitsOf : MethodName := ⟨RX12, "bitsOf", "(II)I"⟩
abbrev cX12_best : ByteArray := prog_14_method_35_code
def yX12_best : MethodName := ⟨RX12, "best", "(III)I"⟩
abbrev cX12_may : ByteArray := prog_14_method_36_code
def yX12_may : MethodName := ⟨RX12, "may", "(II)I"⟩
abbrev cX12_findWith : ByteArray := prog_14_method_37_code
def yX12_findWith : MethodName := ⟨RX12, "findWith", "(II)V"⟩
abbrev cX12_lean : ByteArray := prog_14_method_38_code
def yX12_lean : MethodName := ⟨RX12, "lean", "(II)I"⟩
abbrev cX12_post : ByteArray := prog_14_method_39_code
def yX12_post : MethodName := ⟨RX12, "post", "(III)I"⟩
abbrev cX12_goes : ByteArray := prog_14_method_40_code
def yX12_goes : MethodName := ⟨RX12, "goes", "(III)V"⟩
abbrev cX12_send : ByteArray := prog_14_method_41_code
def yX12_send : MethodName := ⟨RX12, "send", "(III)I"⟩
abbrev cX12_isThing : ByteArray := prog_14_method_42_code
def yX12_isThing : MethodName := ⟨RX12, "isThing", "(I)Z"⟩
abbrev cX12_answer : ByteArray := prog_14_method_43_code
def yX12_answer : MethodName := ⟨RX12, "answer", "(II)I"⟩
abbrev cX12_isAnswer : ByteArray := prog_14_method_44_code
def yX12_isAnswer : MethodName := ⟨RX12, "isAnswer", "(I)Z"⟩
abbrev cX12_suits : ByteArray := prog_14_method_45_code
def yX12_suits : MethodName := ⟨RX12, "suits", "(II)Z"⟩
abbrev cX12_give : ByteArray := prog_14_method_46_code
def yX12_give : MethodName := ⟨RX12, "give", "(III)I"⟩
abbrev cX12_isParts : ByteArray := prog_14_method_47_code
def yX12_isParts : MethodName := ⟨RX12, "isParts", "(III)Z"⟩
abbrev cX12_isGiven : ByteArray := prog_14_method_48_code
def yX12_isGiven : MethodName := ⟨RX12, "isGiven", "(II)Z"⟩
abbrev cX12_mark : ByteArray := prog_14_method_49_code
def yX12_mark : MethodName := ⟨RX12, "mark", "(IIIII)I"⟩
abbrev cX12_again : ByteArray := prog_14_method_50_code
def yX12_again : MethodName := ⟨RX12, "again", "(II)I"⟩
abbrev cX12_second : ByteArray := prog_14_method_51_code
def yX12_second : MethodName := ⟨RX12, "second", "(IIIII)I"⟩
abbrev cX12_thing : ByteArray := prog_14_method_52_code
def yX12_thing : MethodName := ⟨RX12, "thing", "(II)I"⟩
abbrev cX12_knownOn : ByteArray := prog_14_method_53_code
def yX12_knownOn : MethodName := ⟨RX12, "knownOn", "(I)I"⟩
abbrev cX12_marks : ByteArray := prog_14_method_54_code
def yX12_marks : MethodName := ⟨RX12, "marks", "(II)I"⟩
abbrev cX12_count : ByteArray := prog_14_method_55_code
def yX12_count : MethodName := ⟨RX12, "count", "(I)I"⟩
abbrev cX12_tutor : ByteArray := prog_14_method_56_code
def yX12_tutor : MethodName := ⟨RX12, "tutor", "(II)I"⟩
abbrev cX12_isTutor : ByteArray := prog_14_method_57_code
def yX12_isTutor : MethodName := ⟨RX12, "isTutor", "(I)Z"⟩
abbrev cX12_kin : ByteArray := prog_14_method_58_code
def yX12_kin : MethodName := ⟨RX12, "kin", "(II)I"⟩
abbrev cX12_load : ByteArray := prog_14_method_59_code
def yX12_load : MethodName := ⟨RX12, "load", "(I)I"⟩
abbrev cX12_daysFor : ByteArray := prog_14_method_60_code
def yX12_daysFor : MethodName := ⟨RX12, "daysFor", "(II)I"⟩
abbrev cX12_wait : ByteArray := prog_14_method_61_code
def yX12_wait : MethodName := ⟨RX12, "wait", "(II)I"⟩
abbrev cX12_took : ByteArray := prog_14_method_62_code
def yX12_took : MethodName := ⟨RX12, "took", "(I)I"⟩
abbrev cX12_look : ByteArray := prog_14_method_63_code
def yX12_look : MethodName := ⟨RX12, "look", "()V"⟩
abbrev cX12_step : ByteArray := prog_14_method_64_code
def yX12_step : MethodName := ⟨RX12, "step", "()Z"⟩
abbrev cX12_findShare : ByteArray := prog_14_method_65_code
def yX12_findShare : MethodName := ⟨RX12, "findShare", "(I)V"⟩
abbrev cX12_share : ByteArray := prog_14_method_66_code
def yX12_share : MethodName := ⟨RX12, "share", "(II)I"⟩
abbrev cX12_shareOf : ByteArray := prog_14_method_67_code
def yX12_shareOf : MethodName := ⟨RX12, "shareOf", "(II)I"⟩
abbrev cX12_offset : ByteArray := prog_14_method_68_code
def yX12_offset : MethodName := ⟨RX12, "offset", "(III)I"⟩
abbrev cX12_key : ByteArray := prog_14_method_69_code
def yX12_key : MethodName := ⟨RX12, "key", "(III)I"⟩
abbrev cX12_choose : ByteArray := prog_14_method_70_code
def yX12_choose : MethodName := ⟨RX12, "choose", "(III)I"⟩
abbrev cX12_likeOf : ByteArray := prog_14_method_71_code
def yX12_likeOf : MethodName := ⟨RX12, "likeOf", "(II)I"⟩
abbrev cX12_like : ByteArray := prog_14_method_72_code
def yX12_like : MethodName := ⟨RX12, "like", "(II)I"⟩
abbrev cX12_limit : ByteArray := prog_14_method_73_code
def yX12_limit : MethodName := ⟨RX12, "limit", "(I)I"⟩
abbrev cX12_doubted : ByteArray := prog_14_method_74_code
def yX12_doubted : MethodName := ⟨RX12, "doubted", "(I)I"⟩
abbrev cX12_readFees : ByteArray := prog_14_method_75_code
def yX12_readFees : MethodName := ⟨RX12, "readFees", "()I"⟩
abbrev cX12_fees : ByteArray := prog_14_method_76_code
def yX12_fees : MethodName := ⟨RX12, "fees", "(I)I"⟩
abbrev cX12_pay : ByteArray := prog_14_method_77_code
def yX12_pay : MethodName := ⟨RX12, "pay", "(III)I"⟩
abbrev cX12_paidBy : ByteArray := prog_14_method_78_code
def yX12_paidBy : MethodName := ⟨RX12, "paidBy", "(II)J"⟩
abbrev cX12_due : ByteArray := prog_14_method_79_code
def yX12_due : MethodName := ⟨RX12, "due", "(II)I"⟩
abbrev cX12_leave : ByteArray := prog_14_method_80_code
def yX12_leave : MethodName := ⟨RX12, "leave", "(II)I"⟩
abbrev cX12_move : ByteArray := prog_14_method_81_code
def yX12_move : MethodName := ⟨RX12, "move", "(III)I"⟩
abbrev cX12_isSheet : ByteArray := prog_14_method_82_code
def yX12_isSheet : MethodName := ⟨RX12, "isSheet", "(II)Z"⟩
abbrev cX12_sheet : ByteArray := prog_14_method_83_code
def yX12_sheet : MethodName := ⟨RX12, "sheet", "(III)I"⟩
abbrev cX12_drop : ByteArray := prog_14_method_84_code
def yX12_drop : MethodName := ⟨RX12, "drop", "(I)I"⟩
abbrev cX12_against : ByteArray := prog_14_method_85_code
def yX12_against : MethodName := ⟨RX12, "against", "(IIII)I"⟩
abbrev cX12_item : ByteArray := prog_14_method_86_code
def yX12_item : MethodName := ⟨RX12, "item", "(IIII)I"⟩
abbrev cX12_choices : ByteArray := prog_14_method_87_code
def yX12_choices : MethodName := ⟨RX12, "choices", "(IIIII)I"⟩
def RJ6 : String := "java/lang/Integer"
abbrev cJ6_bitCount_0f7a4 : ByteArray := prog_15_method_49_code
def yJ6_bitCount_0f7a4 : MethodName := ⟨RJ6, "bitCount", "(I)I"⟩
def RJ9 : String := "java/lang/Math"
abbrev cJ9_max_7cf53 : ByteArray := prog_16_method_65_code
def yJ9_max_7cf53 : MethodName := ⟨RJ9, "max", "(II)I"⟩
abbrev cJ9_min_7cf53 : ByteArray := prog_16_method_69_code
def yJ9_min_7cf53 : MethodName := ⟨RJ9, "min", "(II)I"⟩
def RJ10 : String := "java/lang/System"
def RJ7 : String := "java/util/Arrays"
abbrev cJ7_fill_53178 : ByteArray := prog_18_method_103_code
def yJ7_fill_53178 : MethodName := ⟨RJ7, "fill", "([II)V"⟩
def RL : String := "LetterSchoolLaw"
abbrev cL_law : ByteArray := code
def yL_law : MethodName := ⟨RL, "law", "([I)Z"⟩
abbrev vwCl : List vw_C := [(RX0, TX0, 9), (RX1, TX1, 4), (RX2, TX2, 4), (RX3, TX3, 3), (RX4, TX4, 7), (RX5, TX5, 12), (RX6, TX6, 3), (RX7, TX7, 3), (RX8, TX8, 15), (RX9, TX9, 4), (RX10, TX10, 3), (RX11, TX11, 20), (RX12, TX12, 82)]
def gW : List Cond := lw_tbl.filter goodWord
theorem gm_0 : (Cond.selects "LetterSchool" ⟨"LetterSchool", "latestFrom", "(I)I"⟩ ⟨"LetterSchool", "latestFrom", "(I)I"⟩) ∈ gW := List.mem_filter.mpr ⟨List.mem_of_getElem? (i := 0) (by decide +kernel), by decide +kernel⟩
theorem gm_1 : (Cond.selects "LetterSchool" ⟨"LetterSchool", "editionAt", "(II)LLetterSchool$Edition;"⟩ ⟨"LetterSchool", "editionAt", "(II)LLetterSchool$Edition;"⟩) ∈ gW := List.mem_filter.mpr ⟨List.mem_of_getElem? (i := 1) (by decide +kernel), by decide +kernel⟩
theorem gm_2 : (Cond.selects "LetterSchool$Tape" ⟨"LetterSchool$Tape", "readLesson", "(LLetterSchool$Edition;)Z"⟩ ⟨"LetterSchool$Tape", "readLesson", "(LLetterSchool$Edition;)Z"⟩) ∈ gW := List.mem_filter.mpr ⟨List.mem_of_getElem? (i := 2) (by decide +kernel), by decide +kernel⟩
theorem gm_3 : (Cond.selects "LetterSchool$Tape" ⟨"LetterSchool$Tape", "next", "()I"⟩ ⟨"LetterSchool$Tape", "next", "()I"⟩) ∈ gW := List.mem_filter.mpr ⟨List.mem_of_getElem? (i := 3) (by decide +kernel), by decide +kernel⟩
theorem gm_4 : (Cond.selects "LetterSchool$Tape" ⟨"LetterSchool$Tape", "takes", "(I)Z"⟩ ⟨"LetterSchool$Tape", "takes", "(I)Z"⟩) ∈ gW := List.mem_filter.mpr ⟨List.mem_of_getElem? (i := 4) (by decide +kernel), by decide +kernel⟩
theorem gm_5 : (Cond.selects "LetterSchool$Tape" ⟨"LetterSchool$Tape", "takeNumber", "(I)I"⟩ ⟨"LetterSchool$Tape", "takeNumber", "(I)I"⟩) ∈ gW := List.mem_filter.mpr ⟨List.mem_of_getElem? (i := 5) (by decide +kernel), by decide +kernel⟩
theorem gm_6 : (Cond.selects "LetterSchool$Tape" ⟨"LetterSchool$Tape", "readCases", "(LLetterSchool$Edition;II)Z"⟩ ⟨"LetterSchool$Tape", "readCases", "(LLetterSchool$Edition;II)Z"⟩) ∈ gW := List.mem_filter.mpr ⟨List.mem_of_getElem? (i := 6) (by decide +kernel), by decide +kernel⟩
theorem gm_7 : (Cond.selects "LetterSchool$Tape" ⟨"LetterSchool$Tape", "readClaim", "(LLetterSchool$Edition;II)Z"⟩ ⟨"LetterSchool$Tape", "readClaim", "(LLetterSchool$Edition;II)Z"⟩) ∈ gW := List.mem_filter.mpr ⟨List.mem_of_getElem? (i := 7) (by decide +kernel), by decide +kernel⟩
theorem gm_8 : (Cond.selects "LetterSchool$Tape" ⟨"LetterSchool$Tape", "readLeaning", "(LLetterSchool$Edition;I)Z"⟩ ⟨"LetterSchool$Tape", "readLeaning", "(LLetterSchool$Edition;I)Z"⟩) ∈ gW := List.mem_filter.mpr ⟨List.mem_of_getElem? (i := 8) (by decide +kernel), by decide +kernel⟩
theorem gm_9 : (Cond.selects "LetterSchool" ⟨"LetterSchool", "inForce", "(II)I"⟩ ⟨"LetterSchool", "inForce", "(II)I"⟩) ∈ gW := List.mem_filter.mpr ⟨List.mem_of_getElem? (i := 9) (by decide +kernel), by decide +kernel⟩
theorem gm_10 : (Cond.selects "LetterSchool" ⟨"LetterSchool", "pupilAt", "(I)LLetterSchool$Pupil;"⟩ ⟨"LetterSchool", "pupilAt", "(I)LLetterSchool$Pupil;"⟩) ∈ gW := List.mem_filter.mpr ⟨List.mem_of_getElem? (i := 10) (by decide +kernel), by decide +kernel⟩
theorem gm_11 : (Cond.selects "LetterSchool" ⟨"LetterSchool", "bestByName", "(III)I"⟩ ⟨"LetterSchool", "bestByName", "(III)I"⟩) ∈ gW := List.mem_filter.mpr ⟨List.mem_of_getElem? (i := 11) (by decide +kernel), by decide +kernel⟩
theorem gm_12 : (Cond.selects "LetterSchool" ⟨"LetterSchool", "fillBests", "(ILLetterSchool$Edition;)V"⟩ ⟨"LetterSchool", "fillBests", "(ILLetterSchool$Edition;)V"⟩) ∈ gW := List.mem_filter.mpr ⟨List.mem_of_getElem? (i := 12) (by decide +kernel), by decide +kernel⟩
theorem gm_13 : (Cond.selects "LetterSchool$Edition" ⟨"LetterSchool$Edition", "isPassed", "(I[I)Z"⟩ ⟨"LetterSchool$Edition", "isPassed", "(I[I)Z"⟩) ∈ gW := List.mem_filter.mpr ⟨List.mem_of_getElem? (i := 13) (by decide +kernel), by decide +kernel⟩
theorem gm_14 : (Cond.selects "LetterSchool$Edition" ⟨"LetterSchool$Edition", "holds", "(I[I)Z"⟩ ⟨"LetterSchool$Edition", "holds", "(I[I)Z"⟩) ∈ gW := List.mem_filter.mpr ⟨List.mem_of_getElem? (i := 14) (by decide +kernel), by decide +kernel⟩
theorem gm_15 : (Cond.selects "LetterSchool$Edition" ⟨"LetterSchool$Edition", "claimHolds", "(I[I)Z"⟩ ⟨"LetterSchool$Edition", "claimHolds", "(I[I)Z"⟩) ∈ gW := List.mem_filter.mpr ⟨List.mem_of_getElem? (i := 15) (by decide +kernel), by decide +kernel⟩
theorem gm_16 : (Cond.selects "LetterSchool$Way" ⟨"LetterSchool$Way", "raise", "([II)V"⟩ ⟨"LetterSchool$Way", "raise", "([II)V"⟩) ∈ gW := List.mem_filter.mpr ⟨List.mem_of_getElem? (i := 16) (by decide +kernel), by decide +kernel⟩
theorem gm_17 : (Cond.selects "LetterSchool$Way" ⟨"LetterSchool$Way", "reach", "(LLetterSchool$Edition;II)I"⟩ ⟨"LetterSchool$Way", "reach", "(LLetterSchool$Edition;II)I"⟩) ∈ gW := List.mem_filter.mpr ⟨List.mem_of_getElem? (i := 17) (by decide +kernel), by decide +kernel⟩
theorem gm_18 : (Cond.selects "LetterSchool" ⟨"LetterSchool", "carry", "(LLetterSchool$Thing;LLetterSchool$Pupil;I)I"⟩ ⟨"LetterSchool", "carry", "(LLetterSchool$Thing;LLetterSchool$Pupil;I)I"⟩) ∈ gW := List.mem_filter.mpr ⟨List.mem_of_getElem? (i := 18) (by decide +kernel), by decide +kernel⟩
theorem gm_19 : (Cond.selects "LetterSchool" ⟨"LetterSchool", "thingAt", "(I)LLetterSchool$Thing;"⟩ ⟨"LetterSchool", "thingAt", "(I)LLetterSchool$Thing;"⟩) ∈ gW := List.mem_filter.mpr ⟨List.mem_of_getElem? (i := 19) (by decide +kernel), by decide +kernel⟩
theorem gm_20 : (Cond.selects "LetterSchool" ⟨"LetterSchool", "tutorAt", "(I)LLetterSchool$Tutor;"⟩ ⟨"LetterSchool", "tutorAt", "(I)LLetterSchool$Tutor;"⟩) ∈ gW := List.mem_filter.mpr ⟨List.mem_of_getElem? (i := 20) (by decide +kernel), by decide +kernel⟩
theorem gm_21 : (Cond.selects "LetterSchool" ⟨"LetterSchool", "unload", "(LLetterSchool$Thing;)V"⟩ ⟨"LetterSchool", "unload", "(LLetterSchool$Thing;)V"⟩) ∈ gW := List.mem_filter.mpr ⟨List.mem_of_getElem? (i := 21) (by decide +kernel), by decide +kernel⟩
theorem gm_22 : (Cond.selects "LetterSchool" ⟨"LetterSchool", "knownOn", "(LLetterSchool$Thing;)I"⟩ ⟨"LetterSchool", "knownOn", "(LLetterSchool$Thing;)I"⟩) ∈ gW := List.mem_filter.mpr ⟨List.mem_of_getElem? (i := 22) (by decide +kernel), by decide +kernel⟩
theorem gm_23 : (Cond.selects "LetterSchool" ⟨"LetterSchool", "shareBy", "(I)V"⟩ ⟨"LetterSchool", "shareBy", "(I)V"⟩) ∈ gW := List.mem_filter.mpr ⟨List.mem_of_getElem? (i := 23) (by decide +kernel), by decide +kernel⟩
theorem gm_24 : (Cond.selects "LetterSchool" ⟨"LetterSchool", "tutorsFor", "(LLetterSchool$Thing;)I"⟩ ⟨"LetterSchool", "tutorsFor", "(LLetterSchool$Thing;)I"⟩) ∈ gW := List.mem_filter.mpr ⟨List.mem_of_getElem? (i := 24) (by decide +kernel), by decide +kernel⟩
theorem gm_25 : (Cond.selects "LetterSchool$Sharing" ⟨"LetterSchool$Sharing", "lookAhead", "()V"⟩ ⟨"LetterSchool$Sharing", "lookAhead", "()V"⟩) ∈ gW := List.mem_filter.mpr ⟨List.mem_of_getElem? (i := 25) (by decide +kernel), by decide +kernel⟩
theorem gm_26 : (Cond.selects "LetterSchool$Sharing" ⟨"LetterSchool$Sharing", "fewestDays", "(I)I"⟩ ⟨"LetterSchool$Sharing", "fewestDays", "(I)I"⟩) ∈ gW := List.mem_filter.mpr ⟨List.mem_of_getElem? (i := 26) (by decide +kernel), by decide +kernel⟩
theorem gm_27 : (Cond.selects "LetterSchool$Sharing" ⟨"LetterSchool$Sharing", "canTake", "(II)Z"⟩ ⟨"LetterSchool$Sharing", "canTake", "(II)Z"⟩) ∈ gW := List.mem_filter.mpr ⟨List.mem_of_getElem? (i := 27) (by decide +kernel), by decide +kernel⟩
theorem gm_28 : (Cond.selects "LetterSchool$Sharing" ⟨"LetterSchool$Sharing", "seek", "(III)V"⟩ ⟨"LetterSchool$Sharing", "seek", "(III)V"⟩) ∈ gW := List.mem_filter.mpr ⟨List.mem_of_getElem? (i := 28) (by decide +kernel), by decide +kernel⟩
theorem gm_29 : (Cond.selects "LetterSchool$Sharing" ⟨"LetterSchool$Sharing", "canBeBetter", "(III)Z"⟩ ⟨"LetterSchool$Sharing", "canBeBetter", "(III)Z"⟩) ∈ gW := List.mem_filter.mpr ⟨List.mem_of_getElem? (i := 29) (by decide +kernel), by decide +kernel⟩
theorem gm_30 : (Cond.selects "LetterSchool" ⟨"LetterSchool", "likeness", "(LLetterSchool$Thing;LLetterSchool$Thing;)I"⟩ ⟨"LetterSchool", "likeness", "(LLetterSchool$Thing;LLetterSchool$Thing;)I"⟩) ∈ gW := List.mem_filter.mpr ⟨List.mem_of_getElem? (i := 30) (by decide +kernel), by decide +kernel⟩
theorem gm_31 : (Cond.selects "LetterSchool" ⟨"LetterSchool", "isDoubted", "(LLetterSchool$Thing;LLetterSchool$Thing;)Z"⟩ ⟨"LetterSchool", "isDoubted", "(LLetterSchool$Thing;LLetterSchool$Thing;)Z"⟩) ∈ gW := List.mem_filter.mpr ⟨List.mem_of_getElem? (i := 31) (by decide +kernel), by decide +kernel⟩
theorem gm_32 : (Cond.selects "LetterSchool$Tape" ⟨"LetterSchool$Tape", "readFee", "(LLetterSchool$Fees;)Z"⟩ ⟨"LetterSchool$Tape", "readFee", "(LLetterSchool$Fees;)Z"⟩) ∈ gW := List.mem_filter.mpr ⟨List.mem_of_getElem? (i := 32) (by decide +kernel), by decide +kernel⟩
theorem gm_33 : (Cond.selects "LetterSchoolModel" ⟨"LetterSchoolModel", "readEdition", "()V"⟩ ⟨"LetterSchoolModel", "readEdition", "()V"⟩) ∈ gW := List.mem_filter.mpr ⟨List.mem_of_getElem? (i := 33) (by decide +kernel), by decide +kernel⟩
theorem gm_34 : (Cond.selects "LetterSchoolModel" ⟨"LetterSchoolModel", "readLesson", "()V"⟩ ⟨"LetterSchoolModel", "readLesson", "()V"⟩) ∈ gW := List.mem_filter.mpr ⟨List.mem_of_getElem? (i := 34) (by decide +kernel), by decide +kernel⟩
theorem gm_35 : (Cond.selects "LetterSchoolModel" ⟨"LetterSchoolModel", "next", "()I"⟩ ⟨"LetterSchoolModel", "next", "()I"⟩) ∈ gW := List.mem_filter.mpr ⟨List.mem_of_getElem? (i := 35) (by decide +kernel), by decide +kernel⟩
theorem gm_36 : (Cond.selects "LetterSchoolModel" ⟨"LetterSchoolModel", "fail", "(I)V"⟩ ⟨"LetterSchoolModel", "fail", "(I)V"⟩) ∈ gW := List.mem_filter.mpr ⟨List.mem_of_getElem? (i := 36) (by decide +kernel), by decide +kernel⟩
theorem gm_37 : (Cond.selects "LetterSchoolModel" ⟨"LetterSchoolModel", "need", "(I)V"⟩ ⟨"LetterSchoolModel", "need", "(I)V"⟩) ∈ gW := List.mem_filter.mpr ⟨List.mem_of_getElem? (i := 37) (by decide +kernel), by decide +kernel⟩
theorem gm_38 : (Cond.selects "LetterSchoolModel" ⟨"LetterSchoolModel", "takes", "(I)Z"⟩ ⟨"LetterSchoolModel", "takes", "(I)Z"⟩) ∈ gW := List.mem_filter.mpr ⟨List.mem_of_getElem? (i := 38) (by decide +kernel), by decide +kernel⟩
theorem gm_39 : (Cond.selects "LetterSchoolModel" ⟨"LetterSchoolModel", "number", "(I)I"⟩ ⟨"LetterSchoolModel", "number", "(I)I"⟩) ∈ gW := List.mem_filter.mpr ⟨List.mem_of_getElem? (i := 39) (by decide +kernel), by decide +kernel⟩
theorem gm_40 : (Cond.selects "LetterSchoolModel" ⟨"LetterSchoolModel", "readLeans", "()V"⟩ ⟨"LetterSchoolModel", "readLeans", "()V"⟩) ∈ gW := List.mem_filter.mpr ⟨List.mem_of_getElem? (i := 40) (by decide +kernel), by decide +kernel⟩
theorem gm_41 : (Cond.selects "LetterSchoolModel" ⟨"LetterSchoolModel", "readClaim", "(I)I"⟩ ⟨"LetterSchoolModel", "readClaim", "(I)I"⟩) ∈ gW := List.mem_filter.mpr ⟨List.mem_of_getElem? (i := 41) (by decide +kernel), by decide +kernel⟩
theorem gm_42 : (Cond.selects "LetterSchoolModel" ⟨"LetterSchoolModel", "emit", "(I)V"⟩ ⟨"LetterSchoolModel", "emit", "(I)V"⟩) ∈ gW := List.mem_filter.mpr ⟨List.mem_of_getElem? (i := 42) (by decide +kernel), by decide +kernel⟩
theorem gm_43 : (Cond.selects "LetterSchoolModel" ⟨"LetterSchoolModel", "turnIfTold", "()V"⟩ ⟨"LetterSchoolModel", "turnIfTold", "()V"⟩) ∈ gW := List.mem_filter.mpr ⟨List.mem_of_getElem? (i := 43) (by decide +kernel), by decide +kernel⟩
theorem gm_44 : (Cond.selects "LetterSchoolModel" ⟨"LetterSchoolModel", "comeOut", "(I)V"⟩ ⟨"LetterSchoolModel", "comeOut", "(I)V"⟩) ∈ gW := List.mem_filter.mpr ⟨List.mem_of_getElem? (i := 44) (by decide +kernel), by decide +kernel⟩
theorem gm_45 : (Cond.selects "LetterSchoolModel" ⟨"LetterSchoolModel", "isEdition", "(II)Z"⟩ ⟨"LetterSchoolModel", "isEdition", "(II)Z"⟩) ∈ gW := List.mem_filter.mpr ⟨List.mem_of_getElem? (i := 45) (by decide +kernel), by decide +kernel⟩
theorem gm_46 : (Cond.selects "LetterSchoolModel" ⟨"LetterSchoolModel", "hasLesson", "(II)Z"⟩ ⟨"LetterSchoolModel", "hasLesson", "(II)Z"⟩) ∈ gW := List.mem_filter.mpr ⟨List.mem_of_getElem? (i := 46) (by decide +kernel), by decide +kernel⟩
theorem gm_47 : (Cond.selects "LetterSchoolModel" ⟨"LetterSchoolModel", "forceOn", "(II)I"⟩ ⟨"LetterSchoolModel", "forceOn", "(II)I"⟩) ∈ gW := List.mem_filter.mpr ⟨List.mem_of_getElem? (i := 47) (by decide +kernel), by decide +kernel⟩
theorem gm_48 : (Cond.selects "LetterSchoolModel" ⟨"LetterSchoolModel", "isPupil", "(I)Z"⟩ ⟨"LetterSchoolModel", "isPupil", "(I)Z"⟩) ∈ gW := List.mem_filter.mpr ⟨List.mem_of_getElem? (i := 48) (by decide +kernel), by decide +kernel⟩
theorem gm_49 : (Cond.selects "LetterSchoolModel" ⟨"LetterSchoolModel", "findBests", "(II)V"⟩ ⟨"LetterSchoolModel", "findBests", "(II)V"⟩) ∈ gW := List.mem_filter.mpr ⟨List.mem_of_getElem? (i := 49) (by decide +kernel), by decide +kernel⟩
theorem gm_50 : (Cond.selects "LetterSchoolModel" ⟨"LetterSchoolModel", "bestOf", "(II)I"⟩ ⟨"LetterSchoolModel", "bestOf", "(II)I"⟩) ∈ gW := List.mem_filter.mpr ⟨List.mem_of_getElem? (i := 50) (by decide +kernel), by decide +kernel⟩
theorem gm_51 : (Cond.selects "LetterSchoolModel" ⟨"LetterSchoolModel", "bitsOf", "(II)I"⟩ ⟨"LetterSchoolModel", "bitsOf", "(II)I"⟩) ∈ gW := List.mem_filter.mpr ⟨List.mem_of_getElem? (i := 51) (by decide +kernel), by decide +kernel⟩
theorem gm_52 : (Cond.selects "LetterSchoolModel" ⟨"LetterSchoolModel", "isPassed", "(II)Z"⟩ ⟨"LetterSchoolModel", "isPassed", "(II)Z"⟩) ∈ gW := List.mem_filter.mpr ⟨List.mem_of_getElem? (i := 52) (by decide +kernel), by decide +kernel⟩
theorem gm_53 : (Cond.selects "LetterSchoolModel" ⟨"LetterSchoolModel", "holds", "(II)Z"⟩ ⟨"LetterSchoolModel", "holds", "(II)Z"⟩) ∈ gW := List.mem_filter.mpr ⟨List.mem_of_getElem? (i := 53) (by decide +kernel), by decide +kernel⟩
theorem gm_54 : (Cond.selects "LetterSchoolModel" ⟨"LetterSchoolModel", "findWith", "(II)V"⟩ ⟨"LetterSchoolModel", "findWith", "(II)V"⟩) ∈ gW := List.mem_filter.mpr ⟨List.mem_of_getElem? (i := 54) (by decide +kernel), by decide +kernel⟩
theorem gm_55 : (Cond.selects "LetterSchoolModel" ⟨"LetterSchoolModel", "hasLeft", "(II)Z"⟩ ⟨"LetterSchoolModel", "hasLeft", "(II)Z"⟩) ∈ gW := List.mem_filter.mpr ⟨List.mem_of_getElem? (i := 55) (by decide +kernel), by decide +kernel⟩
theorem gm_56 : (Cond.selects "LetterSchoolModel" ⟨"LetterSchoolModel", "goes", "(III)V"⟩ ⟨"LetterSchoolModel", "goes", "(III)V"⟩) ∈ gW := List.mem_filter.mpr ⟨List.mem_of_getElem? (i := 56) (by decide +kernel), by decide +kernel⟩
theorem gm_57 : (Cond.selects "LetterSchoolModel" ⟨"LetterSchoolModel", "isThing", "(I)Z"⟩ ⟨"LetterSchoolModel", "isThing", "(I)Z"⟩) ∈ gW := List.mem_filter.mpr ⟨List.mem_of_getElem? (i := 57) (by decide +kernel), by decide +kernel⟩
theorem gm_58 : (Cond.selects "LetterSchoolModel" ⟨"LetterSchoolModel", "isTutor", "(I)Z"⟩ ⟨"LetterSchoolModel", "isTutor", "(I)Z"⟩) ∈ gW := List.mem_filter.mpr ⟨List.mem_of_getElem? (i := 58) (by decide +kernel), by decide +kernel⟩
theorem gm_59 : (Cond.selects "LetterSchoolModel" ⟨"LetterSchoolModel", "isAnswer", "(I)Z"⟩ ⟨"LetterSchoolModel", "isAnswer", "(I)Z"⟩) ∈ gW := List.mem_filter.mpr ⟨List.mem_of_getElem? (i := 59) (by decide +kernel), by decide +kernel⟩
theorem gm_60 : (Cond.selects "LetterSchoolModel" ⟨"LetterSchoolModel", "suits", "(II)Z"⟩ ⟨"LetterSchoolModel", "suits", "(II)Z"⟩) ∈ gW := List.mem_filter.mpr ⟨List.mem_of_getElem? (i := 60) (by decide +kernel), by decide +kernel⟩
theorem gm_61 : (Cond.selects "LetterSchoolModel" ⟨"LetterSchoolModel", "isGiven", "(II)Z"⟩ ⟨"LetterSchoolModel", "isGiven", "(II)Z"⟩) ∈ gW := List.mem_filter.mpr ⟨List.mem_of_getElem? (i := 61) (by decide +kernel), by decide +kernel⟩
theorem gm_62 : (Cond.selects "LetterSchoolModel" ⟨"LetterSchoolModel", "knownOn", "(I)I"⟩ ⟨"LetterSchoolModel", "knownOn", "(I)I"⟩) ∈ gW := List.mem_filter.mpr ⟨List.mem_of_getElem? (i := 62) (by decide +kernel), by decide +kernel⟩
theorem gm_63 : (Cond.selects "LetterSchoolModel" ⟨"LetterSchoolModel", "daysFor", "(II)I"⟩ ⟨"LetterSchoolModel", "daysFor", "(II)I"⟩) ∈ gW := List.mem_filter.mpr ⟨List.mem_of_getElem? (i := 63) (by decide +kernel), by decide +kernel⟩
theorem gm_64 : (Cond.selects "LetterSchoolModel" ⟨"LetterSchoolModel", "findShare", "(I)V"⟩ ⟨"LetterSchoolModel", "findShare", "(I)V"⟩) ∈ gW := List.mem_filter.mpr ⟨List.mem_of_getElem? (i := 64) (by decide +kernel), by decide +kernel⟩
theorem gm_65 : (Cond.selects "LetterSchoolModel" ⟨"LetterSchoolModel", "look", "()V"⟩ ⟨"LetterSchoolModel", "look", "()V"⟩) ∈ gW := List.mem_filter.mpr ⟨List.mem_of_getElem? (i := 65) (by decide +kernel), by decide +kernel⟩
theorem gm_66 : (Cond.selects "LetterSchoolModel" ⟨"LetterSchoolModel", "step", "()Z"⟩ ⟨"LetterSchoolModel", "step", "()Z"⟩) ∈ gW := List.mem_filter.mpr ⟨List.mem_of_getElem? (i := 66) (by decide +kernel), by decide +kernel⟩
theorem gm_67 : (Cond.selects "LetterSchoolModel" ⟨"LetterSchoolModel", "likeOf", "(II)I"⟩ ⟨"LetterSchoolModel", "likeOf", "(II)I"⟩) ∈ gW := List.mem_filter.mpr ⟨List.mem_of_getElem? (i := 67) (by decide +kernel), by decide +kernel⟩
theorem gm_68 : (Cond.selects "LetterSchoolModel" ⟨"LetterSchoolModel", "readFees", "()I"⟩ ⟨"LetterSchoolModel", "readFees", "()I"⟩) ∈ gW := List.mem_filter.mpr ⟨List.mem_of_getElem? (i := 68) (by decide +kernel), by decide +kernel⟩
theorem gm_69 : (Cond.selects "LetterSchoolModel" ⟨"LetterSchoolModel", "paidBy", "(II)J"⟩ ⟨"LetterSchoolModel", "paidBy", "(II)J"⟩) ∈ gW := List.mem_filter.mpr ⟨List.mem_of_getElem? (i := 69) (by decide +kernel), by decide +kernel⟩
theorem gm_70 : (Cond.selects "LetterSchoolModel" ⟨"LetterSchoolModel", "against", "(IIII)I"⟩ ⟨"LetterSchoolModel", "against", "(IIII)I"⟩) ∈ gW := List.mem_filter.mpr ⟨List.mem_of_getElem? (i := 70) (by decide +kernel), by decide +kernel⟩
theorem gm_71 : (Cond.initialized "LetterSchoolLaw") ∈ gW := List.mem_filter.mpr ⟨List.mem_of_getElem? (i := 71) (by decide +kernel), by decide +kernel⟩
theorem gm_72 : (Cond.initialized "LetterSchool") ∈ gW := List.mem_filter.mpr ⟨List.mem_of_getElem? (i := 72) (by decide +kernel), by decide +kernel⟩
theorem gm_73 : (Cond.initialized "LetterSchool$Tape") ∈ gW := List.mem_filter.mpr ⟨List.mem_of_getElem? (i := 73) (by decide +kernel), by decide +kernel⟩
theorem gm_74 : (Cond.initialized "LetterSchool$Edition") ∈ gW := List.mem_filter.mpr ⟨List.mem_of_getElem? (i := 74) (by decide +kernel), by decide +kernel⟩
theorem gm_75 : (Cond.initialized "LetterSchool$Fees") ∈ gW := List.mem_filter.mpr ⟨List.mem_of_getElem? (i := 75) (by decide +kernel), by decide +kernel⟩
theorem gm_76 : (Cond.initialized "LetterSchool$Ledger") ∈ gW := List.mem_filter.mpr ⟨List.mem_of_getElem? (i := 76) (by decide +kernel), by decide +kernel⟩
theorem gm_77 : (Cond.initialized "LetterSchool$Sharing") ∈ gW := List.mem_filter.mpr ⟨List.mem_of_getElem? (i := 77) (by decide +kernel), by decide +kernel⟩
theorem gm_78 : (Cond.initialized "LetterSchool$Way") ∈ gW := List.mem_filter.mpr ⟨List.mem_of_getElem? (i := 78) (by decide +kernel), by decide +kernel⟩
theorem gm_79 : (Cond.initialized "LetterSchool$Post") ∈ gW := List.mem_filter.mpr ⟨List.mem_of_getElem? (i := 79) (by decide +kernel), by decide +kernel⟩
theorem gm_80 : (Cond.initialized "LetterSchool$Sheet") ∈ gW := List.mem_filter.mpr ⟨List.mem_of_getElem? (i := 80) (by decide +kernel), by decide +kernel⟩
theorem gm_81 : (Cond.initialized "LetterSchoolModel") ∈ gW := List.mem_filter.mpr ⟨List.mem_of_getElem? (i := 81) (by decide +kernel), by decide +kernel⟩
theorem gm_82 : (Cond.initialized "java/lang/Math") ∈ gW := List.mem_filter.mpr ⟨List.mem_of_getElem? (i := 82) (by decide +kernel), by decide +kernel⟩
theorem gm_83 : (Cond.initialized "java/lang/Integer") ∈ gW := List.mem_filter.mpr ⟨List.mem_of_getElem? (i := 83) (by decide +kernel), by decide +kernel⟩
theorem gm_84 : (Cond.initialized "LetterSchool$Pupil") ∈ gW := List.mem_filter.mpr ⟨List.mem_of_getElem? (i := 84) (by decide +kernel), by decide +kernel⟩
theorem gm_85 : (Cond.initialized "java/util/Arrays") ∈ gW := List.mem_filter.mpr ⟨List.mem_of_getElem? (i := 85) (by decide +kernel), by decide +kernel⟩
theorem gm_86 : (Cond.initialized "LetterSchool$Thing") ∈ gW := List.mem_filter.mpr ⟨List.mem_of_getElem? (i := 86) (by decide +kernel), by decide +kernel⟩
theorem gm_87 : (Cond.initialized "LetterSchool$Tutor") ∈ gW := List.mem_filter.mpr ⟨List.mem_of_getElem? (i := 87) (by decide +kernel), by decide +kernel⟩
theorem gm_88 : (Cond.initialized "java/lang/System") ∈ gW := List.mem_filter.mpr ⟨List.mem_of_getElem? (i := 88) (by decide +kernel), by decide +kernel⟩
theorem gm_89 : (Cond.classLink "LetterSchoolLaw" 7 "LetterSchool") ∈ gW := List.mem_filter.mpr ⟨List.mem_of_getElem? (i := 89) (by decide +kernel), by decide +kernel⟩
theorem gm_90 : (Cond.instantiable "LetterSchool" 20) ∈ gW := List.mem_filter.mpr ⟨List.mem_of_getElem? (i := 90) (by decide +kernel), by decide +kernel⟩
theorem gm_91 : (Cond.methodLink "LetterSchoolLaw" 9 ⟨"LetterSchool", "<init>", "()V"⟩) ∈ gW := List.mem_filter.mpr ⟨List.mem_of_getElem? (i := 91) (by decide +kernel), by decide +kernel⟩
theorem gm_92 : (Cond.instanceMethod ⟨"LetterSchool", "<init>", "()V"⟩) ∈ gW := List.mem_filter.mpr ⟨List.mem_of_getElem? (i := 92) (by decide +kernel), by decide +kernel⟩
theorem gm_93 : (Cond.code ⟨"LetterSchool", "<init>", "()V"⟩ prog_1_method_1_code 2 (Option.none : Option FieldType)) ∈ gW := List.mem_filter.mpr ⟨List.mem_of_getElem? (i := 93) (by decide +kernel), by decide +kernel⟩
theorem gm_94 : (Cond.methodLink "LetterSchool" 1 ⟨"java/lang/Object", "<init>", "()V"⟩) ∈ gW := List.mem_filter.mpr ⟨List.mem_of_getElem? (i := 94) (by decide +kernel), by decide +kernel⟩
theorem gm_95 : (Cond.instanceMethod ⟨"java/lang/Object", "<init>", "()V"⟩) ∈ gW := List.mem_filter.mpr ⟨List.mem_of_getElem? (i := 95) (by decide +kernel), by decide +kernel⟩
theorem gm_96 : (Cond.code ⟨"java/lang/Object", "<init>", "()V"⟩ object_method_1_code 1 (Option.none : Option FieldType)) ∈ gW := List.mem_filter.mpr ⟨List.mem_of_getElem? (i := 96) (by decide +kernel), by decide +kernel⟩
theorem gm_97 : (Cond.classLink "LetterSchool" 7 "LetterSchool$Tape") ∈ gW := List.mem_filter.mpr ⟨List.mem_of_getElem? (i := 97) (by decide +kernel), by decide +kernel⟩
theorem gm_98 : (Cond.instantiable "LetterSchool$Tape" 3) ∈ gW := List.mem_filter.mpr ⟨List.mem_of_getElem? (i := 98) (by decide +kernel), by decide +kernel⟩
theorem gm_100 : (Cond.instanceMethod ⟨"LetterSchool$Tape", "<init>", "()V"⟩) ∈ gW := List.mem_filter.mpr ⟨List.mem_of_getElem? (i := 100) (by decide +kernel), by decide +kernel⟩
theorem gm_101 : (Cond.code ⟨"LetterSchool$Tape", "<init>", "()V"⟩ prog_9_method_1_code 1 (Option.none : Option FieldType)) ∈ gW := List.mem_filter.mpr ⟨List.mem_of_getElem? (i := 101) (by decide +kernel), by decide +kernel⟩
theorem gm_102 : (Cond.methodLink "LetterSchool$Tape" 3 ⟨"java/lang/Object", "<init>", "()V"⟩) ∈ gW := List.mem_filter.mpr ⟨List.mem_of_getElem? (i := 102) (by decide +kernel), by decide +kernel⟩
theorem gm_103 : (Cond.fieldLink "LetterSchool$Tape" 11 "LetterSchool$Tape" "signs" "[B") ∈ gW := List.mem_filter.mpr ⟨List.mem_of_getElem? (i := 103) (by decide +kernel), by decide +kernel⟩
theorem gm_104 : (Cond.fieldLink "LetterSchool$Tape" 15 "LetterSchool$Tape" "length" "I") ∈ gW := List.mem_filter.mpr ⟨List.mem_of_getElem? (i := 104) (by decide +kernel), by decide +kernel⟩
theorem gm_106 : (Cond.fieldLink "LetterSchool$Tape" 19 "LetterSchool$Tape" "place" "I") ∈ gW := List.mem_filter.mpr ⟨List.mem_of_getElem? (i := 106) (by decide +kernel), by decide +kernel⟩
theorem gm_115 : (Cond.arrayClass FieldType.byte) ∈ gW := List.mem_filter.mpr ⟨List.mem_of_getElem? (i := 115) (by decide +kernel), by decide +kernel⟩
theorem gm_116 : (Cond.classLink "LetterSchool" 16 "LetterSchool$Edition") ∈ gW := List.mem_filter.mpr ⟨List.mem_of_getElem? (i := 116) (by decide +kernel), by decide +kernel⟩
theorem gm_118 : (Cond.classLink "LetterSchool" 26 "LetterSchool$Fees") ∈ gW := List.mem_filter.mpr ⟨List.mem_of_getElem? (i := 118) (by decide +kernel), by decide +kernel⟩
theorem gm_120 : (Cond.instantiable "LetterSchool$Edition" 9) ∈ gW := List.mem_filter.mpr ⟨List.mem_of_getElem? (i := 120) (by decide +kernel), by decide +kernel⟩
theorem gm_122 : (Cond.instanceMethod ⟨"LetterSchool$Edition", "<init>", "()V"⟩) ∈ gW := List.mem_filter.mpr ⟨List.mem_of_getElem? (i := 122) (by decide +kernel), by decide +kernel⟩
theorem gm_123 : (Cond.code ⟨"LetterSchool$Edition", "<init>", "()V"⟩ prog_2_method_1_code 1 (Option.none : Option FieldType)) ∈ gW := List.mem_filter.mpr ⟨List.mem_of_getElem? (i := 123) (by decide +kernel), by decide +kernel⟩
theorem gm_124 : (Cond.methodLink "LetterSchool$Edition" 3 ⟨"java/lang/Object", "<init>", "()V"⟩) ∈ gW := List.mem_filter.mpr ⟨List.mem_of_getElem? (i := 124) (by decide +kernel), by decide +kernel⟩
theorem gm_125 : (Cond.fieldLink "LetterSchool$Edition" 9 "LetterSchool$Edition" "from" "I") ∈ gW := List.mem_filter.mpr ⟨List.mem_of_getElem? (i := 125) (by decide +kernel), by decide +kernel⟩
theorem gm_127 : (Cond.fieldLink "LetterSchool$Edition" 15 "LetterSchool$Edition" "lessons" "I") ∈ gW := List.mem_filter.mpr ⟨List.mem_of_getElem? (i := 127) (by decide +kernel), by decide +kernel⟩
theorem gm_129 : (Cond.fieldLink "LetterSchool$Edition" 18 "LetterSchool$Edition" "name" "[I") ∈ gW := List.mem_filter.mpr ⟨List.mem_of_getElem? (i := 129) (by decide +kernel), by decide +kernel⟩
theorem gm_131 : (Cond.fieldLink "LetterSchool$Edition" 22 "LetterSchool$Edition" "pass" "[I") ∈ gW := List.mem_filter.mpr ⟨List.mem_of_getElem? (i := 131) (by decide +kernel), by decide +kernel⟩
theorem gm_133 : (Cond.fieldLink "LetterSchool$Edition" 25 "LetterSchool$Edition" "stands" "[I") ∈ gW := List.mem_filter.mpr ⟨List.mem_of_getElem? (i := 133) (by decide +kernel), by decide +kernel⟩
theorem gm_135 : (Cond.fieldLink "LetterSchool$Edition" 28 "LetterSchool$Edition" "start" "[I") ∈ gW := List.mem_filter.mpr ⟨List.mem_of_getElem? (i := 135) (by decide +kernel), by decide +kernel⟩
theorem gm_136 : (Cond.fieldLink "LetterSchool$Edition" 31 "LetterSchool$Edition" "end" "[I") ∈ gW := List.mem_filter.mpr ⟨List.mem_of_getElem? (i := 136) (by decide +kernel), by decide +kernel⟩
theorem gm_137 : (Cond.fieldLink "LetterSchool$Edition" 36 "LetterSchool$Edition" "code" "[S") ∈ gW := List.mem_filter.mpr ⟨List.mem_of_getElem? (i := 137) (by decide +kernel), by decide +kernel⟩
theorem gm_138 : (Cond.fieldLink "LetterSchool$Edition" 40 "LetterSchool$Edition" "codeLength" "I") ∈ gW := List.mem_filter.mpr ⟨List.mem_of_getElem? (i := 138) (by decide +kernel), by decide +kernel⟩
theorem gm_158 : (Cond.arrayClass FieldType.int) ∈ gW := List.mem_filter.mpr ⟨List.mem_of_getElem? (i := 158) (by decide +kernel), by decide +kernel⟩
theorem gm_159 : (Cond.arrayClass FieldType.short) ∈ gW := List.mem_filter.mpr ⟨List.mem_of_getElem? (i := 159) (by decide +kernel), by decide +kernel⟩
theorem gm_160 : (Cond.instantiable "LetterSchool$Fees" 4) ∈ gW := List.mem_filter.mpr ⟨List.mem_of_getElem? (i := 160) (by decide +kernel), by decide +kernel⟩
theorem gm_162 : (Cond.instanceMethod ⟨"LetterSchool$Fees", "<init>", "()V"⟩) ∈ gW := List.mem_filter.mpr ⟨List.mem_of_getElem? (i := 162) (by decide +kernel), by decide +kernel⟩
theorem gm_163 : (Cond.code ⟨"LetterSchool$Fees", "<init>", "()V"⟩ prog_3_method_1_code 1 (Option.none : Option FieldType)) ∈ gW := List.mem_filter.mpr ⟨List.mem_of_getElem? (i := 163) (by decide +kernel), by decide +kernel⟩
theorem gm_164 : (Cond.methodLink "LetterSchool$Fees" 1 ⟨"java/lang/Object", "<init>", "()V"⟩) ∈ gW := List.mem_filter.mpr ⟨List.mem_of_getElem? (i := 164) (by decide +kernel), by decide +kernel⟩
theorem gm_165 : (Cond.fieldLink "LetterSchool$Fees" 7 "LetterSchool$Fees" "count" "I") ∈ gW := List.mem_filter.mpr ⟨List.mem_of_getElem? (i := 165) (by decide +kernel), by decide +kernel⟩
theorem gm_168 : (Cond.fieldLink "LetterSchool$Fees" 13 "LetterSchool$Fees" "part" "[Z") ∈ gW := List.mem_filter.mpr ⟨List.mem_of_getElem? (i := 168) (by decide +kernel), by decide +kernel⟩
theorem gm_169 : (Cond.fieldLink "LetterSchool$Fees" 17 "LetterSchool$Fees" "days" "[I") ∈ gW := List.mem_filter.mpr ⟨List.mem_of_getElem? (i := 169) (by decide +kernel), by decide +kernel⟩
theorem gm_170 : (Cond.fieldLink "LetterSchool$Fees" 21 "LetterSchool$Fees" "amount" "[I") ∈ gW := List.mem_filter.mpr ⟨List.mem_of_getElem? (i := 170) (by decide +kernel), by decide +kernel⟩
theorem gm_180 : (Cond.arrayClass FieldType.boolean) ∈ gW := List.mem_filter.mpr ⟨List.mem_of_getElem? (i := 180) (by decide +kernel), by decide +kernel⟩
theorem gm_181 : (Cond.classLink "LetterSchool" 42 "LetterSchool$Pupil") ∈ gW := List.mem_filter.mpr ⟨List.mem_of_getElem? (i := 181) (by decide +kernel), by decide +kernel⟩
theorem gm_183 : (Cond.classLink "LetterSchool" 52 "LetterSchool$Tutor") ∈ gW := List.mem_filter.mpr ⟨List.mem_of_getElem? (i := 183) (by decide +kernel), by decide +kernel⟩
theorem gm_185 : (Cond.classLink "LetterSchool" 61 "LetterSchool$Thing") ∈ gW := List.mem_filter.mpr ⟨List.mem_of_getElem? (i := 185) (by decide +kernel), by decide +kernel⟩
theorem gm_187 : (Cond.classLink "LetterSchool" 70 "LetterSchool$Post") ∈ gW := List.mem_filter.mpr ⟨List.mem_of_getElem? (i := 187) (by decide +kernel), by decide +kernel⟩
theorem gm_189 : (Cond.classLink "LetterSchool" 76 "LetterSchool$Ledger") ∈ gW := List.mem_filter.mpr ⟨List.mem_of_getElem? (i := 189) (by decide +kernel), by decide +kernel⟩
theorem gm_190 : (Cond.instantiable "LetterSchool$Ledger" 4) ∈ gW := List.mem_filter.mpr ⟨List.mem_of_getElem? (i := 190) (by decide +kernel), by decide +kernel⟩
theorem gm_192 : (Cond.instanceMethod ⟨"LetterSchool$Ledger", "<init>", "()V"⟩) ∈ gW := List.mem_filter.mpr ⟨List.mem_of_getElem? (i := 192) (by decide +kernel), by decide +kernel⟩
theorem gm_193 : (Cond.code ⟨"LetterSchool$Ledger", "<init>", "()V"⟩ prog_4_method_1_code 1 (Option.none : Option FieldType)) ∈ gW := List.mem_filter.mpr ⟨List.mem_of_getElem? (i := 193) (by decide +kernel), by decide +kernel⟩
theorem gm_194 : (Cond.methodLink "LetterSchool$Ledger" 3 ⟨"java/lang/Object", "<init>", "()V"⟩) ∈ gW := List.mem_filter.mpr ⟨List.mem_of_getElem? (i := 194) (by decide +kernel), by decide +kernel⟩
theorem gm_195 : (Cond.fieldLink "LetterSchool$Ledger" 9 "LetterSchool$Ledger" "payer" "[B") ∈ gW := List.mem_filter.mpr ⟨List.mem_of_getElem? (i := 195) (by decide +kernel), by decide +kernel⟩
theorem gm_196 : (Cond.fieldLink "LetterSchool$Ledger" 15 "LetterSchool$Ledger" "pence" "[I") ∈ gW := List.mem_filter.mpr ⟨List.mem_of_getElem? (i := 196) (by decide +kernel), by decide +kernel⟩
theorem gm_197 : (Cond.fieldLink "LetterSchool$Ledger" 19 "LetterSchool$Ledger" "paidOn" "[S") ∈ gW := List.mem_filter.mpr ⟨List.mem_of_getElem? (i := 197) (by decide +kernel), by decide +kernel⟩
theorem gm_198 : (Cond.fieldLink "LetterSchool$Ledger" 23 "LetterSchool$Ledger" "count" "I") ∈ gW := List.mem_filter.mpr ⟨List.mem_of_getElem? (i := 198) (by decide +kernel), by decide +kernel⟩
theorem gm_208 : (Cond.classLink "LetterSchool" 90 "LetterSchool$Sheet") ∈ gW := List.mem_filter.mpr ⟨List.mem_of_getElem? (i := 208) (by decide +kernel), by decide +kernel⟩
theorem gm_210 : (Cond.classLink "LetterSchool" 96 "LetterSchool$Sharing") ∈ gW := List.mem_filter.mpr ⟨List.mem_of_getElem? (i := 210) (by decide +kernel), by decide +kernel⟩
theorem gm_211 : (Cond.instantiable "LetterSchool$Sharing" 12) ∈ gW := List.mem_filter.mpr ⟨List.mem_of_getElem? (i := 211) (by decide +kernel), by decide +kernel⟩
theorem gm_213 : (Cond.instanceMethod ⟨"LetterSchool$Sharing", "<init>", "()V"⟩) ∈ gW := List.mem_filter.mpr ⟨List.mem_of_getElem? (i := 213) (by decide +kernel), by decide +kernel⟩
theorem gm_214 : (Cond.code ⟨"LetterSchool$Sharing", "<init>", "()V"⟩ prog_7_method_1_code 1 (Option.none : Option FieldType)) ∈ gW := List.mem_filter.mpr ⟨List.mem_of_getElem? (i := 214) (by decide +kernel), by decide +kernel⟩
theorem gm_215 : (Cond.methodLink "LetterSchool$Sharing" 3 ⟨"java/lang/Object", "<init>", "()V"⟩) ∈ gW := List.mem_filter.mpr ⟨List.mem_of_getElem? (i := 215) (by decide +kernel), by decide +kernel⟩
theorem gm_216 : (Cond.fieldLink "LetterSchool$Sharing" 9 "LetterSchool$Sharing" "thing" "[I") ∈ gW := List.mem_filter.mpr ⟨List.mem_of_getElem? (i := 216) (by decide +kernel), by decide +kernel⟩
theorem gm_217 : (Cond.fieldLink "LetterSchool$Sharing" 15 "LetterSchool$Sharing" "fit" "[I") ∈ gW := List.mem_filter.mpr ⟨List.mem_of_getElem? (i := 217) (by decide +kernel), by decide +kernel⟩
theorem gm_218 : (Cond.fieldLink "LetterSchool$Sharing" 18 "LetterSchool$Sharing" "now" "[I") ∈ gW := List.mem_filter.mpr ⟨List.mem_of_getElem? (i := 218) (by decide +kernel), by decide +kernel⟩
theorem gm_219 : (Cond.fieldLink "LetterSchool$Sharing" 21 "LetterSchool$Sharing" "chosen" "[I") ∈ gW := List.mem_filter.mpr ⟨List.mem_of_getElem? (i := 219) (by decide +kernel), by decide +kernel⟩
theorem gm_220 : (Cond.fieldLink "LetterSchool$Sharing" 24 "LetterSchool$Sharing" "mostLater" "[I") ∈ gW := List.mem_filter.mpr ⟨List.mem_of_getElem? (i := 220) (by decide +kernel), by decide +kernel⟩
theorem gm_221 : (Cond.fieldLink "LetterSchool$Sharing" 27 "LetterSchool$Sharing" "daysLater" "[I") ∈ gW := List.mem_filter.mpr ⟨List.mem_of_getElem? (i := 221) (by decide +kernel), by decide +kernel⟩
theorem gm_222 : (Cond.fieldLink "LetterSchool$Sharing" 30 "LetterSchool$Sharing" "load" "[I") ∈ gW := List.mem_filter.mpr ⟨List.mem_of_getElem? (i := 222) (by decide +kernel), by decide +kernel⟩
theorem gm_223 : (Cond.fieldLink "LetterSchool$Sharing" 33 "LetterSchool$Sharing" "pace" "[I") ∈ gW := List.mem_filter.mpr ⟨List.mem_of_getElem? (i := 223) (by decide +kernel), by decide +kernel⟩
theorem gm_224 : (Cond.fieldLink "LetterSchool$Sharing" 36 "LetterSchool$Sharing" "count" "I") ∈ gW := List.mem_filter.mpr ⟨List.mem_of_getElem? (i := 224) (by decide +kernel), by decide +kernel⟩
theorem gm_225 : (Cond.fieldLink "LetterSchool$Sharing" 40 "LetterSchool$Sharing" "tutors" "I") ∈ gW := List.mem_filter.mpr ⟨List.mem_of_getElem? (i := 225) (by decide +kernel), by decide +kernel⟩
theorem gm_226 : (Cond.fieldLink "LetterSchool$Sharing" 43 "LetterSchool$Sharing" "mostGiven" "I") ∈ gW := List.mem_filter.mpr ⟨List.mem_of_getElem? (i := 226) (by decide +kernel), by decide +kernel⟩
theorem gm_228 : (Cond.fieldLink "LetterSchool$Sharing" 46 "LetterSchool$Sharing" "leastDays" "I") ∈ gW := List.mem_filter.mpr ⟨List.mem_of_getElem? (i := 228) (by decide +kernel), by decide +kernel⟩
theorem gm_255 : (Cond.classLink "LetterSchool" 103 "LetterSchool$Way") ∈ gW := List.mem_filter.mpr ⟨List.mem_of_getElem? (i := 255) (by decide +kernel), by decide +kernel⟩
theorem gm_256 : (Cond.instantiable "LetterSchool$Way" 3) ∈ gW := List.mem_filter.mpr ⟨List.mem_of_getElem? (i := 256) (by decide +kernel), by decide +kernel⟩
theorem gm_258 : (Cond.instanceMethod ⟨"LetterSchool$Way", "<init>", "()V"⟩) ∈ gW := List.mem_filter.mpr ⟨List.mem_of_getElem? (i := 258) (by decide +kernel), by decide +kernel⟩
theorem gm_259 : (Cond.code ⟨"LetterSchool$Way", "<init>", "()V"⟩ prog_12_method_1_code 1 (Option.none : Option FieldType)) ∈ gW := List.mem_filter.mpr ⟨List.mem_of_getElem? (i := 259) (by decide +kernel), by decide +kernel⟩
theorem gm_260 : (Cond.methodLink "LetterSchool$Way" 3 ⟨"java/lang/Object", "<init>", "()V"⟩) ∈ gW := List.mem_filter.mpr ⟨List.mem_of_getElem? (i := 260) (by decide +kernel), by decide +kernel⟩
theorem gm_261 : (Cond.fieldLink "LetterSchool$Way" 11 "LetterSchool$Way" "steps" "[I") ∈ gW := List.mem_filter.mpr ⟨List.mem_of_getElem? (i := 261) (by decide +kernel), by decide +kernel⟩
theorem gm_262 : (Cond.fieldLink "LetterSchool$Way" 15 "LetterSchool$Way" "queue" "[I") ∈ gW := List.mem_filter.mpr ⟨List.mem_of_getElem? (i := 262) (by decide +kernel), by decide +kernel⟩
theorem gm_263 : (Cond.fieldLink "LetterSchool$Way" 18 "LetterSchool$Way" "then" "[I") ∈ gW := List.mem_filter.mpr ⟨List.mem_of_getElem? (i := 263) (by decide +kernel), by decide +kernel⟩
theorem gm_271 : (Cond.instantiable "LetterSchool$Post" 3) ∈ gW := List.mem_filter.mpr ⟨List.mem_of_getElem? (i := 271) (by decide +kernel), by decide +kernel⟩
theorem gm_273 : (Cond.instanceMethod ⟨"LetterSchool$Post", "<init>", "()V"⟩) ∈ gW := List.mem_filter.mpr ⟨List.mem_of_getElem? (i := 273) (by decide +kernel), by decide +kernel⟩
theorem gm_274 : (Cond.code ⟨"LetterSchool$Post", "<init>", "()V"⟩ prog_5_method_1_code 1 (Option.none : Option FieldType)) ∈ gW := List.mem_filter.mpr ⟨List.mem_of_getElem? (i := 274) (by decide +kernel), by decide +kernel⟩
theorem gm_275 : (Cond.methodLink "LetterSchool$Post" 1 ⟨"java/lang/Object", "<init>", "()V"⟩) ∈ gW := List.mem_filter.mpr ⟨List.mem_of_getElem? (i := 275) (by decide +kernel), by decide +kernel⟩
theorem gm_276 : (Cond.fieldLink "LetterSchool$Post" 7 "LetterSchool$Post" "days" "I") ∈ gW := List.mem_filter.mpr ⟨List.mem_of_getElem? (i := 276) (by decide +kernel), by decide +kernel⟩
theorem gm_278 : (Cond.fieldLink "LetterSchool$Post" 13 "LetterSchool$Post" "each" "I") ∈ gW := List.mem_filter.mpr ⟨List.mem_of_getElem? (i := 278) (by decide +kernel), by decide +kernel⟩
theorem gm_280 : (Cond.fieldLink "LetterSchool$Post" 16 "LetterSchool$Post" "carried" "I") ∈ gW := List.mem_filter.mpr ⟨List.mem_of_getElem? (i := 280) (by decide +kernel), by decide +kernel⟩
theorem gm_289 : (Cond.instantiable "LetterSchool$Sheet" 3) ∈ gW := List.mem_filter.mpr ⟨List.mem_of_getElem? (i := 289) (by decide +kernel), by decide +kernel⟩
theorem gm_291 : (Cond.instanceMethod ⟨"LetterSchool$Sheet", "<init>", "()V"⟩) ∈ gW := List.mem_filter.mpr ⟨List.mem_of_getElem? (i := 291) (by decide +kernel), by decide +kernel⟩
theorem gm_292 : (Cond.code ⟨"LetterSchool$Sheet", "<init>", "()V"⟩ prog_8_method_1_code 1 (Option.none : Option FieldType)) ∈ gW := List.mem_filter.mpr ⟨List.mem_of_getElem? (i := 292) (by decide +kernel), by decide +kernel⟩
theorem gm_293 : (Cond.methodLink "LetterSchool$Sheet" 3 ⟨"java/lang/Object", "<init>", "()V"⟩) ∈ gW := List.mem_filter.mpr ⟨List.mem_of_getElem? (i := 293) (by decide +kernel), by decide +kernel⟩
theorem gm_294 : (Cond.fieldLink "LetterSchool$Sheet" 11 "LetterSchool$Sheet" "lane" "I") ∈ gW := List.mem_filter.mpr ⟨List.mem_of_getElem? (i := 294) (by decide +kernel), by decide +kernel⟩
theorem gm_296 : (Cond.fieldLink "LetterSchool$Sheet" 15 "LetterSchool$Sheet" "size" "I") ∈ gW := List.mem_filter.mpr ⟨List.mem_of_getElem? (i := 296) (by decide +kernel), by decide +kernel⟩
theorem gm_298 : (Cond.fieldLink "LetterSchool$Sheet" 18 "LetterSchool$Sheet" "items" "[I") ∈ gW := List.mem_filter.mpr ⟨List.mem_of_getElem? (i := 298) (by decide +kernel), by decide +kernel⟩
theorem gm_307 : (Cond.fieldLink "LetterSchool" 10 "LetterSchool" "tape" "LLetterSchool$Tape;") ∈ gW := List.mem_filter.mpr ⟨List.mem_of_getElem? (i := 307) (by decide +kernel), by decide +kernel⟩
theorem gm_308 : (Cond.fieldLink "LetterSchool" 18 "LetterSchool" "editions" "[LLetterSchool$Edition;") ∈ gW := List.mem_filter.mpr ⟨List.mem_of_getElem? (i := 308) (by decide +kernel), by decide +kernel⟩
theorem gm_309 : (Cond.fieldLink "LetterSchool" 22 "LetterSchool" "editionCount" "[I") ∈ gW := List.mem_filter.mpr ⟨List.mem_of_getElem? (i := 309) (by decide +kernel), by decide +kernel⟩
theorem gm_310 : (Cond.fieldLink "LetterSchool" 28 "LetterSchool" "feesOf" "[LLetterSchool$Fees;") ∈ gW := List.mem_filter.mpr ⟨List.mem_of_getElem? (i := 310) (by decide +kernel), by decide +kernel⟩
theorem gm_311 : (Cond.fieldLink "LetterSchool" 33 "LetterSchool" "draftEdition" "LLetterSchool$Edition;") ∈ gW := List.mem_filter.mpr ⟨List.mem_of_getElem? (i := 311) (by decide +kernel), by decide +kernel⟩
theorem gm_312 : (Cond.fieldLink "LetterSchool" 38 "LetterSchool" "draftFees" "LLetterSchool$Fees;") ∈ gW := List.mem_filter.mpr ⟨List.mem_of_getElem? (i := 312) (by decide +kernel), by decide +kernel⟩
theorem gm_313 : (Cond.fieldLink "LetterSchool" 44 "LetterSchool" "pupils" "[LLetterSchool$Pupil;") ∈ gW := List.mem_filter.mpr ⟨List.mem_of_getElem? (i := 313) (by decide +kernel), by decide +kernel⟩
theorem gm_314 : (Cond.fieldLink "LetterSchool" 48 "LetterSchool" "pupilCount" "I") ∈ gW := List.mem_filter.mpr ⟨List.mem_of_getElem? (i := 314) (by decide +kernel), by decide +kernel⟩
theorem gm_315 : (Cond.fieldLink "LetterSchool" 54 "LetterSchool" "tutors" "[LLetterSchool$Tutor;") ∈ gW := List.mem_filter.mpr ⟨List.mem_of_getElem? (i := 315) (by decide +kernel), by decide +kernel⟩
theorem gm_316 : (Cond.fieldLink "LetterSchool" 58 "LetterSchool" "tutorCount" "I") ∈ gW := List.mem_filter.mpr ⟨List.mem_of_getElem? (i := 316) (by decide +kernel), by decide +kernel⟩
theorem gm_317 : (Cond.fieldLink "LetterSchool" 63 "LetterSchool" "things" "[LLetterSchool$Thing;") ∈ gW := List.mem_filter.mpr ⟨List.mem_of_getElem? (i := 317) (by decide +kernel), by decide +kernel⟩
theorem gm_318 : (Cond.fieldLink "LetterSchool" 67 "LetterSchool" "thingCount" "I") ∈ gW := List.mem_filter.mpr ⟨List.mem_of_getElem? (i := 318) (by decide +kernel), by decide +kernel⟩
theorem gm_319 : (Cond.fieldLink "LetterSchool" 72 "LetterSchool" "posts" "[LLetterSchool$Post;") ∈ gW := List.mem_filter.mpr ⟨List.mem_of_getElem? (i := 319) (by decide +kernel), by decide +kernel⟩
theorem gm_320 : (Cond.fieldLink "LetterSchool" 79 "LetterSchool" "ledger" "LLetterSchool$Ledger;") ∈ gW := List.mem_filter.mpr ⟨List.mem_of_getElem? (i := 320) (by decide +kernel), by decide +kernel⟩
theorem gm_321 : (Cond.fieldLink "LetterSchool" 83 "LetterSchool" "keys" "[B") ∈ gW := List.mem_filter.mpr ⟨List.mem_of_getElem? (i := 321) (by decide +kernel), by decide +kernel⟩
theorem gm_322 : (Cond.fieldLink "LetterSchool" 87 "LetterSchool" "doubtLimit" "I") ∈ gW := List.mem_filter.mpr ⟨List.mem_of_getElem? (i := 322) (by decide +kernel), by decide +kernel⟩
theorem gm_323 : (Cond.fieldLink "LetterSchool" 92 "LetterSchool" "sheets" "[LLetterSchool$Sheet;") ∈ gW := List.mem_filter.mpr ⟨List.mem_of_getElem? (i := 323) (by decide +kernel), by decide +kernel⟩
theorem gm_324 : (Cond.fieldLink "LetterSchool" 99 "LetterSchool" "sharing" "LLetterSchool$Sharing;") ∈ gW := List.mem_filter.mpr ⟨List.mem_of_getElem? (i := 324) (by decide +kernel), by decide +kernel⟩
theorem gm_325 : (Cond.fieldLink "LetterSchool" 106 "LetterSchool" "way" "LLetterSchool$Way;") ∈ gW := List.mem_filter.mpr ⟨List.mem_of_getElem? (i := 325) (by decide +kernel), by decide +kernel⟩
theorem gm_326 : (Cond.fieldLink "LetterSchool" 110 "LetterSchool" "bests" "[I") ∈ gW := List.mem_filter.mpr ⟨List.mem_of_getElem? (i := 326) (by decide +kernel), by decide +kernel⟩
theorem gm_368 : (Cond.methodLink "LetterSchoolLaw" 15 ⟨"LetterSchool", "type", "(JI)I"⟩) ∈ gW := List.mem_filter.mpr ⟨List.mem_of_getElem? (i := 368) (by decide +kernel), by decide +kernel⟩
theorem gm_369 : (Cond.instanceMethod ⟨"LetterSchool", "type", "(JI)I"⟩) ∈ gW := List.mem_filter.mpr ⟨List.mem_of_getElem? (i := 369) (by decide +kernel), by decide +kernel⟩
theorem gm_370 : (Cond.selects "LetterSchool" ⟨"LetterSchool", "type", "(JI)I"⟩ ⟨"LetterSchool", "type", "(JI)I"⟩) ∈ gW := List.mem_filter.mpr ⟨List.mem_of_getElem? (i := 370) (by decide +kernel), by decide +kernel⟩
theorem gm_371 : (Cond.code ⟨"LetterSchool", "type", "(JI)I"⟩ prog_1_method_2_code 6 (Option.some FieldType.int)) ∈ gW := List.mem_filter.mpr ⟨List.mem_of_getElem? (i := 371) (by decide +kernel), by decide +kernel⟩
theorem gm_372 : (Cond.methodLink "LetterSchool" 118 ⟨"LetterSchool$Tape", "append", "(I)V"⟩) ∈ gW := List.mem_filter.mpr ⟨List.mem_of_getElem? (i := 372) (by decide +kernel), by decide +kernel⟩
theorem gm_373 : (Cond.instanceMethod ⟨"LetterSchool$Tape", "append", "(I)V"⟩) ∈ gW := List.mem_filter.mpr ⟨List.mem_of_getElem? (i := 373) (by decide +kernel), by decide +kernel⟩
theorem gm_374 : (Cond.selects "LetterSchool$Tape" ⟨"LetterSchool$Tape", "append", "(I)V"⟩ ⟨"LetterSchool$Tape", "append", "(I)V"⟩) ∈ gW := List.mem_filter.mpr ⟨List.mem_of_getElem? (i := 374) (by decide +kernel), by decide +kernel⟩
theorem gm_375 : (Cond.code ⟨"LetterSchool$Tape", "append", "(I)V"⟩ prog_9_method_2_code 2 (Option.none : Option FieldType)) ∈ gW := List.mem_filter.mpr ⟨List.mem_of_getElem? (i := 375) (by decide +kernel), by decide +kernel⟩
theorem gm_376 : (Cond.methodLink "LetterSchoolLaw" 20 ⟨"LetterSchool", "edition", "(II)I"⟩) ∈ gW := List.mem_filter.mpr ⟨List.mem_of_getElem? (i := 376) (by decide +kernel), by decide +kernel⟩
theorem gm_377 : (Cond.instanceMethod ⟨"LetterSchool", "edition", "(II)I"⟩) ∈ gW := List.mem_filter.mpr ⟨List.mem_of_getElem? (i := 377) (by decide +kernel), by decide +kernel⟩
theorem gm_378 : (Cond.selects "LetterSchool" ⟨"LetterSchool", "edition", "(II)I"⟩ ⟨"LetterSchool", "edition", "(II)I"⟩) ∈ gW := List.mem_filter.mpr ⟨List.mem_of_getElem? (i := 378) (by decide +kernel), by decide +kernel⟩
theorem gm_379 : (Cond.code ⟨"LetterSchool", "edition", "(II)I"⟩ prog_1_method_3_code 5 (Option.some FieldType.int)) ∈ gW := List.mem_filter.mpr ⟨List.mem_of_getElem? (i := 379) (by decide +kernel), by decide +kernel⟩
theorem gm_380 : (Cond.methodLink "LetterSchool" 122 ⟨"LetterSchool", "isIn", "(II)Z"⟩) ∈ gW := List.mem_filter.mpr ⟨List.mem_of_getElem? (i := 380) (by decide +kernel), by decide +kernel⟩
theorem gm_381 : (Cond.static ⟨"LetterSchool", "isIn", "(II)Z"⟩) ∈ gW := List.mem_filter.mpr ⟨List.mem_of_getElem? (i := 381) (by decide +kernel), by decide +kernel⟩
theorem gm_382 : (Cond.code ⟨"LetterSchool", "isIn", "(II)Z"⟩ prog_1_method_44_code 2 (Option.some FieldType.boolean)) ∈ gW := List.mem_filter.mpr ⟨List.mem_of_getElem? (i := 382) (by decide +kernel), by decide +kernel⟩
theorem gm_383 : (Cond.methodLink "LetterSchool" 126 ⟨"LetterSchool", "isDay", "(I)Z"⟩) ∈ gW := List.mem_filter.mpr ⟨List.mem_of_getElem? (i := 383) (by decide +kernel), by decide +kernel⟩
theorem gm_384 : (Cond.static ⟨"LetterSchool", "isDay", "(I)Z"⟩) ∈ gW := List.mem_filter.mpr ⟨List.mem_of_getElem? (i := 384) (by decide +kernel), by decide +kernel⟩
theorem gm_385 : (Cond.code ⟨"LetterSchool", "isDay", "(I)Z"⟩ prog_1_method_45_code 1 (Option.some FieldType.boolean)) ∈ gW := List.mem_filter.mpr ⟨List.mem_of_getElem? (i := 385) (by decide +kernel), by decide +kernel⟩
theorem gm_386 : (Cond.methodLink "LetterSchool" 130 ⟨"LetterSchool", "latestFrom", "(I)I"⟩) ∈ gW := List.mem_filter.mpr ⟨List.mem_of_getElem? (i := 386) (by decide +kernel), by decide +kernel⟩
theorem gm_388 : (Cond.instanceMethod ⟨"LetterSchool", "latestFrom", "(I)I"⟩) ∈ gW := List.mem_filter.mpr ⟨List.mem_of_getElem? (i := 388) (by decide +kernel), by decide +kernel⟩
theorem gm_389 : (Cond.code ⟨"LetterSchool", "latestFrom", "(I)I"⟩ prog_1_method_53_code 3 (Option.some FieldType.int)) ∈ gW := List.mem_filter.mpr ⟨List.mem_of_getElem? (i := 389) (by decide +kernel), by decide +kernel⟩
theorem gm_390 : (Cond.methodLink "LetterSchool" 144 ⟨"LetterSchool", "editionAt", "(II)LLetterSchool$Edition;"⟩) ∈ gW := List.mem_filter.mpr ⟨List.mem_of_getElem? (i := 390) (by decide +kernel), by decide +kernel⟩
theorem gm_392 : (Cond.instanceMethod ⟨"LetterSchool", "editionAt", "(II)LLetterSchool$Edition;"⟩) ∈ gW := List.mem_filter.mpr ⟨List.mem_of_getElem? (i := 392) (by decide +kernel), by decide +kernel⟩
theorem gm_393 : (Cond.code ⟨"LetterSchool", "editionAt", "(II)LLetterSchool$Edition;"⟩ prog_1_method_52_code 3 (Option.some (FieldType.object "LetterSchool$Edition"))) ∈ gW := List.mem_filter.mpr ⟨List.mem_of_getElem? (i := 393) (by decide +kernel), by decide +kernel⟩
theorem gm_394 : (Cond.methodLink "LetterSchool" 134 ⟨"LetterSchool$Tape", "readEdition", "(LLetterSchool$Edition;)Z"⟩) ∈ gW := List.mem_filter.mpr ⟨List.mem_of_getElem? (i := 394) (by decide +kernel), by decide +kernel⟩
theorem gm_395 : (Cond.instanceMethod ⟨"LetterSchool$Tape", "readEdition", "(LLetterSchool$Edition;)Z"⟩) ∈ gW := List.mem_filter.mpr ⟨List.mem_of_getElem? (i := 395) (by decide +kernel), by decide +kernel⟩
theorem gm_396 : (Cond.selects "LetterSchool$Tape" ⟨"LetterSchool$Tape", "readEdition", "(LLetterSchool$Edition;)Z"⟩ ⟨"LetterSchool$Tape", "readEdition", "(LLetterSchool$Edition;)Z"⟩) ∈ gW := List.mem_filter.mpr ⟨List.mem_of_getElem? (i := 396) (by decide +kernel), by decide +kernel⟩
theorem gm_397 : (Cond.code ⟨"LetterSchool$Tape", "readEdition", "(LLetterSchool$Edition;)Z"⟩ prog_9_method_7_code 3 (Option.some FieldType.boolean)) ∈ gW := List.mem_filter.mpr ⟨List.mem_of_getElem? (i := 397) (by decide +kernel), by decide +kernel⟩
theorem gm_398 : (Cond.methodLink "LetterSchool$Tape" 36 ⟨"LetterSchool$Edition", "clear", "()V"⟩) ∈ gW := List.mem_filter.mpr ⟨List.mem_of_getElem? (i := 398) (by decide +kernel), by decide +kernel⟩
theorem gm_399 : (Cond.instanceMethod ⟨"LetterSchool$Edition", "clear", "()V"⟩) ∈ gW := List.mem_filter.mpr ⟨List.mem_of_getElem? (i := 399) (by decide +kernel), by decide +kernel⟩
theorem gm_400 : (Cond.selects "LetterSchool$Edition" ⟨"LetterSchool$Edition", "clear", "()V"⟩ ⟨"LetterSchool$Edition", "clear", "()V"⟩) ∈ gW := List.mem_filter.mpr ⟨List.mem_of_getElem? (i := 400) (by decide +kernel), by decide +kernel⟩
theorem gm_401 : (Cond.code ⟨"LetterSchool$Edition", "clear", "()V"⟩ prog_2_method_2_code 1 (Option.none : Option FieldType)) ∈ gW := List.mem_filter.mpr ⟨List.mem_of_getElem? (i := 401) (by decide +kernel), by decide +kernel⟩
theorem gm_402 : (Cond.methodLink "LetterSchool$Tape" 41 ⟨"LetterSchool$Tape", "readLesson", "(LLetterSchool$Edition;)Z"⟩) ∈ gW := List.mem_filter.mpr ⟨List.mem_of_getElem? (i := 402) (by decide +kernel), by decide +kernel⟩
theorem gm_404 : (Cond.instanceMethod ⟨"LetterSchool$Tape", "readLesson", "(LLetterSchool$Edition;)Z"⟩) ∈ gW := List.mem_filter.mpr ⟨List.mem_of_getElem? (i := 404) (by decide +kernel), by decide +kernel⟩
theorem gm_405 : (Cond.code ⟨"LetterSchool$Tape", "readLesson", "(LLetterSchool$Edition;)Z"⟩ prog_9_method_8_code 5 (Option.some FieldType.boolean)) ∈ gW := List.mem_filter.mpr ⟨List.mem_of_getElem? (i := 405) (by decide +kernel), by decide +kernel⟩
theorem gm_406 : (Cond.methodLink "LetterSchool$Tape" 22 ⟨"LetterSchool$Tape", "next", "()I"⟩) ∈ gW := List.mem_filter.mpr ⟨List.mem_of_getElem? (i := 406) (by decide +kernel), by decide +kernel⟩
theorem gm_408 : (Cond.instanceMethod ⟨"LetterSchool$Tape", "next", "()I"⟩) ∈ gW := List.mem_filter.mpr ⟨List.mem_of_getElem? (i := 408) (by decide +kernel), by decide +kernel⟩
theorem gm_409 : (Cond.code ⟨"LetterSchool$Tape", "next", "()I"⟩ prog_9_method_3_code 2 (Option.some FieldType.int)) ∈ gW := List.mem_filter.mpr ⟨List.mem_of_getElem? (i := 409) (by decide +kernel), by decide +kernel⟩
theorem gm_411 : (Cond.methodLink "LetterSchool$Tape" 56 ⟨"LetterSchool$Edition", "tells", "(I)Z"⟩) ∈ gW := List.mem_filter.mpr ⟨List.mem_of_getElem? (i := 411) (by decide +kernel), by decide +kernel⟩
theorem gm_412 : (Cond.instanceMethod ⟨"LetterSchool$Edition", "tells", "(I)Z"⟩) ∈ gW := List.mem_filter.mpr ⟨List.mem_of_getElem? (i := 412) (by decide +kernel), by decide +kernel⟩
theorem gm_413 : (Cond.selects "LetterSchool$Edition" ⟨"LetterSchool$Edition", "tells", "(I)Z"⟩ ⟨"LetterSchool$Edition", "tells", "(I)Z"⟩) ∈ gW := List.mem_filter.mpr ⟨List.mem_of_getElem? (i := 413) (by decide +kernel), by decide +kernel⟩
theorem gm_414 : (Cond.code ⟨"LetterSchool$Edition", "tells", "(I)Z"⟩ prog_2_method_3_code 2 (Option.some FieldType.boolean)) ∈ gW := List.mem_filter.mpr ⟨List.mem_of_getElem? (i := 414) (by decide +kernel), by decide +kernel⟩
theorem gm_416 : (Cond.methodLink "LetterSchool$Tape" 49 ⟨"LetterSchool$Tape", "takes", "(I)Z"⟩) ∈ gW := List.mem_filter.mpr ⟨List.mem_of_getElem? (i := 416) (by decide +kernel), by decide +kernel⟩
theorem gm_418 : (Cond.instanceMethod ⟨"LetterSchool$Tape", "takes", "(I)Z"⟩) ∈ gW := List.mem_filter.mpr ⟨List.mem_of_getElem? (i := 418) (by decide +kernel), by decide +kernel⟩
theorem gm_419 : (Cond.code ⟨"LetterSchool$Tape", "takes", "(I)Z"⟩ prog_9_method_4_code 2 (Option.some FieldType.boolean)) ∈ gW := List.mem_filter.mpr ⟨List.mem_of_getElem? (i := 419) (by decide +kernel), by decide +kernel⟩
theorem gm_420 : (Cond.methodLink "LetterSchool$Tape" 59 ⟨"LetterSchool$Tape", "takeNumber", "(I)I"⟩) ∈ gW := List.mem_filter.mpr ⟨List.mem_of_getElem? (i := 420) (by decide +kernel), by decide +kernel⟩
theorem gm_422 : (Cond.instanceMethod ⟨"LetterSchool$Tape", "takeNumber", "(I)I"⟩) ∈ gW := List.mem_filter.mpr ⟨List.mem_of_getElem? (i := 422) (by decide +kernel), by decide +kernel⟩
theorem gm_423 : (Cond.code ⟨"LetterSchool$Tape", "takeNumber", "(I)I"⟩ prog_9_method_6_code 5 (Option.some FieldType.int)) ∈ gW := List.mem_filter.mpr ⟨List.mem_of_getElem? (i := 423) (by decide +kernel), by decide +kernel⟩
theorem gm_424 : (Cond.methodLink "LetterSchool$Tape" 26 ⟨"LetterSchool$Tape", "isDigit", "(I)Z"⟩) ∈ gW := List.mem_filter.mpr ⟨List.mem_of_getElem? (i := 424) (by decide +kernel), by decide +kernel⟩
theorem gm_425 : (Cond.static ⟨"LetterSchool$Tape", "isDigit", "(I)Z"⟩) ∈ gW := List.mem_filter.mpr ⟨List.mem_of_getElem? (i := 425) (by decide +kernel), by decide +kernel⟩
theorem gm_426 : (Cond.code ⟨"LetterSchool$Tape", "isDigit", "(I)Z"⟩ prog_9_method_5_code 1 (Option.some FieldType.boolean)) ∈ gW := List.mem_filter.mpr ⟨List.mem_of_getElem? (i := 426) (by decide +kernel), by decide +kernel⟩
theorem gm_427 : (Cond.methodLink "LetterSchool$Tape" 30 ⟨"java/lang/Math", "min", "(II)I"⟩) ∈ gW := List.mem_filter.mpr ⟨List.mem_of_getElem? (i := 427) (by decide +kernel), by decide +kernel⟩
theorem gm_428 : (Cond.static ⟨"java/lang/Math", "min", "(II)I"⟩) ∈ gW := List.mem_filter.mpr ⟨List.mem_of_getElem? (i := 428) (by decide +kernel), by decide +kernel⟩
theorem gm_429 : (Cond.code ⟨"java/lang/Math", "min", "(II)I"⟩ prog_16_method_69_code 2 (Option.some FieldType.int)) ∈ gW := List.mem_filter.mpr ⟨List.mem_of_getElem? (i := 429) (by decide +kernel), by decide +kernel⟩
theorem gm_430 : (Cond.methodLink "LetterSchool$Tape" 63 ⟨"LetterSchool$Edition", "tell", "(III)V"⟩) ∈ gW := List.mem_filter.mpr ⟨List.mem_of_getElem? (i := 430) (by decide +kernel), by decide +kernel⟩
theorem gm_431 : (Cond.instanceMethod ⟨"LetterSchool$Edition", "tell", "(III)V"⟩) ∈ gW := List.mem_filter.mpr ⟨List.mem_of_getElem? (i := 431) (by decide +kernel), by decide +kernel⟩
theorem gm_432 : (Cond.selects "LetterSchool$Edition" ⟨"LetterSchool$Edition", "tell", "(III)V"⟩ ⟨"LetterSchool$Edition", "tell", "(III)V"⟩) ∈ gW := List.mem_filter.mpr ⟨List.mem_of_getElem? (i := 432) (by decide +kernel), by decide +kernel⟩
theorem gm_433 : (Cond.code ⟨"LetterSchool$Edition", "tell", "(III)V"⟩ prog_2_method_4_code 4 (Option.none : Option FieldType)) ∈ gW := List.mem_filter.mpr ⟨List.mem_of_getElem? (i := 433) (by decide +kernel), by decide +kernel⟩
theorem gm_434 : (Cond.methodLink "LetterSchool$Tape" 67 ⟨"LetterSchool$Tape", "readCases", "(LLetterSchool$Edition;II)Z"⟩) ∈ gW := List.mem_filter.mpr ⟨List.mem_of_getElem? (i := 434) (by decide +kernel), by decide +kernel⟩
theorem gm_436 : (Cond.instanceMethod ⟨"LetterSchool$Tape", "readCases", "(LLetterSchool$Edition;II)Z"⟩) ∈ gW := List.mem_filter.mpr ⟨List.mem_of_getElem? (i := 436) (by decide +kernel), by decide +kernel⟩
theorem gm_437 : (Cond.code ⟨"LetterSchool$Tape", "readCases", "(LLetterSchool$Edition;II)Z"⟩ prog_9_method_9_code 6 (Option.some FieldType.boolean)) ∈ gW := List.mem_filter.mpr ⟨List.mem_of_getElem? (i := 437) (by decide +kernel), by decide +kernel⟩
theorem gm_438 : (Cond.methodLink "LetterSchool$Tape" 71 ⟨"LetterSchool$Tape", "readClaim", "(LLetterSchool$Edition;II)Z"⟩) ∈ gW := List.mem_filter.mpr ⟨List.mem_of_getElem? (i := 438) (by decide +kernel), by decide +kernel⟩
theorem gm_440 : (Cond.instanceMethod ⟨"LetterSchool$Tape", "readClaim", "(LLetterSchool$Edition;II)Z"⟩) ∈ gW := List.mem_filter.mpr ⟨List.mem_of_getElem? (i := 440) (by decide +kernel), by decide +kernel⟩
theorem gm_441 : (Cond.code ⟨"LetterSchool$Tape", "readClaim", "(LLetterSchool$Edition;II)Z"⟩ prog_9_method_10_code 5 (Option.some FieldType.boolean)) ∈ gW := List.mem_filter.mpr ⟨List.mem_of_getElem? (i := 441) (by decide +kernel), by decide +kernel⟩
theorem gm_442 : (Cond.methodLink "LetterSchool$Tape" 78 ⟨"LetterSchool$Tape", "readLeaning", "(LLetterSchool$Edition;I)Z"⟩) ∈ gW := List.mem_filter.mpr ⟨List.mem_of_getElem? (i := 442) (by decide +kernel), by decide +kernel⟩
theorem gm_444 : (Cond.instanceMethod ⟨"LetterSchool$Tape", "readLeaning", "(LLetterSchool$Edition;I)Z"⟩) ∈ gW := List.mem_filter.mpr ⟨List.mem_of_getElem? (i := 444) (by decide +kernel), by decide +kernel⟩
theorem gm_445 : (Cond.code ⟨"LetterSchool$Tape", "readLeaning", "(LLetterSchool$Edition;I)Z"⟩ prog_9_method_11_code 5 (Option.some FieldType.boolean)) ∈ gW := List.mem_filter.mpr ⟨List.mem_of_getElem? (i := 445) (by decide +kernel), by decide +kernel⟩
theorem gm_446 : (Cond.methodLink "LetterSchool$Tape" 82 ⟨"LetterSchool$Edition", "addPassed", "(II)V"⟩) ∈ gW := List.mem_filter.mpr ⟨List.mem_of_getElem? (i := 446) (by decide +kernel), by decide +kernel⟩
theorem gm_447 : (Cond.instanceMethod ⟨"LetterSchool$Edition", "addPassed", "(II)V"⟩) ∈ gW := List.mem_filter.mpr ⟨List.mem_of_getElem? (i := 447) (by decide +kernel), by decide +kernel⟩
theorem gm_448 : (Cond.selects "LetterSchool$Edition" ⟨"LetterSchool$Edition", "addPassed", "(II)V"⟩ ⟨"LetterSchool$Edition", "addPassed", "(II)V"⟩) ∈ gW := List.mem_filter.mpr ⟨List.mem_of_getElem? (i := 448) (by decide +kernel), by decide +kernel⟩
theorem gm_449 : (Cond.code ⟨"LetterSchool$Edition", "addPassed", "(II)V"⟩ prog_2_method_5_code 3 (Option.none : Option FieldType)) ∈ gW := List.mem_filter.mpr ⟨List.mem_of_getElem? (i := 449) (by decide +kernel), by decide +kernel⟩
theorem gm_450 : (Cond.methodLink "LetterSchool$Edition" 47 ⟨"LetterSchool$Edition", "add", "(II)V"⟩) ∈ gW := List.mem_filter.mpr ⟨List.mem_of_getElem? (i := 450) (by decide +kernel), by decide +kernel⟩
theorem gm_451 : (Cond.instanceMethod ⟨"LetterSchool$Edition", "add", "(II)V"⟩) ∈ gW := List.mem_filter.mpr ⟨List.mem_of_getElem? (i := 451) (by decide +kernel), by decide +kernel⟩
theorem gm_452 : (Cond.selects "LetterSchool$Edition" ⟨"LetterSchool$Edition", "add", "(II)V"⟩ ⟨"LetterSchool$Edition", "add", "(II)V"⟩) ∈ gW := List.mem_filter.mpr ⟨List.mem_of_getElem? (i := 452) (by decide +kernel), by decide +kernel⟩
theorem gm_453 : (Cond.code ⟨"LetterSchool$Edition", "add", "(II)V"⟩ prog_2_method_7_code 3 (Option.none : Option FieldType)) ∈ gW := List.mem_filter.mpr ⟨List.mem_of_getElem? (i := 453) (by decide +kernel), by decide +kernel⟩
theorem gm_454 : (Cond.methodLink "LetterSchool$Tape" 85 ⟨"LetterSchool$Edition", "addAbove", "(III)V"⟩) ∈ gW := List.mem_filter.mpr ⟨List.mem_of_getElem? (i := 454) (by decide +kernel), by decide +kernel⟩
theorem gm_455 : (Cond.instanceMethod ⟨"LetterSchool$Edition", "addAbove", "(III)V"⟩) ∈ gW := List.mem_filter.mpr ⟨List.mem_of_getElem? (i := 455) (by decide +kernel), by decide +kernel⟩
theorem gm_456 : (Cond.selects "LetterSchool$Edition" ⟨"LetterSchool$Edition", "addAbove", "(III)V"⟩ ⟨"LetterSchool$Edition", "addAbove", "(III)V"⟩) ∈ gW := List.mem_filter.mpr ⟨List.mem_of_getElem? (i := 456) (by decide +kernel), by decide +kernel⟩
theorem gm_457 : (Cond.code ⟨"LetterSchool$Edition", "addAbove", "(III)V"⟩ prog_2_method_6_code 4 (Option.none : Option FieldType)) ∈ gW := List.mem_filter.mpr ⟨List.mem_of_getElem? (i := 457) (by decide +kernel), by decide +kernel⟩
theorem gm_458 : (Cond.methodLink "LetterSchool$Tape" 74 ⟨"LetterSchool$Edition", "add", "(II)V"⟩) ∈ gW := List.mem_filter.mpr ⟨List.mem_of_getElem? (i := 458) (by decide +kernel), by decide +kernel⟩
theorem gm_459 : (Cond.methodLink "LetterSchool$Tape" 45 ⟨"LetterSchool$Edition", "leansOnToldAlone", "()Z"⟩) ∈ gW := List.mem_filter.mpr ⟨List.mem_of_getElem? (i := 459) (by decide +kernel), by decide +kernel⟩
theorem gm_460 : (Cond.instanceMethod ⟨"LetterSchool$Edition", "leansOnToldAlone", "()Z"⟩) ∈ gW := List.mem_filter.mpr ⟨List.mem_of_getElem? (i := 460) (by decide +kernel), by decide +kernel⟩
theorem gm_461 : (Cond.selects "LetterSchool$Edition" ⟨"LetterSchool$Edition", "leansOnToldAlone", "()Z"⟩ ⟨"LetterSchool$Edition", "leansOnToldAlone", "()Z"⟩) ∈ gW := List.mem_filter.mpr ⟨List.mem_of_getElem? (i := 461) (by decide +kernel), by decide +kernel⟩
theorem gm_462 : (Cond.code ⟨"LetterSchool$Edition", "leansOnToldAlone", "()Z"⟩ prog_2_method_8_code 3 (Option.some FieldType.boolean)) ∈ gW := List.mem_filter.mpr ⟨List.mem_of_getElem? (i := 462) (by decide +kernel), by decide +kernel⟩
theorem gm_463 : (Cond.methodLink "LetterSchool$Edition" 51 ⟨"LetterSchool$Edition", "tells", "(I)Z"⟩) ∈ gW := List.mem_filter.mpr ⟨List.mem_of_getElem? (i := 463) (by decide +kernel), by decide +kernel⟩
theorem gm_464 : (Cond.methodLink "LetterSchoolLaw" 25 ⟨"LetterSchool", "told", "(III)I"⟩) ∈ gW := List.mem_filter.mpr ⟨List.mem_of_getElem? (i := 464) (by decide +kernel), by decide +kernel⟩
theorem gm_465 : (Cond.instanceMethod ⟨"LetterSchool", "told", "(III)I"⟩) ∈ gW := List.mem_filter.mpr ⟨List.mem_of_getElem? (i := 465) (by decide +kernel), by decide +kernel⟩
theorem gm_466 : (Cond.selects "LetterSchool" ⟨"LetterSchool", "told", "(III)I"⟩ ⟨"LetterSchool", "told", "(III)I"⟩) ∈ gW := List.mem_filter.mpr ⟨List.mem_of_getElem? (i := 466) (by decide +kernel), by decide +kernel⟩
theorem gm_467 : (Cond.code ⟨"LetterSchool", "told", "(III)I"⟩ prog_1_method_4_code 5 (Option.some FieldType.int)) ∈ gW := List.mem_filter.mpr ⟨List.mem_of_getElem? (i := 467) (by decide +kernel), by decide +kernel⟩
theorem gm_468 : (Cond.methodLink "LetterSchool" 151 ⟨"java/lang/Integer", "bitCount", "(I)I"⟩) ∈ gW := List.mem_filter.mpr ⟨List.mem_of_getElem? (i := 468) (by decide +kernel), by decide +kernel⟩
theorem gm_469 : (Cond.static ⟨"java/lang/Integer", "bitCount", "(I)I"⟩) ∈ gW := List.mem_filter.mpr ⟨List.mem_of_getElem? (i := 469) (by decide +kernel), by decide +kernel⟩
theorem gm_470 : (Cond.code ⟨"java/lang/Integer", "bitCount", "(I)I"⟩ prog_15_method_49_code 1 (Option.some FieldType.int)) ∈ gW := List.mem_filter.mpr ⟨List.mem_of_getElem? (i := 470) (by decide +kernel), by decide +kernel⟩
theorem gm_471 : (Cond.constant "java/lang/Integer" 265 1431655765) ∈ gW := List.mem_filter.mpr ⟨List.mem_of_getElem? (i := 471) (by decide +kernel), by decide +kernel⟩
theorem gm_472 : (Cond.constant "java/lang/Integer" 266 858993459) ∈ gW := List.mem_filter.mpr ⟨List.mem_of_getElem? (i := 472) (by decide +kernel), by decide +kernel⟩
theorem gm_473 : (Cond.constant "java/lang/Integer" 267 252645135) ∈ gW := List.mem_filter.mpr ⟨List.mem_of_getElem? (i := 473) (by decide +kernel), by decide +kernel⟩
theorem gm_474 : (Cond.methodLink "LetterSchoolLaw" 30 ⟨"LetterSchool", "lesson", "(IIII)I"⟩) ∈ gW := List.mem_filter.mpr ⟨List.mem_of_getElem? (i := 474) (by decide +kernel), by decide +kernel⟩
theorem gm_475 : (Cond.instanceMethod ⟨"LetterSchool", "lesson", "(IIII)I"⟩) ∈ gW := List.mem_filter.mpr ⟨List.mem_of_getElem? (i := 475) (by decide +kernel), by decide +kernel⟩
theorem gm_476 : (Cond.selects "LetterSchool" ⟨"LetterSchool", "lesson", "(IIII)I"⟩ ⟨"LetterSchool", "lesson", "(IIII)I"⟩) ∈ gW := List.mem_filter.mpr ⟨List.mem_of_getElem? (i := 476) (by decide +kernel), by decide +kernel⟩
theorem gm_477 : (Cond.code ⟨"LetterSchool", "lesson", "(IIII)I"⟩ prog_1_method_5_code 6 (Option.some FieldType.int)) ∈ gW := List.mem_filter.mpr ⟨List.mem_of_getElem? (i := 477) (by decide +kernel), by decide +kernel⟩
theorem gm_478 : (Cond.methodLink "LetterSchool" 156 ⟨"LetterSchool$Edition", "tells", "(I)Z"⟩) ∈ gW := List.mem_filter.mpr ⟨List.mem_of_getElem? (i := 478) (by decide +kernel), by decide +kernel⟩
theorem gm_479 : (Cond.methodLink "LetterSchoolLaw" 35 ⟨"LetterSchool", "pupil", "(III)I"⟩) ∈ gW := List.mem_filter.mpr ⟨List.mem_of_getElem? (i := 479) (by decide +kernel), by decide +kernel⟩
theorem gm_480 : (Cond.instanceMethod ⟨"LetterSchool", "pupil", "(III)I"⟩) ∈ gW := List.mem_filter.mpr ⟨List.mem_of_getElem? (i := 480) (by decide +kernel), by decide +kernel⟩
theorem gm_481 : (Cond.selects "LetterSchool" ⟨"LetterSchool", "pupil", "(III)I"⟩ ⟨"LetterSchool", "pupil", "(III)I"⟩) ∈ gW := List.mem_filter.mpr ⟨List.mem_of_getElem? (i := 481) (by decide +kernel), by decide +kernel⟩
theorem gm_482 : (Cond.code ⟨"LetterSchool", "pupil", "(III)I"⟩ prog_1_method_6_code 6 (Option.some FieldType.int)) ∈ gW := List.mem_filter.mpr ⟨List.mem_of_getElem? (i := 482) (by decide +kernel), by decide +kernel⟩
theorem gm_483 : (Cond.methodLink "LetterSchool" 168 ⟨"LetterSchool", "inForce", "(II)I"⟩) ∈ gW := List.mem_filter.mpr ⟨List.mem_of_getElem? (i := 483) (by decide +kernel), by decide +kernel⟩
theorem gm_485 : (Cond.instanceMethod ⟨"LetterSchool", "inForce", "(II)I"⟩) ∈ gW := List.mem_filter.mpr ⟨List.mem_of_getElem? (i := 485) (by decide +kernel), by decide +kernel⟩
theorem gm_486 : (Cond.code ⟨"LetterSchool", "inForce", "(II)I"⟩ prog_1_method_54_code 4 (Option.some FieldType.int)) ∈ gW := List.mem_filter.mpr ⟨List.mem_of_getElem? (i := 486) (by decide +kernel), by decide +kernel⟩
theorem gm_487 : (Cond.instantiable "LetterSchool$Pupil" 7) ∈ gW := List.mem_filter.mpr ⟨List.mem_of_getElem? (i := 487) (by decide +kernel), by decide +kernel⟩
theorem gm_488 : (Cond.methodLink "LetterSchool" 172 ⟨"LetterSchool$Pupil", "<init>", "(IIIILLetterSchool$Edition;)V"⟩) ∈ gW := List.mem_filter.mpr ⟨List.mem_of_getElem? (i := 488) (by decide +kernel), by decide +kernel⟩
theorem gm_489 : (Cond.instanceMethod ⟨"LetterSchool$Pupil", "<init>", "(IIIILLetterSchool$Edition;)V"⟩) ∈ gW := List.mem_filter.mpr ⟨List.mem_of_getElem? (i := 489) (by decide +kernel), by decide +kernel⟩
theorem gm_490 : (Cond.code ⟨"LetterSchool$Pupil", "<init>", "(IIIILLetterSchool$Edition;)V"⟩ prog_6_method_1_code 6 (Option.none : Option FieldType)) ∈ gW := List.mem_filter.mpr ⟨List.mem_of_getElem? (i := 490) (by decide +kernel), by decide +kernel⟩
theorem gm_491 : (Cond.methodLink "LetterSchool$Pupil" 3 ⟨"java/lang/Object", "<init>", "()V"⟩) ∈ gW := List.mem_filter.mpr ⟨List.mem_of_getElem? (i := 491) (by decide +kernel), by decide +kernel⟩
theorem gm_492 : (Cond.fieldLink "LetterSchool$Pupil" 18 "LetterSchool$Pupil" "place" "I") ∈ gW := List.mem_filter.mpr ⟨List.mem_of_getElem? (i := 492) (by decide +kernel), by decide +kernel⟩
theorem gm_494 : (Cond.fieldLink "LetterSchool$Pupil" 21 "LetterSchool$Pupil" "begin" "I") ∈ gW := List.mem_filter.mpr ⟨List.mem_of_getElem? (i := 494) (by decide +kernel), by decide +kernel⟩
theorem gm_496 : (Cond.fieldLink "LetterSchool$Pupil" 24 "LetterSchool$Pupil" "course" "I") ∈ gW := List.mem_filter.mpr ⟨List.mem_of_getElem? (i := 496) (by decide +kernel), by decide +kernel⟩
theorem gm_498 : (Cond.fieldLink "LetterSchool$Pupil" 27 "LetterSchool$Pupil" "edition" "I") ∈ gW := List.mem_filter.mpr ⟨List.mem_of_getElem? (i := 498) (by decide +kernel), by decide +kernel⟩
theorem gm_500 : (Cond.fieldLink "LetterSchool$Pupil" 30 "LetterSchool$Pupil" "taught" "LLetterSchool$Edition;") ∈ gW := List.mem_filter.mpr ⟨List.mem_of_getElem? (i := 500) (by decide +kernel), by decide +kernel⟩
theorem gm_502 : (Cond.fieldLink "LetterSchool$Pupil" 9 "LetterSchool$Pupil" "habit" "I") ∈ gW := List.mem_filter.mpr ⟨List.mem_of_getElem? (i := 502) (by decide +kernel), by decide +kernel⟩
theorem gm_504 : (Cond.fieldLink "LetterSchool$Pupil" 15 "LetterSchool$Pupil" "left" "I") ∈ gW := List.mem_filter.mpr ⟨List.mem_of_getElem? (i := 504) (by decide +kernel), by decide +kernel⟩
theorem gm_521 : (Cond.methodLink "LetterSchoolLaw" 39 ⟨"LetterSchool", "who", "(II)I"⟩) ∈ gW := List.mem_filter.mpr ⟨List.mem_of_getElem? (i := 521) (by decide +kernel), by decide +kernel⟩
theorem gm_522 : (Cond.instanceMethod ⟨"LetterSchool", "who", "(II)I"⟩) ∈ gW := List.mem_filter.mpr ⟨List.mem_of_getElem? (i := 522) (by decide +kernel), by decide +kernel⟩
theorem gm_523 : (Cond.selects "LetterSchool" ⟨"LetterSchool", "who", "(II)I"⟩ ⟨"LetterSchool", "who", "(II)I"⟩) ∈ gW := List.mem_filter.mpr ⟨List.mem_of_getElem? (i := 523) (by decide +kernel), by decide +kernel⟩
theorem gm_524 : (Cond.code ⟨"LetterSchool", "who", "(II)I"⟩ prog_1_method_7_code 4 (Option.some FieldType.int)) ∈ gW := List.mem_filter.mpr ⟨List.mem_of_getElem? (i := 524) (by decide +kernel), by decide +kernel⟩
theorem gm_525 : (Cond.methodLink "LetterSchool" 175 ⟨"LetterSchool", "pupilAt", "(I)LLetterSchool$Pupil;"⟩) ∈ gW := List.mem_filter.mpr ⟨List.mem_of_getElem? (i := 525) (by decide +kernel), by decide +kernel⟩
theorem gm_527 : (Cond.instanceMethod ⟨"LetterSchool", "pupilAt", "(I)LLetterSchool$Pupil;"⟩) ∈ gW := List.mem_filter.mpr ⟨List.mem_of_getElem? (i := 527) (by decide +kernel), by decide +kernel⟩
theorem gm_528 : (Cond.code ⟨"LetterSchool", "pupilAt", "(I)LLetterSchool$Pupil;"⟩ prog_1_method_49_code 2 (Option.some (FieldType.object "LetterSchool$Pupil"))) ∈ gW := List.mem_filter.mpr ⟨List.mem_of_getElem? (i := 528) (by decide +kernel), by decide +kernel⟩
theorem gm_529 : (Cond.methodLink "LetterSchool" 195 ⟨"LetterSchool$Ledger", "paidBy", "(II)I"⟩) ∈ gW := List.mem_filter.mpr ⟨List.mem_of_getElem? (i := 529) (by decide +kernel), by decide +kernel⟩
theorem gm_530 : (Cond.instanceMethod ⟨"LetterSchool$Ledger", "paidBy", "(II)I"⟩) ∈ gW := List.mem_filter.mpr ⟨List.mem_of_getElem? (i := 530) (by decide +kernel), by decide +kernel⟩
theorem gm_531 : (Cond.selects "LetterSchool$Ledger" ⟨"LetterSchool$Ledger", "paidBy", "(II)I"⟩ ⟨"LetterSchool$Ledger", "paidBy", "(II)I"⟩) ∈ gW := List.mem_filter.mpr ⟨List.mem_of_getElem? (i := 531) (by decide +kernel), by decide +kernel⟩
theorem gm_532 : (Cond.code ⟨"LetterSchool$Ledger", "paidBy", "(II)I"⟩ prog_4_method_3_code 5 (Option.some FieldType.int)) ∈ gW := List.mem_filter.mpr ⟨List.mem_of_getElem? (i := 532) (by decide +kernel), by decide +kernel⟩
theorem gm_533 : (Cond.methodLink "LetterSchoolLaw" 43 ⟨"LetterSchool", "habit", "(II)I"⟩) ∈ gW := List.mem_filter.mpr ⟨List.mem_of_getElem? (i := 533) (by decide +kernel), by decide +kernel⟩
theorem gm_534 : (Cond.instanceMethod ⟨"LetterSchool", "habit", "(II)I"⟩) ∈ gW := List.mem_filter.mpr ⟨List.mem_of_getElem? (i := 534) (by decide +kernel), by decide +kernel⟩
theorem gm_535 : (Cond.selects "LetterSchool" ⟨"LetterSchool", "habit", "(II)I"⟩ ⟨"LetterSchool", "habit", "(II)I"⟩) ∈ gW := List.mem_filter.mpr ⟨List.mem_of_getElem? (i := 535) (by decide +kernel), by decide +kernel⟩
theorem gm_536 : (Cond.code ⟨"LetterSchool", "habit", "(II)I"⟩ prog_1_method_8_code 5 (Option.some FieldType.int)) ∈ gW := List.mem_filter.mpr ⟨List.mem_of_getElem? (i := 536) (by decide +kernel), by decide +kernel⟩
theorem gm_537 : (Cond.methodLink "LetterSchoolLaw" 47 ⟨"LetterSchool", "best", "(III)I"⟩) ∈ gW := List.mem_filter.mpr ⟨List.mem_of_getElem? (i := 537) (by decide +kernel), by decide +kernel⟩
theorem gm_538 : (Cond.instanceMethod ⟨"LetterSchool", "best", "(III)I"⟩) ∈ gW := List.mem_filter.mpr ⟨List.mem_of_getElem? (i := 538) (by decide +kernel), by decide +kernel⟩
theorem gm_539 : (Cond.selects "LetterSchool" ⟨"LetterSchool", "best", "(III)I"⟩ ⟨"LetterSchool", "best", "(III)I"⟩) ∈ gW := List.mem_filter.mpr ⟨List.mem_of_getElem? (i := 539) (by decide +kernel), by decide +kernel⟩
theorem gm_540 : (Cond.code ⟨"LetterSchool", "best", "(III)I"⟩ prog_1_method_9_code 6 (Option.some FieldType.int)) ∈ gW := List.mem_filter.mpr ⟨List.mem_of_getElem? (i := 540) (by decide +kernel), by decide +kernel⟩
theorem gm_541 : (Cond.methodLink "LetterSchool" 201 ⟨"LetterSchool", "bestByName", "(III)I"⟩) ∈ gW := List.mem_filter.mpr ⟨List.mem_of_getElem? (i := 541) (by decide +kernel), by decide +kernel⟩
theorem gm_543 : (Cond.instanceMethod ⟨"LetterSchool", "bestByName", "(III)I"⟩) ∈ gW := List.mem_filter.mpr ⟨List.mem_of_getElem? (i := 543) (by decide +kernel), by decide +kernel⟩
theorem gm_544 : (Cond.code ⟨"LetterSchool", "bestByName", "(III)I"⟩ prog_1_method_55_code 7 (Option.some FieldType.int)) ∈ gW := List.mem_filter.mpr ⟨List.mem_of_getElem? (i := 544) (by decide +kernel), by decide +kernel⟩
theorem gm_545 : (Cond.methodLink "LetterSchool" 352 ⟨"java/lang/Math", "max", "(II)I"⟩) ∈ gW := List.mem_filter.mpr ⟨List.mem_of_getElem? (i := 545) (by decide +kernel), by decide +kernel⟩
theorem gm_546 : (Cond.static ⟨"java/lang/Math", "max", "(II)I"⟩) ∈ gW := List.mem_filter.mpr ⟨List.mem_of_getElem? (i := 546) (by decide +kernel), by decide +kernel⟩
theorem gm_547 : (Cond.code ⟨"java/lang/Math", "max", "(II)I"⟩ prog_16_method_65_code 2 (Option.some FieldType.int)) ∈ gW := List.mem_filter.mpr ⟨List.mem_of_getElem? (i := 547) (by decide +kernel), by decide +kernel⟩
theorem gm_548 : (Cond.methodLink "LetterSchoolLaw" 51 ⟨"LetterSchool", "may", "(II)I"⟩) ∈ gW := List.mem_filter.mpr ⟨List.mem_of_getElem? (i := 548) (by decide +kernel), by decide +kernel⟩
theorem gm_549 : (Cond.instanceMethod ⟨"LetterSchool", "may", "(II)I"⟩) ∈ gW := List.mem_filter.mpr ⟨List.mem_of_getElem? (i := 549) (by decide +kernel), by decide +kernel⟩
theorem gm_550 : (Cond.selects "LetterSchool" ⟨"LetterSchool", "may", "(II)I"⟩ ⟨"LetterSchool", "may", "(II)I"⟩) ∈ gW := List.mem_filter.mpr ⟨List.mem_of_getElem? (i := 550) (by decide +kernel), by decide +kernel⟩
theorem gm_551 : (Cond.code ⟨"LetterSchool", "may", "(II)I"⟩ prog_1_method_10_code 5 (Option.some FieldType.int)) ∈ gW := List.mem_filter.mpr ⟨List.mem_of_getElem? (i := 551) (by decide +kernel), by decide +kernel⟩
theorem gm_552 : (Cond.methodLink "LetterSchool" 205 ⟨"LetterSchool", "fillBests", "(ILLetterSchool$Edition;)V"⟩) ∈ gW := List.mem_filter.mpr ⟨List.mem_of_getElem? (i := 552) (by decide +kernel), by decide +kernel⟩
theorem gm_554 : (Cond.instanceMethod ⟨"LetterSchool", "fillBests", "(ILLetterSchool$Edition;)V"⟩) ∈ gW := List.mem_filter.mpr ⟨List.mem_of_getElem? (i := 554) (by decide +kernel), by decide +kernel⟩
theorem gm_555 : (Cond.code ⟨"LetterSchool", "fillBests", "(ILLetterSchool$Edition;)V"⟩ prog_1_method_56_code 4 (Option.none : Option FieldType)) ∈ gW := List.mem_filter.mpr ⟨List.mem_of_getElem? (i := 555) (by decide +kernel), by decide +kernel⟩
theorem gm_556 : (Cond.methodLink "LetterSchool" 209 ⟨"LetterSchool$Edition", "open", "([I)I"⟩) ∈ gW := List.mem_filter.mpr ⟨List.mem_of_getElem? (i := 556) (by decide +kernel), by decide +kernel⟩
theorem gm_557 : (Cond.instanceMethod ⟨"LetterSchool$Edition", "open", "([I)I"⟩) ∈ gW := List.mem_filter.mpr ⟨List.mem_of_getElem? (i := 557) (by decide +kernel), by decide +kernel⟩
theorem gm_558 : (Cond.selects "LetterSchool$Edition" ⟨"LetterSchool$Edition", "open", "([I)I"⟩ ⟨"LetterSchool$Edition", "open", "([I)I"⟩) ∈ gW := List.mem_filter.mpr ⟨List.mem_of_getElem? (i := 558) (by decide +kernel), by decide +kernel⟩
theorem gm_559 : (Cond.code ⟨"LetterSchool$Edition", "open", "([I)I"⟩ prog_2_method_13_code 4 (Option.some FieldType.int)) ∈ gW := List.mem_filter.mpr ⟨List.mem_of_getElem? (i := 559) (by decide +kernel), by decide +kernel⟩
theorem gm_560 : (Cond.methodLink "LetterSchool$Edition" 55 ⟨"LetterSchool$Edition", "isPassed", "(I[I)Z"⟩) ∈ gW := List.mem_filter.mpr ⟨List.mem_of_getElem? (i := 560) (by decide +kernel), by decide +kernel⟩
theorem gm_562 : (Cond.instanceMethod ⟨"LetterSchool$Edition", "isPassed", "(I[I)Z"⟩) ∈ gW := List.mem_filter.mpr ⟨List.mem_of_getElem? (i := 562) (by decide +kernel), by decide +kernel⟩
theorem gm_563 : (Cond.code ⟨"LetterSchool$Edition", "isPassed", "(I[I)Z"⟩ prog_2_method_9_code 3 (Option.some FieldType.boolean)) ∈ gW := List.mem_filter.mpr ⟨List.mem_of_getElem? (i := 563) (by decide +kernel), by decide +kernel⟩
theorem gm_564 : (Cond.methodLink "LetterSchool$Edition" 62 ⟨"LetterSchool$Edition", "holds", "(I[I)Z"⟩) ∈ gW := List.mem_filter.mpr ⟨List.mem_of_getElem? (i := 564) (by decide +kernel), by decide +kernel⟩
theorem gm_566 : (Cond.instanceMethod ⟨"LetterSchool$Edition", "holds", "(I[I)Z"⟩) ∈ gW := List.mem_filter.mpr ⟨List.mem_of_getElem? (i := 566) (by decide +kernel), by decide +kernel⟩
theorem gm_567 : (Cond.code ⟨"LetterSchool$Edition", "holds", "(I[I)Z"⟩ prog_2_method_11_code 6 (Option.some FieldType.boolean)) ∈ gW := List.mem_filter.mpr ⟨List.mem_of_getElem? (i := 567) (by decide +kernel), by decide +kernel⟩
theorem gm_568 : (Cond.methodLink "LetterSchool$Edition" 59 ⟨"LetterSchool$Edition", "claimHolds", "(I[I)Z"⟩) ∈ gW := List.mem_filter.mpr ⟨List.mem_of_getElem? (i := 568) (by decide +kernel), by decide +kernel⟩
theorem gm_570 : (Cond.instanceMethod ⟨"LetterSchool$Edition", "claimHolds", "(I[I)Z"⟩) ∈ gW := List.mem_filter.mpr ⟨List.mem_of_getElem? (i := 570) (by decide +kernel), by decide +kernel⟩
theorem gm_571 : (Cond.code ⟨"LetterSchool$Edition", "claimHolds", "(I[I)Z"⟩ prog_2_method_10_code 4 (Option.some FieldType.boolean)) ∈ gW := List.mem_filter.mpr ⟨List.mem_of_getElem? (i := 571) (by decide +kernel), by decide +kernel⟩
theorem gm_572 : (Cond.methodLink "LetterSchool" 213 ⟨"LetterSchool$Edition", "passed", "([I)I"⟩) ∈ gW := List.mem_filter.mpr ⟨List.mem_of_getElem? (i := 572) (by decide +kernel), by decide +kernel⟩
theorem gm_573 : (Cond.instanceMethod ⟨"LetterSchool$Edition", "passed", "([I)I"⟩) ∈ gW := List.mem_filter.mpr ⟨List.mem_of_getElem? (i := 573) (by decide +kernel), by decide +kernel⟩
theorem gm_574 : (Cond.selects "LetterSchool$Edition" ⟨"LetterSchool$Edition", "passed", "([I)I"⟩ ⟨"LetterSchool$Edition", "passed", "([I)I"⟩) ∈ gW := List.mem_filter.mpr ⟨List.mem_of_getElem? (i := 574) (by decide +kernel), by decide +kernel⟩
theorem gm_575 : (Cond.code ⟨"LetterSchool$Edition", "passed", "([I)I"⟩ prog_2_method_12_code 4 (Option.some FieldType.int)) ∈ gW := List.mem_filter.mpr ⟨List.mem_of_getElem? (i := 575) (by decide +kernel), by decide +kernel⟩
theorem gm_576 : (Cond.methodLink "LetterSchoolLaw" 55 ⟨"LetterSchool", "lean", "(II)I"⟩) ∈ gW := List.mem_filter.mpr ⟨List.mem_of_getElem? (i := 576) (by decide +kernel), by decide +kernel⟩
theorem gm_577 : (Cond.instanceMethod ⟨"LetterSchool", "lean", "(II)I"⟩) ∈ gW := List.mem_filter.mpr ⟨List.mem_of_getElem? (i := 577) (by decide +kernel), by decide +kernel⟩
theorem gm_578 : (Cond.selects "LetterSchool" ⟨"LetterSchool", "lean", "(II)I"⟩ ⟨"LetterSchool", "lean", "(II)I"⟩) ∈ gW := List.mem_filter.mpr ⟨List.mem_of_getElem? (i := 578) (by decide +kernel), by decide +kernel⟩
theorem gm_579 : (Cond.code ⟨"LetterSchool", "lean", "(II)I"⟩ prog_1_method_11_code 4 (Option.some FieldType.int)) ∈ gW := List.mem_filter.mpr ⟨List.mem_of_getElem? (i := 579) (by decide +kernel), by decide +kernel⟩
theorem gm_580 : (Cond.methodLink "LetterSchool" 216 ⟨"LetterSchool$Way", "shortest", "(LLetterSchool$Edition;[II)I"⟩) ∈ gW := List.mem_filter.mpr ⟨List.mem_of_getElem? (i := 580) (by decide +kernel), by decide +kernel⟩
theorem gm_581 : (Cond.instanceMethod ⟨"LetterSchool$Way", "shortest", "(LLetterSchool$Edition;[II)I"⟩) ∈ gW := List.mem_filter.mpr ⟨List.mem_of_getElem? (i := 581) (by decide +kernel), by decide +kernel⟩
theorem gm_582 : (Cond.selects "LetterSchool$Way" ⟨"LetterSchool$Way", "shortest", "(LLetterSchool$Edition;[II)I"⟩ ⟨"LetterSchool$Way", "shortest", "(LLetterSchool$Edition;[II)I"⟩) ∈ gW := List.mem_filter.mpr ⟨List.mem_of_getElem? (i := 582) (by decide +kernel), by decide +kernel⟩
theorem gm_583 : (Cond.code ⟨"LetterSchool$Way", "shortest", "(LLetterSchool$Edition;[II)I"⟩ prog_12_method_2_code 7 (Option.some FieldType.int)) ∈ gW := List.mem_filter.mpr ⟨List.mem_of_getElem? (i := 583) (by decide +kernel), by decide +kernel⟩
theorem gm_584 : (Cond.methodLink "LetterSchool$Way" 21 ⟨"java/util/Arrays", "fill", "([II)V"⟩) ∈ gW := List.mem_filter.mpr ⟨List.mem_of_getElem? (i := 584) (by decide +kernel), by decide +kernel⟩
theorem gm_585 : (Cond.static ⟨"java/util/Arrays", "fill", "([II)V"⟩) ∈ gW := List.mem_filter.mpr ⟨List.mem_of_getElem? (i := 585) (by decide +kernel), by decide +kernel⟩
theorem gm_586 : (Cond.code ⟨"java/util/Arrays", "fill", "([II)V"⟩ prog_18_method_103_code 4 (Option.none : Option FieldType)) ∈ gW := List.mem_filter.mpr ⟨List.mem_of_getElem? (i := 586) (by decide +kernel), by decide +kernel⟩
theorem gm_587 : (Cond.methodLink "LetterSchool$Way" 27 ⟨"LetterSchool$Way", "raise", "([II)V"⟩) ∈ gW := List.mem_filter.mpr ⟨List.mem_of_getElem? (i := 587) (by decide +kernel), by decide +kernel⟩
theorem gm_589 : (Cond.instanceMethod ⟨"LetterSchool$Way", "raise", "([II)V"⟩) ∈ gW := List.mem_filter.mpr ⟨List.mem_of_getElem? (i := 589) (by decide +kernel), by decide +kernel⟩
theorem gm_590 : (Cond.code ⟨"LetterSchool$Way", "raise", "([II)V"⟩ prog_12_method_3_code 4 (Option.none : Option FieldType)) ∈ gW := List.mem_filter.mpr ⟨List.mem_of_getElem? (i := 590) (by decide +kernel), by decide +kernel⟩
theorem gm_591 : (Cond.methodLink "LetterSchool$Way" 30 ⟨"LetterSchool$Edition", "passed", "([I)I"⟩) ∈ gW := List.mem_filter.mpr ⟨List.mem_of_getElem? (i := 591) (by decide +kernel), by decide +kernel⟩
theorem gm_592 : (Cond.methodLink "LetterSchool$Way" 36 ⟨"LetterSchool$Way", "reach", "(LLetterSchool$Edition;II)I"⟩) ∈ gW := List.mem_filter.mpr ⟨List.mem_of_getElem? (i := 592) (by decide +kernel), by decide +kernel⟩
theorem gm_594 : (Cond.instanceMethod ⟨"LetterSchool$Way", "reach", "(LLetterSchool$Edition;II)I"⟩) ∈ gW := List.mem_filter.mpr ⟨List.mem_of_getElem? (i := 594) (by decide +kernel), by decide +kernel⟩
theorem gm_595 : (Cond.code ⟨"LetterSchool$Way", "reach", "(LLetterSchool$Edition;II)I"⟩ prog_12_method_4_code 8 (Option.some FieldType.int)) ∈ gW := List.mem_filter.mpr ⟨List.mem_of_getElem? (i := 595) (by decide +kernel), by decide +kernel⟩
theorem gm_596 : (Cond.methodLink "LetterSchool$Way" 40 ⟨"LetterSchool$Edition", "open", "([I)I"⟩) ∈ gW := List.mem_filter.mpr ⟨List.mem_of_getElem? (i := 596) (by decide +kernel), by decide +kernel⟩
theorem gm_597 : (Cond.methodLink "LetterSchool$Way" 43 ⟨"LetterSchool$Edition", "namedLike", "(I)I"⟩) ∈ gW := List.mem_filter.mpr ⟨List.mem_of_getElem? (i := 597) (by decide +kernel), by decide +kernel⟩
theorem gm_598 : (Cond.instanceMethod ⟨"LetterSchool$Edition", "namedLike", "(I)I"⟩) ∈ gW := List.mem_filter.mpr ⟨List.mem_of_getElem? (i := 598) (by decide +kernel), by decide +kernel⟩
theorem gm_599 : (Cond.selects "LetterSchool$Edition" ⟨"LetterSchool$Edition", "namedLike", "(I)I"⟩ ⟨"LetterSchool$Edition", "namedLike", "(I)I"⟩) ∈ gW := List.mem_filter.mpr ⟨List.mem_of_getElem? (i := 599) (by decide +kernel), by decide +kernel⟩
theorem gm_600 : (Cond.code ⟨"LetterSchool$Edition", "namedLike", "(I)I"⟩ prog_2_method_14_code 4 (Option.some FieldType.int)) ∈ gW := List.mem_filter.mpr ⟨List.mem_of_getElem? (i := 600) (by decide +kernel), by decide +kernel⟩
theorem gm_601 : (Cond.methodLink "LetterSchoolLaw" 59 ⟨"LetterSchool", "post", "(III)I"⟩) ∈ gW := List.mem_filter.mpr ⟨List.mem_of_getElem? (i := 601) (by decide +kernel), by decide +kernel⟩
theorem gm_602 : (Cond.instanceMethod ⟨"LetterSchool", "post", "(III)I"⟩) ∈ gW := List.mem_filter.mpr ⟨List.mem_of_getElem? (i := 602) (by decide +kernel), by decide +kernel⟩
theorem gm_603 : (Cond.selects "LetterSchool" ⟨"LetterSchool", "post", "(III)I"⟩ ⟨"LetterSchool", "post", "(III)I"⟩) ∈ gW := List.mem_filter.mpr ⟨List.mem_of_getElem? (i := 603) (by decide +kernel), by decide +kernel⟩
theorem gm_604 : (Cond.code ⟨"LetterSchool", "post", "(III)I"⟩ prog_1_method_12_code 4 (Option.some FieldType.int)) ∈ gW := List.mem_filter.mpr ⟨List.mem_of_getElem? (i := 604) (by decide +kernel), by decide +kernel⟩
theorem gm_605 : (Cond.methodLink "LetterSchoolLaw" 63 ⟨"LetterSchool", "send", "(III)I"⟩) ∈ gW := List.mem_filter.mpr ⟨List.mem_of_getElem? (i := 605) (by decide +kernel), by decide +kernel⟩
theorem gm_606 : (Cond.instanceMethod ⟨"LetterSchool", "send", "(III)I"⟩) ∈ gW := List.mem_filter.mpr ⟨List.mem_of_getElem? (i := 606) (by decide +kernel), by decide +kernel⟩
theorem gm_607 : (Cond.selects "LetterSchool" ⟨"LetterSchool", "send", "(III)I"⟩ ⟨"LetterSchool", "send", "(III)I"⟩) ∈ gW := List.mem_filter.mpr ⟨List.mem_of_getElem? (i := 607) (by decide +kernel), by decide +kernel⟩
theorem gm_608 : (Cond.code ⟨"LetterSchool", "send", "(III)I"⟩ prog_1_method_13_code 6 (Option.some FieldType.int)) ∈ gW := List.mem_filter.mpr ⟨List.mem_of_getElem? (i := 608) (by decide +kernel), by decide +kernel⟩
theorem gm_609 : (Cond.methodLink "LetterSchool" 229 ⟨"LetterSchool$Pupil", "hasLeftBy", "(I)Z"⟩) ∈ gW := List.mem_filter.mpr ⟨List.mem_of_getElem? (i := 609) (by decide +kernel), by decide +kernel⟩
theorem gm_610 : (Cond.instanceMethod ⟨"LetterSchool$Pupil", "hasLeftBy", "(I)Z"⟩) ∈ gW := List.mem_filter.mpr ⟨List.mem_of_getElem? (i := 610) (by decide +kernel), by decide +kernel⟩
theorem gm_611 : (Cond.selects "LetterSchool$Pupil" ⟨"LetterSchool$Pupil", "hasLeftBy", "(I)Z"⟩ ⟨"LetterSchool$Pupil", "hasLeftBy", "(I)Z"⟩) ∈ gW := List.mem_filter.mpr ⟨List.mem_of_getElem? (i := 611) (by decide +kernel), by decide +kernel⟩
theorem gm_612 : (Cond.code ⟨"LetterSchool$Pupil", "hasLeftBy", "(I)Z"⟩ prog_6_method_3_code 2 (Option.some FieldType.boolean)) ∈ gW := List.mem_filter.mpr ⟨List.mem_of_getElem? (i := 612) (by decide +kernel), by decide +kernel⟩
theorem gm_613 : (Cond.instantiable "LetterSchool$Thing" 15) ∈ gW := List.mem_filter.mpr ⟨List.mem_of_getElem? (i := 613) (by decide +kernel), by decide +kernel⟩
theorem gm_614 : (Cond.methodLink "LetterSchool" 232 ⟨"LetterSchool$Thing", "<init>", "(IIII)V"⟩) ∈ gW := List.mem_filter.mpr ⟨List.mem_of_getElem? (i := 614) (by decide +kernel), by decide +kernel⟩
theorem gm_615 : (Cond.instanceMethod ⟨"LetterSchool$Thing", "<init>", "(IIII)V"⟩) ∈ gW := List.mem_filter.mpr ⟨List.mem_of_getElem? (i := 615) (by decide +kernel), by decide +kernel⟩
theorem gm_616 : (Cond.code ⟨"LetterSchool$Thing", "<init>", "(IIII)V"⟩ prog_10_method_1_code 5 (Option.none : Option FieldType)) ∈ gW := List.mem_filter.mpr ⟨List.mem_of_getElem? (i := 616) (by decide +kernel), by decide +kernel⟩
theorem gm_617 : (Cond.methodLink "LetterSchool$Thing" 3 ⟨"java/lang/Object", "<init>", "()V"⟩) ∈ gW := List.mem_filter.mpr ⟨List.mem_of_getElem? (i := 617) (by decide +kernel), by decide +kernel⟩
theorem gm_618 : (Cond.fieldLink "LetterSchool$Thing" 46 "LetterSchool$Thing" "pupil" "I") ∈ gW := List.mem_filter.mpr ⟨List.mem_of_getElem? (i := 618) (by decide +kernel), by decide +kernel⟩
theorem gm_621 : (Cond.fieldLink "LetterSchool$Thing" 49 "LetterSchool$Thing" "name" "I") ∈ gW := List.mem_filter.mpr ⟨List.mem_of_getElem? (i := 621) (by decide +kernel), by decide +kernel⟩
theorem gm_624 : (Cond.fieldLink "LetterSchool$Thing" 52 "LetterSchool$Thing" "lesson" "I") ∈ gW := List.mem_filter.mpr ⟨List.mem_of_getElem? (i := 624) (by decide +kernel), by decide +kernel⟩
theorem gm_626 : (Cond.fieldLink "LetterSchool$Thing" 55 "LetterSchool$Thing" "firstSent" "I") ∈ gW := List.mem_filter.mpr ⟨List.mem_of_getElem? (i := 626) (by decide +kernel), by decide +kernel⟩
theorem gm_628 : (Cond.fieldLink "LetterSchool$Thing" 9 "LetterSchool$Thing" "choices" "[B") ∈ gW := List.mem_filter.mpr ⟨List.mem_of_getElem? (i := 628) (by decide +kernel), by decide +kernel⟩
theorem gm_630 : (Cond.fieldLink "LetterSchool$Thing" 15 "LetterSchool$Thing" "kind" "I") ∈ gW := List.mem_filter.mpr ⟨List.mem_of_getElem? (i := 630) (by decide +kernel), by decide +kernel⟩
theorem gm_632 : (Cond.fieldLink "LetterSchool$Thing" 19 "LetterSchool$Thing" "sent" "I") ∈ gW := List.mem_filter.mpr ⟨List.mem_of_getElem? (i := 632) (by decide +kernel), by decide +kernel⟩
theorem gm_634 : (Cond.fieldLink "LetterSchool$Thing" 22 "LetterSchool$Thing" "comes" "I") ∈ gW := List.mem_filter.mpr ⟨List.mem_of_getElem? (i := 634) (by decide +kernel), by decide +kernel⟩
theorem gm_636 : (Cond.fieldLink "LetterSchool$Thing" 25 "LetterSchool$Thing" "tutor" "I") ∈ gW := List.mem_filter.mpr ⟨List.mem_of_getElem? (i := 636) (by decide +kernel), by decide +kernel⟩
theorem gm_638 : (Cond.fieldLink "LetterSchool$Thing" 28 "LetterSchool$Thing" "given" "I") ∈ gW := List.mem_filter.mpr ⟨List.mem_of_getElem? (i := 638) (by decide +kernel), by decide +kernel⟩
theorem gm_640 : (Cond.fieldLink "LetterSchool$Thing" 31 "LetterSchool$Thing" "again" "I") ∈ gW := List.mem_filter.mpr ⟨List.mem_of_getElem? (i := 640) (by decide +kernel), by decide +kernel⟩
theorem gm_642 : (Cond.fieldLink "LetterSchool$Thing" 34 "LetterSchool$Thing" "marks" "I") ∈ gW := List.mem_filter.mpr ⟨List.mem_of_getElem? (i := 642) (by decide +kernel), by decide +kernel⟩
theorem gm_644 : (Cond.fieldLink "LetterSchool$Thing" 37 "LetterSchool$Thing" "marked" "I") ∈ gW := List.mem_filter.mpr ⟨List.mem_of_getElem? (i := 644) (by decide +kernel), by decide +kernel⟩
theorem gm_646 : (Cond.fieldLink "LetterSchool$Thing" 40 "LetterSchool$Thing" "secondTutor" "I") ∈ gW := List.mem_filter.mpr ⟨List.mem_of_getElem? (i := 646) (by decide +kernel), by decide +kernel⟩
theorem gm_648 : (Cond.fieldLink "LetterSchool$Thing" 43 "LetterSchool$Thing" "secondMarks" "I") ∈ gW := List.mem_filter.mpr ⟨List.mem_of_getElem? (i := 648) (by decide +kernel), by decide +kernel⟩
theorem gm_681 : (Cond.methodLink "LetterSchool" 235 ⟨"LetterSchool", "carry", "(LLetterSchool$Thing;LLetterSchool$Pupil;I)I"⟩) ∈ gW := List.mem_filter.mpr ⟨List.mem_of_getElem? (i := 681) (by decide +kernel), by decide +kernel⟩
theorem gm_683 : (Cond.instanceMethod ⟨"LetterSchool", "carry", "(LLetterSchool$Thing;LLetterSchool$Pupil;I)I"⟩) ∈ gW := List.mem_filter.mpr ⟨List.mem_of_getElem? (i := 683) (by decide +kernel), by decide +kernel⟩
theorem gm_684 : (Cond.code ⟨"LetterSchool", "carry", "(LLetterSchool$Thing;LLetterSchool$Pupil;I)I"⟩ prog_1_method_57_code 5 (Option.some FieldType.int)) ∈ gW := List.mem_filter.mpr ⟨List.mem_of_getElem? (i := 684) (by decide +kernel), by decide +kernel⟩
theorem gm_685 : (Cond.methodLink "LetterSchool" 409 ⟨"LetterSchool$Post", "losesNext", "()Z"⟩) ∈ gW := List.mem_filter.mpr ⟨List.mem_of_getElem? (i := 685) (by decide +kernel), by decide +kernel⟩
theorem gm_686 : (Cond.instanceMethod ⟨"LetterSchool$Post", "losesNext", "()Z"⟩) ∈ gW := List.mem_filter.mpr ⟨List.mem_of_getElem? (i := 686) (by decide +kernel), by decide +kernel⟩
theorem gm_687 : (Cond.selects "LetterSchool$Post" ⟨"LetterSchool$Post", "losesNext", "()Z"⟩ ⟨"LetterSchool$Post", "losesNext", "()Z"⟩) ∈ gW := List.mem_filter.mpr ⟨List.mem_of_getElem? (i := 687) (by decide +kernel), by decide +kernel⟩
theorem gm_688 : (Cond.code ⟨"LetterSchool$Post", "losesNext", "()Z"⟩ prog_5_method_2_code 1 (Option.some FieldType.boolean)) ∈ gW := List.mem_filter.mpr ⟨List.mem_of_getElem? (i := 688) (by decide +kernel), by decide +kernel⟩
theorem gm_689 : (Cond.methodLink "LetterSchoolLaw" 67 ⟨"LetterSchool", "answer", "(II)I"⟩) ∈ gW := List.mem_filter.mpr ⟨List.mem_of_getElem? (i := 689) (by decide +kernel), by decide +kernel⟩
theorem gm_690 : (Cond.instanceMethod ⟨"LetterSchool", "answer", "(II)I"⟩) ∈ gW := List.mem_filter.mpr ⟨List.mem_of_getElem? (i := 690) (by decide +kernel), by decide +kernel⟩
theorem gm_691 : (Cond.selects "LetterSchool" ⟨"LetterSchool", "answer", "(II)I"⟩ ⟨"LetterSchool", "answer", "(II)I"⟩) ∈ gW := List.mem_filter.mpr ⟨List.mem_of_getElem? (i := 691) (by decide +kernel), by decide +kernel⟩
theorem gm_692 : (Cond.code ⟨"LetterSchool", "answer", "(II)I"⟩ prog_1_method_14_code 5 (Option.some FieldType.int)) ∈ gW := List.mem_filter.mpr ⟨List.mem_of_getElem? (i := 692) (by decide +kernel), by decide +kernel⟩
theorem gm_693 : (Cond.methodLink "LetterSchool" 239 ⟨"LetterSchool", "thingAt", "(I)LLetterSchool$Thing;"⟩) ∈ gW := List.mem_filter.mpr ⟨List.mem_of_getElem? (i := 693) (by decide +kernel), by decide +kernel⟩
theorem gm_695 : (Cond.instanceMethod ⟨"LetterSchool", "thingAt", "(I)LLetterSchool$Thing;"⟩) ∈ gW := List.mem_filter.mpr ⟨List.mem_of_getElem? (i := 695) (by decide +kernel), by decide +kernel⟩
theorem gm_696 : (Cond.code ⟨"LetterSchool", "thingAt", "(I)LLetterSchool$Thing;"⟩ prog_1_method_51_code 2 (Option.some (FieldType.object "LetterSchool$Thing"))) ∈ gW := List.mem_filter.mpr ⟨List.mem_of_getElem? (i := 696) (by decide +kernel), by decide +kernel⟩
theorem gm_697 : (Cond.methodLink "LetterSchoolLaw" 71 ⟨"LetterSchool", "give", "(III)I"⟩) ∈ gW := List.mem_filter.mpr ⟨List.mem_of_getElem? (i := 697) (by decide +kernel), by decide +kernel⟩
theorem gm_698 : (Cond.instanceMethod ⟨"LetterSchool", "give", "(III)I"⟩) ∈ gW := List.mem_filter.mpr ⟨List.mem_of_getElem? (i := 698) (by decide +kernel), by decide +kernel⟩
theorem gm_699 : (Cond.selects "LetterSchool" ⟨"LetterSchool", "give", "(III)I"⟩ ⟨"LetterSchool", "give", "(III)I"⟩) ∈ gW := List.mem_filter.mpr ⟨List.mem_of_getElem? (i := 699) (by decide +kernel), by decide +kernel⟩
theorem gm_700 : (Cond.code ⟨"LetterSchool", "give", "(III)I"⟩ prog_1_method_15_code 6 (Option.some FieldType.int)) ∈ gW := List.mem_filter.mpr ⟨List.mem_of_getElem? (i := 700) (by decide +kernel), by decide +kernel⟩
theorem gm_701 : (Cond.methodLink "LetterSchool" 252 ⟨"LetterSchool", "tutorAt", "(I)LLetterSchool$Tutor;"⟩) ∈ gW := List.mem_filter.mpr ⟨List.mem_of_getElem? (i := 701) (by decide +kernel), by decide +kernel⟩
theorem gm_703 : (Cond.instanceMethod ⟨"LetterSchool", "tutorAt", "(I)LLetterSchool$Tutor;"⟩) ∈ gW := List.mem_filter.mpr ⟨List.mem_of_getElem? (i := 703) (by decide +kernel), by decide +kernel⟩
theorem gm_704 : (Cond.code ⟨"LetterSchool", "tutorAt", "(I)LLetterSchool$Tutor;"⟩ prog_1_method_50_code 2 (Option.some (FieldType.object "LetterSchool$Tutor"))) ∈ gW := List.mem_filter.mpr ⟨List.mem_of_getElem? (i := 704) (by decide +kernel), by decide +kernel⟩
theorem gm_705 : (Cond.methodLink "LetterSchool" 256 ⟨"LetterSchool$Thing", "isAnswer", "()Z"⟩) ∈ gW := List.mem_filter.mpr ⟨List.mem_of_getElem? (i := 705) (by decide +kernel), by decide +kernel⟩
theorem gm_706 : (Cond.instanceMethod ⟨"LetterSchool$Thing", "isAnswer", "()Z"⟩) ∈ gW := List.mem_filter.mpr ⟨List.mem_of_getElem? (i := 706) (by decide +kernel), by decide +kernel⟩
theorem gm_707 : (Cond.selects "LetterSchool$Thing" ⟨"LetterSchool$Thing", "isAnswer", "()Z"⟩ ⟨"LetterSchool$Thing", "isAnswer", "()Z"⟩) ∈ gW := List.mem_filter.mpr ⟨List.mem_of_getElem? (i := 707) (by decide +kernel), by decide +kernel⟩
theorem gm_708 : (Cond.code ⟨"LetterSchool$Thing", "isAnswer", "()Z"⟩ prog_10_method_2_code 1 (Option.some FieldType.boolean)) ∈ gW := List.mem_filter.mpr ⟨List.mem_of_getElem? (i := 708) (by decide +kernel), by decide +kernel⟩
theorem gm_709 : (Cond.methodLink "LetterSchool" 260 ⟨"LetterSchool$Thing", "isOpenBy", "(I)Z"⟩) ∈ gW := List.mem_filter.mpr ⟨List.mem_of_getElem? (i := 709) (by decide +kernel), by decide +kernel⟩
theorem gm_710 : (Cond.instanceMethod ⟨"LetterSchool$Thing", "isOpenBy", "(I)Z"⟩) ∈ gW := List.mem_filter.mpr ⟨List.mem_of_getElem? (i := 710) (by decide +kernel), by decide +kernel⟩
theorem gm_711 : (Cond.selects "LetterSchool$Thing" ⟨"LetterSchool$Thing", "isOpenBy", "(I)Z"⟩ ⟨"LetterSchool$Thing", "isOpenBy", "(I)Z"⟩) ∈ gW := List.mem_filter.mpr ⟨List.mem_of_getElem? (i := 711) (by decide +kernel), by decide +kernel⟩
theorem gm_712 : (Cond.code ⟨"LetterSchool$Thing", "isOpenBy", "(I)Z"⟩ prog_10_method_3_code 2 (Option.some FieldType.boolean)) ∈ gW := List.mem_filter.mpr ⟨List.mem_of_getElem? (i := 712) (by decide +kernel), by decide +kernel⟩
theorem gm_713 : (Cond.methodLink "LetterSchool" 263 ⟨"LetterSchool$Tutor", "mayMark", "(LLetterSchool$Thing;)Z"⟩) ∈ gW := List.mem_filter.mpr ⟨List.mem_of_getElem? (i := 713) (by decide +kernel), by decide +kernel⟩
theorem gm_714 : (Cond.instanceMethod ⟨"LetterSchool$Tutor", "mayMark", "(LLetterSchool$Thing;)Z"⟩) ∈ gW := List.mem_filter.mpr ⟨List.mem_of_getElem? (i := 714) (by decide +kernel), by decide +kernel⟩
theorem gm_715 : (Cond.selects "LetterSchool$Tutor" ⟨"LetterSchool$Tutor", "mayMark", "(LLetterSchool$Thing;)Z"⟩ ⟨"LetterSchool$Tutor", "mayMark", "(LLetterSchool$Thing;)Z"⟩) ∈ gW := List.mem_filter.mpr ⟨List.mem_of_getElem? (i := 715) (by decide +kernel), by decide +kernel⟩
theorem gm_716 : (Cond.code ⟨"LetterSchool$Tutor", "mayMark", "(LLetterSchool$Thing;)Z"⟩ prog_11_method_2_code 2 (Option.some FieldType.boolean)) ∈ gW := List.mem_filter.mpr ⟨List.mem_of_getElem? (i := 716) (by decide +kernel), by decide +kernel⟩
theorem gm_717 : (Cond.methodLink "LetterSchoolLaw" 75 ⟨"LetterSchool", "mark", "(IIIII)I"⟩) ∈ gW := List.mem_filter.mpr ⟨List.mem_of_getElem? (i := 717) (by decide +kernel), by decide +kernel⟩
theorem gm_718 : (Cond.instanceMethod ⟨"LetterSchool", "mark", "(IIIII)I"⟩) ∈ gW := List.mem_filter.mpr ⟨List.mem_of_getElem? (i := 718) (by decide +kernel), by decide +kernel⟩
theorem gm_719 : (Cond.selects "LetterSchool" ⟨"LetterSchool", "mark", "(IIIII)I"⟩ ⟨"LetterSchool", "mark", "(IIIII)I"⟩) ∈ gW := List.mem_filter.mpr ⟨List.mem_of_getElem? (i := 719) (by decide +kernel), by decide +kernel⟩
theorem gm_720 : (Cond.code ⟨"LetterSchool", "mark", "(IIIII)I"⟩ prog_1_method_16_code 7 (Option.some FieldType.int)) ∈ gW := List.mem_filter.mpr ⟨List.mem_of_getElem? (i := 720) (by decide +kernel), by decide +kernel⟩
theorem gm_721 : (Cond.methodLink "LetterSchool" 276 ⟨"LetterSchool", "areParts", "(III)Z"⟩) ∈ gW := List.mem_filter.mpr ⟨List.mem_of_getElem? (i := 721) (by decide +kernel), by decide +kernel⟩
theorem gm_722 : (Cond.static ⟨"LetterSchool", "areParts", "(III)Z"⟩) ∈ gW := List.mem_filter.mpr ⟨List.mem_of_getElem? (i := 722) (by decide +kernel), by decide +kernel⟩
theorem gm_723 : (Cond.code ⟨"LetterSchool", "areParts", "(III)Z"⟩ prog_1_method_46_code 3 (Option.some FieldType.boolean)) ∈ gW := List.mem_filter.mpr ⟨List.mem_of_getElem? (i := 723) (by decide +kernel), by decide +kernel⟩
theorem gm_724 : (Cond.methodLink "LetterSchool" 280 ⟨"LetterSchool$Thing", "isGivenBy", "(I)Z"⟩) ∈ gW := List.mem_filter.mpr ⟨List.mem_of_getElem? (i := 724) (by decide +kernel), by decide +kernel⟩
theorem gm_725 : (Cond.instanceMethod ⟨"LetterSchool$Thing", "isGivenBy", "(I)Z"⟩) ∈ gW := List.mem_filter.mpr ⟨List.mem_of_getElem? (i := 725) (by decide +kernel), by decide +kernel⟩
theorem gm_726 : (Cond.selects "LetterSchool$Thing" ⟨"LetterSchool$Thing", "isGivenBy", "(I)Z"⟩ ⟨"LetterSchool$Thing", "isGivenBy", "(I)Z"⟩) ∈ gW := List.mem_filter.mpr ⟨List.mem_of_getElem? (i := 726) (by decide +kernel), by decide +kernel⟩
theorem gm_727 : (Cond.code ⟨"LetterSchool$Thing", "isGivenBy", "(I)Z"⟩ prog_10_method_4_code 2 (Option.some FieldType.boolean)) ∈ gW := List.mem_filter.mpr ⟨List.mem_of_getElem? (i := 727) (by decide +kernel), by decide +kernel⟩
theorem gm_728 : (Cond.methodLink "LetterSchool" 283 ⟨"LetterSchool", "unload", "(LLetterSchool$Thing;)V"⟩) ∈ gW := List.mem_filter.mpr ⟨List.mem_of_getElem? (i := 728) (by decide +kernel), by decide +kernel⟩
theorem gm_730 : (Cond.instanceMethod ⟨"LetterSchool", "unload", "(LLetterSchool$Thing;)V"⟩) ∈ gW := List.mem_filter.mpr ⟨List.mem_of_getElem? (i := 730) (by decide +kernel), by decide +kernel⟩
theorem gm_731 : (Cond.code ⟨"LetterSchool", "unload", "(LLetterSchool$Thing;)V"⟩ prog_1_method_58_code 3 (Option.none : Option FieldType)) ∈ gW := List.mem_filter.mpr ⟨List.mem_of_getElem? (i := 731) (by decide +kernel), by decide +kernel⟩
theorem gm_732 : (Cond.methodLink "LetterSchool" 287 ⟨"LetterSchool", "weigh", "(III)I"⟩) ∈ gW := List.mem_filter.mpr ⟨List.mem_of_getElem? (i := 732) (by decide +kernel), by decide +kernel⟩
theorem gm_733 : (Cond.static ⟨"LetterSchool", "weigh", "(III)I"⟩) ∈ gW := List.mem_filter.mpr ⟨List.mem_of_getElem? (i := 733) (by decide +kernel), by decide +kernel⟩
theorem gm_734 : (Cond.code ⟨"LetterSchool", "weigh", "(III)I"⟩ prog_1_method_47_code 3 (Option.some FieldType.int)) ∈ gW := List.mem_filter.mpr ⟨List.mem_of_getElem? (i := 734) (by decide +kernel), by decide +kernel⟩
theorem gm_735 : (Cond.methodLink "LetterSchoolLaw" 80 ⟨"LetterSchool", "again", "(II)I"⟩) ∈ gW := List.mem_filter.mpr ⟨List.mem_of_getElem? (i := 735) (by decide +kernel), by decide +kernel⟩
theorem gm_736 : (Cond.instanceMethod ⟨"LetterSchool", "again", "(II)I"⟩) ∈ gW := List.mem_filter.mpr ⟨List.mem_of_getElem? (i := 736) (by decide +kernel), by decide +kernel⟩
theorem gm_737 : (Cond.selects "LetterSchool" ⟨"LetterSchool", "again", "(II)I"⟩ ⟨"LetterSchool", "again", "(II)I"⟩) ∈ gW := List.mem_filter.mpr ⟨List.mem_of_getElem? (i := 737) (by decide +kernel), by decide +kernel⟩
theorem gm_738 : (Cond.code ⟨"LetterSchool", "again", "(II)I"⟩ prog_1_method_17_code 5 (Option.some FieldType.int)) ∈ gW := List.mem_filter.mpr ⟨List.mem_of_getElem? (i := 738) (by decide +kernel), by decide +kernel⟩
theorem gm_739 : (Cond.methodLink "LetterSchoolLaw" 84 ⟨"LetterSchool", "second", "(IIIII)I"⟩) ∈ gW := List.mem_filter.mpr ⟨List.mem_of_getElem? (i := 739) (by decide +kernel), by decide +kernel⟩
theorem gm_740 : (Cond.instanceMethod ⟨"LetterSchool", "second", "(IIIII)I"⟩) ∈ gW := List.mem_filter.mpr ⟨List.mem_of_getElem? (i := 740) (by decide +kernel), by decide +kernel⟩
theorem gm_741 : (Cond.selects "LetterSchool" ⟨"LetterSchool", "second", "(IIIII)I"⟩ ⟨"LetterSchool", "second", "(IIIII)I"⟩) ∈ gW := List.mem_filter.mpr ⟨List.mem_of_getElem? (i := 741) (by decide +kernel), by decide +kernel⟩
theorem gm_742 : (Cond.code ⟨"LetterSchool", "second", "(IIIII)I"⟩ prog_1_method_18_code 7 (Option.some FieldType.int)) ∈ gW := List.mem_filter.mpr ⟨List.mem_of_getElem? (i := 742) (by decide +kernel), by decide +kernel⟩
theorem gm_743 : (Cond.methodLink "LetterSchoolLaw" 88 ⟨"LetterSchool", "thing", "(II)I"⟩) ∈ gW := List.mem_filter.mpr ⟨List.mem_of_getElem? (i := 743) (by decide +kernel), by decide +kernel⟩
theorem gm_744 : (Cond.instanceMethod ⟨"LetterSchool", "thing", "(II)I"⟩) ∈ gW := List.mem_filter.mpr ⟨List.mem_of_getElem? (i := 744) (by decide +kernel), by decide +kernel⟩
theorem gm_745 : (Cond.selects "LetterSchool" ⟨"LetterSchool", "thing", "(II)I"⟩ ⟨"LetterSchool", "thing", "(II)I"⟩) ∈ gW := List.mem_filter.mpr ⟨List.mem_of_getElem? (i := 745) (by decide +kernel), by decide +kernel⟩
theorem gm_746 : (Cond.code ⟨"LetterSchool", "thing", "(II)I"⟩ prog_1_method_19_code 4 (Option.some FieldType.int)) ∈ gW := List.mem_filter.mpr ⟨List.mem_of_getElem? (i := 746) (by decide +kernel), by decide +kernel⟩
theorem gm_747 : (Cond.methodLink "LetterSchoolLaw" 92 ⟨"LetterSchool", "marks", "(II)I"⟩) ∈ gW := List.mem_filter.mpr ⟨List.mem_of_getElem? (i := 747) (by decide +kernel), by decide +kernel⟩
theorem gm_748 : (Cond.instanceMethod ⟨"LetterSchool", "marks", "(II)I"⟩) ∈ gW := List.mem_filter.mpr ⟨List.mem_of_getElem? (i := 748) (by decide +kernel), by decide +kernel⟩
theorem gm_749 : (Cond.selects "LetterSchool" ⟨"LetterSchool", "marks", "(II)I"⟩ ⟨"LetterSchool", "marks", "(II)I"⟩) ∈ gW := List.mem_filter.mpr ⟨List.mem_of_getElem? (i := 749) (by decide +kernel), by decide +kernel⟩
theorem gm_750 : (Cond.code ⟨"LetterSchool", "marks", "(II)I"⟩ prog_1_method_20_code 4 (Option.some FieldType.int)) ∈ gW := List.mem_filter.mpr ⟨List.mem_of_getElem? (i := 750) (by decide +kernel), by decide +kernel⟩
theorem gm_751 : (Cond.methodLink "LetterSchool" 313 ⟨"LetterSchool", "knownOn", "(LLetterSchool$Thing;)I"⟩) ∈ gW := List.mem_filter.mpr ⟨List.mem_of_getElem? (i := 751) (by decide +kernel), by decide +kernel⟩
theorem gm_753 : (Cond.instanceMethod ⟨"LetterSchool", "knownOn", "(LLetterSchool$Thing;)I"⟩) ∈ gW := List.mem_filter.mpr ⟨List.mem_of_getElem? (i := 753) (by decide +kernel), by decide +kernel⟩
theorem gm_754 : (Cond.code ⟨"LetterSchool", "knownOn", "(LLetterSchool$Thing;)I"⟩ prog_1_method_59_code 3 (Option.some FieldType.int)) ∈ gW := List.mem_filter.mpr ⟨List.mem_of_getElem? (i := 754) (by decide +kernel), by decide +kernel⟩
theorem gm_755 : (Cond.methodLink "LetterSchoolLaw" 96 ⟨"LetterSchool", "count", "(I)I"⟩) ∈ gW := List.mem_filter.mpr ⟨List.mem_of_getElem? (i := 755) (by decide +kernel), by decide +kernel⟩
theorem gm_756 : (Cond.instanceMethod ⟨"LetterSchool", "count", "(I)I"⟩) ∈ gW := List.mem_filter.mpr ⟨List.mem_of_getElem? (i := 756) (by decide +kernel), by decide +kernel⟩
theorem gm_757 : (Cond.selects "LetterSchool" ⟨"LetterSchool", "count", "(I)I"⟩ ⟨"LetterSchool", "count", "(I)I"⟩) ∈ gW := List.mem_filter.mpr ⟨List.mem_of_getElem? (i := 757) (by decide +kernel), by decide +kernel⟩
theorem gm_758 : (Cond.code ⟨"LetterSchool", "count", "(I)I"⟩ prog_1_method_21_code 4 (Option.some FieldType.int)) ∈ gW := List.mem_filter.mpr ⟨List.mem_of_getElem? (i := 758) (by decide +kernel), by decide +kernel⟩
theorem gm_759 : (Cond.methodLink "LetterSchoolLaw" 101 ⟨"LetterSchool", "tutor", "(II)I"⟩) ∈ gW := List.mem_filter.mpr ⟨List.mem_of_getElem? (i := 759) (by decide +kernel), by decide +kernel⟩
theorem gm_760 : (Cond.instanceMethod ⟨"LetterSchool", "tutor", "(II)I"⟩) ∈ gW := List.mem_filter.mpr ⟨List.mem_of_getElem? (i := 760) (by decide +kernel), by decide +kernel⟩
theorem gm_761 : (Cond.selects "LetterSchool" ⟨"LetterSchool", "tutor", "(II)I"⟩ ⟨"LetterSchool", "tutor", "(II)I"⟩) ∈ gW := List.mem_filter.mpr ⟨List.mem_of_getElem? (i := 761) (by decide +kernel), by decide +kernel⟩
theorem gm_762 : (Cond.code ⟨"LetterSchool", "tutor", "(II)I"⟩ prog_1_method_22_code 3 (Option.some FieldType.int)) ∈ gW := List.mem_filter.mpr ⟨List.mem_of_getElem? (i := 762) (by decide +kernel), by decide +kernel⟩
theorem gm_763 : (Cond.instantiable "LetterSchool$Tutor" 4) ∈ gW := List.mem_filter.mpr ⟨List.mem_of_getElem? (i := 763) (by decide +kernel), by decide +kernel⟩
theorem gm_764 : (Cond.methodLink "LetterSchool" 317 ⟨"LetterSchool$Tutor", "<init>", "(II)V"⟩) ∈ gW := List.mem_filter.mpr ⟨List.mem_of_getElem? (i := 764) (by decide +kernel), by decide +kernel⟩
theorem gm_765 : (Cond.instanceMethod ⟨"LetterSchool$Tutor", "<init>", "(II)V"⟩) ∈ gW := List.mem_filter.mpr ⟨List.mem_of_getElem? (i := 765) (by decide +kernel), by decide +kernel⟩
theorem gm_766 : (Cond.code ⟨"LetterSchool$Tutor", "<init>", "(II)V"⟩ prog_11_method_1_code 3 (Option.none : Option FieldType)) ∈ gW := List.mem_filter.mpr ⟨List.mem_of_getElem? (i := 766) (by decide +kernel), by decide +kernel⟩
theorem gm_767 : (Cond.methodLink "LetterSchool$Tutor" 1 ⟨"java/lang/Object", "<init>", "()V"⟩) ∈ gW := List.mem_filter.mpr ⟨List.mem_of_getElem? (i := 767) (by decide +kernel), by decide +kernel⟩
theorem gm_768 : (Cond.fieldLink "LetterSchool$Tutor" 16 "LetterSchool$Tutor" "teaches" "I") ∈ gW := List.mem_filter.mpr ⟨List.mem_of_getElem? (i := 768) (by decide +kernel), by decide +kernel⟩
theorem gm_769 : (Cond.fieldLink "LetterSchool$Tutor" 19 "LetterSchool$Tutor" "pace" "I") ∈ gW := List.mem_filter.mpr ⟨List.mem_of_getElem? (i := 769) (by decide +kernel), by decide +kernel⟩
theorem gm_772 : (Cond.fieldLink "LetterSchool$Tutor" 7 "LetterSchool$Tutor" "kin" "I") ∈ gW := List.mem_filter.mpr ⟨List.mem_of_getElem? (i := 772) (by decide +kernel), by decide +kernel⟩
theorem gm_774 : (Cond.fieldLink "LetterSchool$Tutor" 13 "LetterSchool$Tutor" "load" "I") ∈ gW := List.mem_filter.mpr ⟨List.mem_of_getElem? (i := 774) (by decide +kernel), by decide +kernel⟩
theorem gm_786 : (Cond.methodLink "LetterSchoolLaw" 105 ⟨"LetterSchool", "kin", "(II)I"⟩) ∈ gW := List.mem_filter.mpr ⟨List.mem_of_getElem? (i := 786) (by decide +kernel), by decide +kernel⟩
theorem gm_787 : (Cond.instanceMethod ⟨"LetterSchool", "kin", "(II)I"⟩) ∈ gW := List.mem_filter.mpr ⟨List.mem_of_getElem? (i := 787) (by decide +kernel), by decide +kernel⟩
theorem gm_788 : (Cond.selects "LetterSchool" ⟨"LetterSchool", "kin", "(II)I"⟩ ⟨"LetterSchool", "kin", "(II)I"⟩) ∈ gW := List.mem_filter.mpr ⟨List.mem_of_getElem? (i := 788) (by decide +kernel), by decide +kernel⟩
theorem gm_789 : (Cond.code ⟨"LetterSchool", "kin", "(II)I"⟩ prog_1_method_23_code 5 (Option.some FieldType.int)) ∈ gW := List.mem_filter.mpr ⟨List.mem_of_getElem? (i := 789) (by decide +kernel), by decide +kernel⟩
theorem gm_790 : (Cond.methodLink "LetterSchoolLaw" 109 ⟨"LetterSchool", "load", "(I)I"⟩) ∈ gW := List.mem_filter.mpr ⟨List.mem_of_getElem? (i := 790) (by decide +kernel), by decide +kernel⟩
theorem gm_791 : (Cond.instanceMethod ⟨"LetterSchool", "load", "(I)I"⟩) ∈ gW := List.mem_filter.mpr ⟨List.mem_of_getElem? (i := 791) (by decide +kernel), by decide +kernel⟩
theorem gm_792 : (Cond.selects "LetterSchool" ⟨"LetterSchool", "load", "(I)I"⟩ ⟨"LetterSchool", "load", "(I)I"⟩) ∈ gW := List.mem_filter.mpr ⟨List.mem_of_getElem? (i := 792) (by decide +kernel), by decide +kernel⟩
theorem gm_793 : (Cond.code ⟨"LetterSchool", "load", "(I)I"⟩ prog_1_method_24_code 3 (Option.some FieldType.int)) ∈ gW := List.mem_filter.mpr ⟨List.mem_of_getElem? (i := 793) (by decide +kernel), by decide +kernel⟩
theorem gm_794 : (Cond.methodLink "LetterSchoolLaw" 113 ⟨"LetterSchool", "wait", "(II)I"⟩) ∈ gW := List.mem_filter.mpr ⟨List.mem_of_getElem? (i := 794) (by decide +kernel), by decide +kernel⟩
theorem gm_795 : (Cond.instanceMethod ⟨"LetterSchool", "wait", "(II)I"⟩) ∈ gW := List.mem_filter.mpr ⟨List.mem_of_getElem? (i := 795) (by decide +kernel), by decide +kernel⟩
theorem gm_796 : (Cond.selects "LetterSchool" ⟨"LetterSchool", "wait", "(II)I"⟩ ⟨"LetterSchool", "wait", "(II)I"⟩) ∈ gW := List.mem_filter.mpr ⟨List.mem_of_getElem? (i := 796) (by decide +kernel), by decide +kernel⟩
theorem gm_797 : (Cond.code ⟨"LetterSchool", "wait", "(II)I"⟩ prog_1_method_25_code 5 (Option.some FieldType.int)) ∈ gW := List.mem_filter.mpr ⟨List.mem_of_getElem? (i := 797) (by decide +kernel), by decide +kernel⟩
theorem gm_798 : (Cond.methodLink "LetterSchool" 326 ⟨"LetterSchool", "cutUp", "(II)I"⟩) ∈ gW := List.mem_filter.mpr ⟨List.mem_of_getElem? (i := 798) (by decide +kernel), by decide +kernel⟩
theorem gm_799 : (Cond.static ⟨"LetterSchool", "cutUp", "(II)I"⟩) ∈ gW := List.mem_filter.mpr ⟨List.mem_of_getElem? (i := 799) (by decide +kernel), by decide +kernel⟩
theorem gm_800 : (Cond.code ⟨"LetterSchool", "cutUp", "(II)I"⟩ prog_1_method_48_code 2 (Option.some FieldType.int)) ∈ gW := List.mem_filter.mpr ⟨List.mem_of_getElem? (i := 800) (by decide +kernel), by decide +kernel⟩
theorem gm_801 : (Cond.methodLink "LetterSchoolLaw" 117 ⟨"LetterSchool", "took", "(I)I"⟩) ∈ gW := List.mem_filter.mpr ⟨List.mem_of_getElem? (i := 801) (by decide +kernel), by decide +kernel⟩
theorem gm_802 : (Cond.instanceMethod ⟨"LetterSchool", "took", "(I)I"⟩) ∈ gW := List.mem_filter.mpr ⟨List.mem_of_getElem? (i := 802) (by decide +kernel), by decide +kernel⟩
theorem gm_803 : (Cond.selects "LetterSchool" ⟨"LetterSchool", "took", "(I)I"⟩ ⟨"LetterSchool", "took", "(I)I"⟩) ∈ gW := List.mem_filter.mpr ⟨List.mem_of_getElem? (i := 803) (by decide +kernel), by decide +kernel⟩
theorem gm_804 : (Cond.code ⟨"LetterSchool", "took", "(I)I"⟩ prog_1_method_26_code 3 (Option.some FieldType.int)) ∈ gW := List.mem_filter.mpr ⟨List.mem_of_getElem? (i := 804) (by decide +kernel), by decide +kernel⟩
theorem gm_805 : (Cond.methodLink "LetterSchoolLaw" 121 ⟨"LetterSchool", "share", "(II)I"⟩) ∈ gW := List.mem_filter.mpr ⟨List.mem_of_getElem? (i := 805) (by decide +kernel), by decide +kernel⟩
theorem gm_806 : (Cond.instanceMethod ⟨"LetterSchool", "share", "(II)I"⟩) ∈ gW := List.mem_filter.mpr ⟨List.mem_of_getElem? (i := 806) (by decide +kernel), by decide +kernel⟩
theorem gm_807 : (Cond.selects "LetterSchool" ⟨"LetterSchool", "share", "(II)I"⟩ ⟨"LetterSchool", "share", "(II)I"⟩) ∈ gW := List.mem_filter.mpr ⟨List.mem_of_getElem? (i := 807) (by decide +kernel), by decide +kernel⟩
theorem gm_808 : (Cond.code ⟨"LetterSchool", "share", "(II)I"⟩ prog_1_method_27_code 3 (Option.some FieldType.int)) ∈ gW := List.mem_filter.mpr ⟨List.mem_of_getElem? (i := 808) (by decide +kernel), by decide +kernel⟩
theorem gm_809 : (Cond.methodLink "LetterSchool" 332 ⟨"LetterSchool", "shareBy", "(I)V"⟩) ∈ gW := List.mem_filter.mpr ⟨List.mem_of_getElem? (i := 809) (by decide +kernel), by decide +kernel⟩
theorem gm_811 : (Cond.instanceMethod ⟨"LetterSchool", "shareBy", "(I)V"⟩) ∈ gW := List.mem_filter.mpr ⟨List.mem_of_getElem? (i := 811) (by decide +kernel), by decide +kernel⟩
theorem gm_812 : (Cond.code ⟨"LetterSchool", "shareBy", "(I)V"⟩ prog_1_method_60_code 3 (Option.none : Option FieldType)) ∈ gW := List.mem_filter.mpr ⟨List.mem_of_getElem? (i := 812) (by decide +kernel), by decide +kernel⟩
theorem gm_813 : (Cond.methodLink "LetterSchool" 412 ⟨"LetterSchool$Sharing", "clear", "()V"⟩) ∈ gW := List.mem_filter.mpr ⟨List.mem_of_getElem? (i := 813) (by decide +kernel), by decide +kernel⟩
theorem gm_814 : (Cond.instanceMethod ⟨"LetterSchool$Sharing", "clear", "()V"⟩) ∈ gW := List.mem_filter.mpr ⟨List.mem_of_getElem? (i := 814) (by decide +kernel), by decide +kernel⟩
theorem gm_815 : (Cond.selects "LetterSchool$Sharing" ⟨"LetterSchool$Sharing", "clear", "()V"⟩ ⟨"LetterSchool$Sharing", "clear", "()V"⟩) ∈ gW := List.mem_filter.mpr ⟨List.mem_of_getElem? (i := 815) (by decide +kernel), by decide +kernel⟩
theorem gm_816 : (Cond.code ⟨"LetterSchool$Sharing", "clear", "()V"⟩ prog_7_method_2_code 1 (Option.none : Option FieldType)) ∈ gW := List.mem_filter.mpr ⟨List.mem_of_getElem? (i := 816) (by decide +kernel), by decide +kernel⟩
theorem gm_817 : (Cond.methodLink "LetterSchool" 415 ⟨"LetterSchool$Sharing", "addTutor", "(LLetterSchool$Tutor;)V"⟩) ∈ gW := List.mem_filter.mpr ⟨List.mem_of_getElem? (i := 817) (by decide +kernel), by decide +kernel⟩
theorem gm_818 : (Cond.instanceMethod ⟨"LetterSchool$Sharing", "addTutor", "(LLetterSchool$Tutor;)V"⟩) ∈ gW := List.mem_filter.mpr ⟨List.mem_of_getElem? (i := 818) (by decide +kernel), by decide +kernel⟩
theorem gm_819 : (Cond.selects "LetterSchool$Sharing" ⟨"LetterSchool$Sharing", "addTutor", "(LLetterSchool$Tutor;)V"⟩ ⟨"LetterSchool$Sharing", "addTutor", "(LLetterSchool$Tutor;)V"⟩) ∈ gW := List.mem_filter.mpr ⟨List.mem_of_getElem? (i := 819) (by decide +kernel), by decide +kernel⟩
theorem gm_820 : (Cond.code ⟨"LetterSchool$Sharing", "addTutor", "(LLetterSchool$Tutor;)V"⟩ prog_7_method_3_code 2 (Option.none : Option FieldType)) ∈ gW := List.mem_filter.mpr ⟨List.mem_of_getElem? (i := 820) (by decide +kernel), by decide +kernel⟩
theorem gm_821 : (Cond.methodLink "LetterSchool" 419 ⟨"LetterSchool", "tutorsFor", "(LLetterSchool$Thing;)I"⟩) ∈ gW := List.mem_filter.mpr ⟨List.mem_of_getElem? (i := 821) (by decide +kernel), by decide +kernel⟩
theorem gm_823 : (Cond.instanceMethod ⟨"LetterSchool", "tutorsFor", "(LLetterSchool$Thing;)I"⟩) ∈ gW := List.mem_filter.mpr ⟨List.mem_of_getElem? (i := 823) (by decide +kernel), by decide +kernel⟩
theorem gm_824 : (Cond.code ⟨"LetterSchool", "tutorsFor", "(LLetterSchool$Thing;)I"⟩ prog_1_method_61_code 4 (Option.some FieldType.int)) ∈ gW := List.mem_filter.mpr ⟨List.mem_of_getElem? (i := 824) (by decide +kernel), by decide +kernel⟩
theorem gm_825 : (Cond.methodLink "LetterSchool" 422 ⟨"LetterSchool$Sharing", "addThing", "(II)V"⟩) ∈ gW := List.mem_filter.mpr ⟨List.mem_of_getElem? (i := 825) (by decide +kernel), by decide +kernel⟩
theorem gm_826 : (Cond.instanceMethod ⟨"LetterSchool$Sharing", "addThing", "(II)V"⟩) ∈ gW := List.mem_filter.mpr ⟨List.mem_of_getElem? (i := 826) (by decide +kernel), by decide +kernel⟩
theorem gm_827 : (Cond.selects "LetterSchool$Sharing" ⟨"LetterSchool$Sharing", "addThing", "(II)V"⟩ ⟨"LetterSchool$Sharing", "addThing", "(II)V"⟩) ∈ gW := List.mem_filter.mpr ⟨List.mem_of_getElem? (i := 827) (by decide +kernel), by decide +kernel⟩
theorem gm_828 : (Cond.code ⟨"LetterSchool$Sharing", "addThing", "(II)V"⟩ prog_7_method_4_code 3 (Option.none : Option FieldType)) ∈ gW := List.mem_filter.mpr ⟨List.mem_of_getElem? (i := 828) (by decide +kernel), by decide +kernel⟩
theorem gm_829 : (Cond.methodLink "LetterSchool" 425 ⟨"LetterSchool$Sharing", "solve", "()V"⟩) ∈ gW := List.mem_filter.mpr ⟨List.mem_of_getElem? (i := 829) (by decide +kernel), by decide +kernel⟩
theorem gm_830 : (Cond.instanceMethod ⟨"LetterSchool$Sharing", "solve", "()V"⟩) ∈ gW := List.mem_filter.mpr ⟨List.mem_of_getElem? (i := 830) (by decide +kernel), by decide +kernel⟩
theorem gm_831 : (Cond.selects "LetterSchool$Sharing" ⟨"LetterSchool$Sharing", "solve", "()V"⟩ ⟨"LetterSchool$Sharing", "solve", "()V"⟩) ∈ gW := List.mem_filter.mpr ⟨List.mem_of_getElem? (i := 831) (by decide +kernel), by decide +kernel⟩
theorem gm_832 : (Cond.code ⟨"LetterSchool$Sharing", "solve", "()V"⟩ prog_7_method_5_code 1 (Option.none : Option FieldType)) ∈ gW := List.mem_filter.mpr ⟨List.mem_of_getElem? (i := 832) (by decide +kernel), by decide +kernel⟩
theorem gm_833 : (Cond.methodLink "LetterSchool$Sharing" 55 ⟨"LetterSchool$Sharing", "lookAhead", "()V"⟩) ∈ gW := List.mem_filter.mpr ⟨List.mem_of_getElem? (i := 833) (by decide +kernel), by decide +kernel⟩
theorem gm_835 : (Cond.instanceMethod ⟨"LetterSchool$Sharing", "lookAhead", "()V"⟩) ∈ gW := List.mem_filter.mpr ⟨List.mem_of_getElem? (i := 835) (by decide +kernel), by decide +kernel⟩
theorem gm_836 : (Cond.code ⟨"LetterSchool$Sharing", "lookAhead", "()V"⟩ prog_7_method_6_code 3 (Option.none : Option FieldType)) ∈ gW := List.mem_filter.mpr ⟨List.mem_of_getElem? (i := 836) (by decide +kernel), by decide +kernel⟩
theorem gm_837 : (Cond.methodLink "LetterSchool$Sharing" 62 ⟨"LetterSchool$Sharing", "fewestDays", "(I)I"⟩) ∈ gW := List.mem_filter.mpr ⟨List.mem_of_getElem? (i := 837) (by decide +kernel), by decide +kernel⟩
theorem gm_839 : (Cond.instanceMethod ⟨"LetterSchool$Sharing", "fewestDays", "(I)I"⟩) ∈ gW := List.mem_filter.mpr ⟨List.mem_of_getElem? (i := 839) (by decide +kernel), by decide +kernel⟩
theorem gm_840 : (Cond.code ⟨"LetterSchool$Sharing", "fewestDays", "(I)I"⟩ prog_7_method_7_code 5 (Option.some FieldType.int)) ∈ gW := List.mem_filter.mpr ⟨List.mem_of_getElem? (i := 840) (by decide +kernel), by decide +kernel⟩
theorem gm_842 : (Cond.methodLink "LetterSchool$Sharing" 70 ⟨"LetterSchool$Sharing", "canTake", "(II)Z"⟩) ∈ gW := List.mem_filter.mpr ⟨List.mem_of_getElem? (i := 842) (by decide +kernel), by decide +kernel⟩
theorem gm_844 : (Cond.instanceMethod ⟨"LetterSchool$Sharing", "canTake", "(II)Z"⟩) ∈ gW := List.mem_filter.mpr ⟨List.mem_of_getElem? (i := 844) (by decide +kernel), by decide +kernel⟩
theorem gm_845 : (Cond.code ⟨"LetterSchool$Sharing", "canTake", "(II)Z"⟩ prog_7_method_8_code 3 (Option.some FieldType.boolean)) ∈ gW := List.mem_filter.mpr ⟨List.mem_of_getElem? (i := 845) (by decide +kernel), by decide +kernel⟩
theorem gm_846 : (Cond.methodLink "LetterSchool$Sharing" 58 ⟨"LetterSchool$Sharing", "seek", "(III)V"⟩) ∈ gW := List.mem_filter.mpr ⟨List.mem_of_getElem? (i := 846) (by decide +kernel), by decide +kernel⟩
theorem gm_848 : (Cond.instanceMethod ⟨"LetterSchool$Sharing", "seek", "(III)V"⟩) ∈ gW := List.mem_filter.mpr ⟨List.mem_of_getElem? (i := 848) (by decide +kernel), by decide +kernel⟩
theorem gm_849 : (Cond.code ⟨"LetterSchool$Sharing", "seek", "(III)V"⟩ prog_7_method_9_code 5 (Option.none : Option FieldType)) ∈ gW := List.mem_filter.mpr ⟨List.mem_of_getElem? (i := 849) (by decide +kernel), by decide +kernel⟩
theorem gm_850 : (Cond.methodLink "LetterSchool$Sharing" 74 ⟨"LetterSchool$Sharing", "canBeBetter", "(III)Z"⟩) ∈ gW := List.mem_filter.mpr ⟨List.mem_of_getElem? (i := 850) (by decide +kernel), by decide +kernel⟩
theorem gm_852 : (Cond.instanceMethod ⟨"LetterSchool$Sharing", "canBeBetter", "(III)Z"⟩) ∈ gW := List.mem_filter.mpr ⟨List.mem_of_getElem? (i := 852) (by decide +kernel), by decide +kernel⟩
theorem gm_853 : (Cond.code ⟨"LetterSchool$Sharing", "canBeBetter", "(III)Z"⟩ prog_7_method_10_code 5 (Option.some FieldType.boolean)) ∈ gW := List.mem_filter.mpr ⟨List.mem_of_getElem? (i := 853) (by decide +kernel), by decide +kernel⟩
theorem gm_854 : (Cond.methodLink "LetterSchool$Sharing" 78 ⟨"java/lang/System", "arraycopy", "(Ljava/lang/Object;ILjava/lang/Object;II)V"⟩) ∈ gW := List.mem_filter.mpr ⟨List.mem_of_getElem? (i := 854) (by decide +kernel), by decide +kernel⟩
theorem gm_855 : (Cond.static ⟨"java/lang/System", "arraycopy", "(Ljava/lang/Object;ILjava/lang/Object;II)V"⟩) ∈ gW := List.mem_filter.mpr ⟨List.mem_of_getElem? (i := 855) (by decide +kernel), by decide +kernel⟩
theorem gm_856 : (Cond.native ⟨"java/lang/System", "arraycopy", "(Ljava/lang/Object;ILjava/lang/Object;II)V"⟩) ∈ gW := List.mem_filter.mpr ⟨List.mem_of_getElem? (i := 856) (by decide +kernel), by decide +kernel⟩
theorem gm_857 : (Cond.methodLink "LetterSchoolLaw" 125 ⟨"LetterSchool", "shareOf", "(II)I"⟩) ∈ gW := List.mem_filter.mpr ⟨List.mem_of_getElem? (i := 857) (by decide +kernel), by decide +kernel⟩
theorem gm_858 : (Cond.instanceMethod ⟨"LetterSchool", "shareOf", "(II)I"⟩) ∈ gW := List.mem_filter.mpr ⟨List.mem_of_getElem? (i := 858) (by decide +kernel), by decide +kernel⟩
theorem gm_859 : (Cond.selects "LetterSchool" ⟨"LetterSchool", "shareOf", "(II)I"⟩ ⟨"LetterSchool", "shareOf", "(II)I"⟩) ∈ gW := List.mem_filter.mpr ⟨List.mem_of_getElem? (i := 859) (by decide +kernel), by decide +kernel⟩
theorem gm_860 : (Cond.code ⟨"LetterSchool", "shareOf", "(II)I"⟩ prog_1_method_28_code 3 (Option.some FieldType.int)) ∈ gW := List.mem_filter.mpr ⟨List.mem_of_getElem? (i := 860) (by decide +kernel), by decide +kernel⟩
theorem gm_861 : (Cond.methodLink "LetterSchool" 341 ⟨"LetterSchool$Sharing", "tutorOf", "(I)I"⟩) ∈ gW := List.mem_filter.mpr ⟨List.mem_of_getElem? (i := 861) (by decide +kernel), by decide +kernel⟩
theorem gm_862 : (Cond.instanceMethod ⟨"LetterSchool$Sharing", "tutorOf", "(I)I"⟩) ∈ gW := List.mem_filter.mpr ⟨List.mem_of_getElem? (i := 862) (by decide +kernel), by decide +kernel⟩
theorem gm_863 : (Cond.selects "LetterSchool$Sharing" ⟨"LetterSchool$Sharing", "tutorOf", "(I)I"⟩ ⟨"LetterSchool$Sharing", "tutorOf", "(I)I"⟩) ∈ gW := List.mem_filter.mpr ⟨List.mem_of_getElem? (i := 863) (by decide +kernel), by decide +kernel⟩
theorem gm_864 : (Cond.code ⟨"LetterSchool$Sharing", "tutorOf", "(I)I"⟩ prog_7_method_11_code 3 (Option.some FieldType.int)) ∈ gW := List.mem_filter.mpr ⟨List.mem_of_getElem? (i := 864) (by decide +kernel), by decide +kernel⟩
theorem gm_865 : (Cond.methodLink "LetterSchoolLaw" 129 ⟨"LetterSchool", "offset", "(III)I"⟩) ∈ gW := List.mem_filter.mpr ⟨List.mem_of_getElem? (i := 865) (by decide +kernel), by decide +kernel⟩
theorem gm_866 : (Cond.instanceMethod ⟨"LetterSchool", "offset", "(III)I"⟩) ∈ gW := List.mem_filter.mpr ⟨List.mem_of_getElem? (i := 866) (by decide +kernel), by decide +kernel⟩
theorem gm_867 : (Cond.selects "LetterSchool" ⟨"LetterSchool", "offset", "(III)I"⟩ ⟨"LetterSchool", "offset", "(III)I"⟩) ∈ gW := List.mem_filter.mpr ⟨List.mem_of_getElem? (i := 867) (by decide +kernel), by decide +kernel⟩
theorem gm_868 : (Cond.code ⟨"LetterSchool", "offset", "(III)I"⟩ prog_1_method_29_code 11 (Option.some FieldType.int)) ∈ gW := List.mem_filter.mpr ⟨List.mem_of_getElem? (i := 868) (by decide +kernel), by decide +kernel⟩
theorem gm_869 : (Cond.methodLink "LetterSchool" 344 ⟨"LetterSchool$Thing", "isMarkedByBoth", "(II)Z"⟩) ∈ gW := List.mem_filter.mpr ⟨List.mem_of_getElem? (i := 869) (by decide +kernel), by decide +kernel⟩
theorem gm_870 : (Cond.instanceMethod ⟨"LetterSchool$Thing", "isMarkedByBoth", "(II)Z"⟩) ∈ gW := List.mem_filter.mpr ⟨List.mem_of_getElem? (i := 870) (by decide +kernel), by decide +kernel⟩
theorem gm_871 : (Cond.selects "LetterSchool$Thing" ⟨"LetterSchool$Thing", "isMarkedByBoth", "(II)Z"⟩ ⟨"LetterSchool$Thing", "isMarkedByBoth", "(II)Z"⟩) ∈ gW := List.mem_filter.mpr ⟨List.mem_of_getElem? (i := 871) (by decide +kernel), by decide +kernel⟩
theorem gm_872 : (Cond.code ⟨"LetterSchool$Thing", "isMarkedByBoth", "(II)Z"⟩ prog_10_method_5_code 3 (Option.some FieldType.boolean)) ∈ gW := List.mem_filter.mpr ⟨List.mem_of_getElem? (i := 872) (by decide +kernel), by decide +kernel⟩
theorem gm_873 : (Cond.methodLink "LetterSchool" 347 ⟨"java/lang/Math", "min", "(II)I"⟩) ∈ gW := List.mem_filter.mpr ⟨List.mem_of_getElem? (i := 873) (by decide +kernel), by decide +kernel⟩
theorem gm_874 : (Cond.methodLink "LetterSchoolLaw" 133 ⟨"LetterSchool", "key", "(III)I"⟩) ∈ gW := List.mem_filter.mpr ⟨List.mem_of_getElem? (i := 874) (by decide +kernel), by decide +kernel⟩
theorem gm_875 : (Cond.instanceMethod ⟨"LetterSchool", "key", "(III)I"⟩) ∈ gW := List.mem_filter.mpr ⟨List.mem_of_getElem? (i := 875) (by decide +kernel), by decide +kernel⟩
theorem gm_876 : (Cond.selects "LetterSchool" ⟨"LetterSchool", "key", "(III)I"⟩ ⟨"LetterSchool", "key", "(III)I"⟩) ∈ gW := List.mem_filter.mpr ⟨List.mem_of_getElem? (i := 876) (by decide +kernel), by decide +kernel⟩
theorem gm_877 : (Cond.code ⟨"LetterSchool", "key", "(III)I"⟩ prog_1_method_30_code 5 (Option.some FieldType.int)) ∈ gW := List.mem_filter.mpr ⟨List.mem_of_getElem? (i := 877) (by decide +kernel), by decide +kernel⟩
theorem gm_878 : (Cond.methodLink "LetterSchoolLaw" 137 ⟨"LetterSchool", "choose", "(III)I"⟩) ∈ gW := List.mem_filter.mpr ⟨List.mem_of_getElem? (i := 878) (by decide +kernel), by decide +kernel⟩
theorem gm_879 : (Cond.instanceMethod ⟨"LetterSchool", "choose", "(III)I"⟩) ∈ gW := List.mem_filter.mpr ⟨List.mem_of_getElem? (i := 879) (by decide +kernel), by decide +kernel⟩
theorem gm_880 : (Cond.selects "LetterSchool" ⟨"LetterSchool", "choose", "(III)I"⟩ ⟨"LetterSchool", "choose", "(III)I"⟩) ∈ gW := List.mem_filter.mpr ⟨List.mem_of_getElem? (i := 880) (by decide +kernel), by decide +kernel⟩
theorem gm_881 : (Cond.code ⟨"LetterSchool", "choose", "(III)I"⟩ prog_1_method_31_code 6 (Option.some FieldType.int)) ∈ gW := List.mem_filter.mpr ⟨List.mem_of_getElem? (i := 881) (by decide +kernel), by decide +kernel⟩
theorem gm_882 : (Cond.methodLink "LetterSchoolLaw" 141 ⟨"LetterSchool", "like", "(II)I"⟩) ∈ gW := List.mem_filter.mpr ⟨List.mem_of_getElem? (i := 882) (by decide +kernel), by decide +kernel⟩
theorem gm_883 : (Cond.instanceMethod ⟨"LetterSchool", "like", "(II)I"⟩) ∈ gW := List.mem_filter.mpr ⟨List.mem_of_getElem? (i := 883) (by decide +kernel), by decide +kernel⟩
theorem gm_884 : (Cond.selects "LetterSchool" ⟨"LetterSchool", "like", "(II)I"⟩ ⟨"LetterSchool", "like", "(II)I"⟩) ∈ gW := List.mem_filter.mpr ⟨List.mem_of_getElem? (i := 884) (by decide +kernel), by decide +kernel⟩
theorem gm_885 : (Cond.code ⟨"LetterSchool", "like", "(II)I"⟩ prog_1_method_32_code 5 (Option.some FieldType.int)) ∈ gW := List.mem_filter.mpr ⟨List.mem_of_getElem? (i := 885) (by decide +kernel), by decide +kernel⟩
theorem gm_886 : (Cond.methodLink "LetterSchool" 358 ⟨"LetterSchool", "areComparable", "(LLetterSchool$Thing;LLetterSchool$Thing;)Z"⟩) ∈ gW := List.mem_filter.mpr ⟨List.mem_of_getElem? (i := 886) (by decide +kernel), by decide +kernel⟩
theorem gm_887 : (Cond.static ⟨"LetterSchool", "areComparable", "(LLetterSchool$Thing;LLetterSchool$Thing;)Z"⟩) ∈ gW := List.mem_filter.mpr ⟨List.mem_of_getElem? (i := 887) (by decide +kernel), by decide +kernel⟩
theorem gm_888 : (Cond.code ⟨"LetterSchool", "areComparable", "(LLetterSchool$Thing;LLetterSchool$Thing;)Z"⟩ prog_1_method_62_code 2 (Option.some FieldType.boolean)) ∈ gW := List.mem_filter.mpr ⟨List.mem_of_getElem? (i := 888) (by decide +kernel), by decide +kernel⟩
theorem gm_889 : (Cond.methodLink "LetterSchool" 362 ⟨"LetterSchool", "likeness", "(LLetterSchool$Thing;LLetterSchool$Thing;)I"⟩) ∈ gW := List.mem_filter.mpr ⟨List.mem_of_getElem? (i := 889) (by decide +kernel), by decide +kernel⟩
theorem gm_891 : (Cond.instanceMethod ⟨"LetterSchool", "likeness", "(LLetterSchool$Thing;LLetterSchool$Thing;)I"⟩) ∈ gW := List.mem_filter.mpr ⟨List.mem_of_getElem? (i := 891) (by decide +kernel), by decide +kernel⟩
theorem gm_892 : (Cond.code ⟨"LetterSchool", "likeness", "(LLetterSchool$Thing;LLetterSchool$Thing;)I"⟩ prog_1_method_63_code 5 (Option.some FieldType.int)) ∈ gW := List.mem_filter.mpr ⟨List.mem_of_getElem? (i := 892) (by decide +kernel), by decide +kernel⟩
theorem gm_893 : (Cond.methodLink "LetterSchoolLaw" 145 ⟨"LetterSchool", "limit", "(I)I"⟩) ∈ gW := List.mem_filter.mpr ⟨List.mem_of_getElem? (i := 893) (by decide +kernel), by decide +kernel⟩
theorem gm_894 : (Cond.instanceMethod ⟨"LetterSchool", "limit", "(I)I"⟩) ∈ gW := List.mem_filter.mpr ⟨List.mem_of_getElem? (i := 894) (by decide +kernel), by decide +kernel⟩
theorem gm_895 : (Cond.selects "LetterSchool" ⟨"LetterSchool", "limit", "(I)I"⟩ ⟨"LetterSchool", "limit", "(I)I"⟩) ∈ gW := List.mem_filter.mpr ⟨List.mem_of_getElem? (i := 895) (by decide +kernel), by decide +kernel⟩
theorem gm_896 : (Cond.code ⟨"LetterSchool", "limit", "(I)I"⟩ prog_1_method_33_code 3 (Option.some FieldType.int)) ∈ gW := List.mem_filter.mpr ⟨List.mem_of_getElem? (i := 896) (by decide +kernel), by decide +kernel⟩
theorem gm_897 : (Cond.methodLink "LetterSchoolLaw" 149 ⟨"LetterSchool", "doubted", "(I)I"⟩) ∈ gW := List.mem_filter.mpr ⟨List.mem_of_getElem? (i := 897) (by decide +kernel), by decide +kernel⟩
theorem gm_898 : (Cond.instanceMethod ⟨"LetterSchool", "doubted", "(I)I"⟩) ∈ gW := List.mem_filter.mpr ⟨List.mem_of_getElem? (i := 898) (by decide +kernel), by decide +kernel⟩
theorem gm_899 : (Cond.selects "LetterSchool" ⟨"LetterSchool", "doubted", "(I)I"⟩ ⟨"LetterSchool", "doubted", "(I)I"⟩) ∈ gW := List.mem_filter.mpr ⟨List.mem_of_getElem? (i := 899) (by decide +kernel), by decide +kernel⟩
theorem gm_900 : (Cond.code ⟨"LetterSchool", "doubted", "(I)I"⟩ prog_1_method_34_code 5 (Option.some FieldType.int)) ∈ gW := List.mem_filter.mpr ⟨List.mem_of_getElem? (i := 900) (by decide +kernel), by decide +kernel⟩
theorem gm_901 : (Cond.methodLink "LetterSchool" 366 ⟨"LetterSchool", "isDoubted", "(LLetterSchool$Thing;LLetterSchool$Thing;)Z"⟩) ∈ gW := List.mem_filter.mpr ⟨List.mem_of_getElem? (i := 901) (by decide +kernel), by decide +kernel⟩
theorem gm_903 : (Cond.instanceMethod ⟨"LetterSchool", "isDoubted", "(LLetterSchool$Thing;LLetterSchool$Thing;)Z"⟩) ∈ gW := List.mem_filter.mpr ⟨List.mem_of_getElem? (i := 903) (by decide +kernel), by decide +kernel⟩
theorem gm_904 : (Cond.code ⟨"LetterSchool", "isDoubted", "(LLetterSchool$Thing;LLetterSchool$Thing;)Z"⟩ prog_1_method_64_code 3 (Option.some FieldType.boolean)) ∈ gW := List.mem_filter.mpr ⟨List.mem_of_getElem? (i := 904) (by decide +kernel), by decide +kernel⟩
theorem gm_905 : (Cond.methodLink "LetterSchoolLaw" 153 ⟨"LetterSchool", "fees", "(I)I"⟩) ∈ gW := List.mem_filter.mpr ⟨List.mem_of_getElem? (i := 905) (by decide +kernel), by decide +kernel⟩
theorem gm_906 : (Cond.instanceMethod ⟨"LetterSchool", "fees", "(I)I"⟩) ∈ gW := List.mem_filter.mpr ⟨List.mem_of_getElem? (i := 906) (by decide +kernel), by decide +kernel⟩
theorem gm_907 : (Cond.selects "LetterSchool" ⟨"LetterSchool", "fees", "(I)I"⟩ ⟨"LetterSchool", "fees", "(I)I"⟩) ∈ gW := List.mem_filter.mpr ⟨List.mem_of_getElem? (i := 907) (by decide +kernel), by decide +kernel⟩
theorem gm_908 : (Cond.code ⟨"LetterSchool", "fees", "(I)I"⟩ prog_1_method_35_code 4 (Option.some FieldType.int)) ∈ gW := List.mem_filter.mpr ⟨List.mem_of_getElem? (i := 908) (by decide +kernel), by decide +kernel⟩
theorem gm_909 : (Cond.methodLink "LetterSchool" 369 ⟨"LetterSchool$Tape", "readFees", "(LLetterSchool$Fees;)Z"⟩) ∈ gW := List.mem_filter.mpr ⟨List.mem_of_getElem? (i := 909) (by decide +kernel), by decide +kernel⟩
theorem gm_910 : (Cond.instanceMethod ⟨"LetterSchool$Tape", "readFees", "(LLetterSchool$Fees;)Z"⟩) ∈ gW := List.mem_filter.mpr ⟨List.mem_of_getElem? (i := 910) (by decide +kernel), by decide +kernel⟩
theorem gm_911 : (Cond.selects "LetterSchool$Tape" ⟨"LetterSchool$Tape", "readFees", "(LLetterSchool$Fees;)Z"⟩ ⟨"LetterSchool$Tape", "readFees", "(LLetterSchool$Fees;)Z"⟩) ∈ gW := List.mem_filter.mpr ⟨List.mem_of_getElem? (i := 911) (by decide +kernel), by decide +kernel⟩
theorem gm_912 : (Cond.code ⟨"LetterSchool$Tape", "readFees", "(LLetterSchool$Fees;)Z"⟩ prog_9_method_12_code 3 (Option.some FieldType.boolean)) ∈ gW := List.mem_filter.mpr ⟨List.mem_of_getElem? (i := 912) (by decide +kernel), by decide +kernel⟩
theorem gm_913 : (Cond.methodLink "LetterSchool$Tape" 93 ⟨"LetterSchool$Tape", "readFee", "(LLetterSchool$Fees;)Z"⟩) ∈ gW := List.mem_filter.mpr ⟨List.mem_of_getElem? (i := 913) (by decide +kernel), by decide +kernel⟩
theorem gm_915 : (Cond.instanceMethod ⟨"LetterSchool$Tape", "readFee", "(LLetterSchool$Fees;)Z"⟩) ∈ gW := List.mem_filter.mpr ⟨List.mem_of_getElem? (i := 915) (by decide +kernel), by decide +kernel⟩
theorem gm_916 : (Cond.code ⟨"LetterSchool$Tape", "readFee", "(LLetterSchool$Fees;)Z"⟩ prog_9_method_13_code 5 (Option.some FieldType.boolean)) ∈ gW := List.mem_filter.mpr ⟨List.mem_of_getElem? (i := 916) (by decide +kernel), by decide +kernel⟩
theorem gm_917 : (Cond.constant "LetterSchool$Tape" 97 99999) ∈ gW := List.mem_filter.mpr ⟨List.mem_of_getElem? (i := 917) (by decide +kernel), by decide +kernel⟩
theorem gm_918 : (Cond.methodLink "LetterSchool$Tape" 98 ⟨"LetterSchool$Fees", "add", "(ZII)V"⟩) ∈ gW := List.mem_filter.mpr ⟨List.mem_of_getElem? (i := 918) (by decide +kernel), by decide +kernel⟩
theorem gm_919 : (Cond.instanceMethod ⟨"LetterSchool$Fees", "add", "(ZII)V"⟩) ∈ gW := List.mem_filter.mpr ⟨List.mem_of_getElem? (i := 919) (by decide +kernel), by decide +kernel⟩
theorem gm_920 : (Cond.selects "LetterSchool$Fees" ⟨"LetterSchool$Fees", "add", "(ZII)V"⟩ ⟨"LetterSchool$Fees", "add", "(ZII)V"⟩) ∈ gW := List.mem_filter.mpr ⟨List.mem_of_getElem? (i := 920) (by decide +kernel), by decide +kernel⟩
theorem gm_921 : (Cond.code ⟨"LetterSchool$Fees", "add", "(ZII)V"⟩ prog_3_method_2_code 4 (Option.none : Option FieldType)) ∈ gW := List.mem_filter.mpr ⟨List.mem_of_getElem? (i := 921) (by decide +kernel), by decide +kernel⟩
theorem gm_922 : (Cond.methodLink "LetterSchoolLaw" 157 ⟨"LetterSchool", "pay", "(III)I"⟩) ∈ gW := List.mem_filter.mpr ⟨List.mem_of_getElem? (i := 922) (by decide +kernel), by decide +kernel⟩
theorem gm_923 : (Cond.instanceMethod ⟨"LetterSchool", "pay", "(III)I"⟩) ∈ gW := List.mem_filter.mpr ⟨List.mem_of_getElem? (i := 923) (by decide +kernel), by decide +kernel⟩
theorem gm_924 : (Cond.selects "LetterSchool" ⟨"LetterSchool", "pay", "(III)I"⟩ ⟨"LetterSchool", "pay", "(III)I"⟩) ∈ gW := List.mem_filter.mpr ⟨List.mem_of_getElem? (i := 924) (by decide +kernel), by decide +kernel⟩
theorem gm_925 : (Cond.code ⟨"LetterSchool", "pay", "(III)I"⟩ prog_1_method_36_code 5 (Option.some FieldType.int)) ∈ gW := List.mem_filter.mpr ⟨List.mem_of_getElem? (i := 925) (by decide +kernel), by decide +kernel⟩
theorem gm_926 : (Cond.constant "LetterSchool" 376 99999) ∈ gW := List.mem_filter.mpr ⟨List.mem_of_getElem? (i := 926) (by decide +kernel), by decide +kernel⟩
theorem gm_927 : (Cond.methodLink "LetterSchool" 377 ⟨"LetterSchool$Ledger", "enter", "(III)Z"⟩) ∈ gW := List.mem_filter.mpr ⟨List.mem_of_getElem? (i := 927) (by decide +kernel), by decide +kernel⟩
theorem gm_928 : (Cond.instanceMethod ⟨"LetterSchool$Ledger", "enter", "(III)Z"⟩) ∈ gW := List.mem_filter.mpr ⟨List.mem_of_getElem? (i := 928) (by decide +kernel), by decide +kernel⟩
theorem gm_929 : (Cond.selects "LetterSchool$Ledger" ⟨"LetterSchool$Ledger", "enter", "(III)Z"⟩ ⟨"LetterSchool$Ledger", "enter", "(III)Z"⟩) ∈ gW := List.mem_filter.mpr ⟨List.mem_of_getElem? (i := 929) (by decide +kernel), by decide +kernel⟩
theorem gm_930 : (Cond.code ⟨"LetterSchool$Ledger", "enter", "(III)Z"⟩ prog_4_method_2_code 4 (Option.some FieldType.boolean)) ∈ gW := List.mem_filter.mpr ⟨List.mem_of_getElem? (i := 930) (by decide +kernel), by decide +kernel⟩
theorem gm_931 : (Cond.methodLink "LetterSchoolLaw" 161 ⟨"LetterSchool", "due", "(II)I"⟩) ∈ gW := List.mem_filter.mpr ⟨List.mem_of_getElem? (i := 931) (by decide +kernel), by decide +kernel⟩
theorem gm_932 : (Cond.instanceMethod ⟨"LetterSchool", "due", "(II)I"⟩) ∈ gW := List.mem_filter.mpr ⟨List.mem_of_getElem? (i := 932) (by decide +kernel), by decide +kernel⟩
theorem gm_933 : (Cond.selects "LetterSchool" ⟨"LetterSchool", "due", "(II)I"⟩ ⟨"LetterSchool", "due", "(II)I"⟩) ∈ gW := List.mem_filter.mpr ⟨List.mem_of_getElem? (i := 933) (by decide +kernel), by decide +kernel⟩
theorem gm_934 : (Cond.code ⟨"LetterSchool", "due", "(II)I"⟩ prog_1_method_37_code 4 (Option.some FieldType.int)) ∈ gW := List.mem_filter.mpr ⟨List.mem_of_getElem? (i := 934) (by decide +kernel), by decide +kernel⟩
theorem gm_935 : (Cond.methodLink "LetterSchool" 380 ⟨"LetterSchool$Fees", "partsBy", "(I)I"⟩) ∈ gW := List.mem_filter.mpr ⟨List.mem_of_getElem? (i := 935) (by decide +kernel), by decide +kernel⟩
theorem gm_936 : (Cond.instanceMethod ⟨"LetterSchool$Fees", "partsBy", "(I)I"⟩) ∈ gW := List.mem_filter.mpr ⟨List.mem_of_getElem? (i := 936) (by decide +kernel), by decide +kernel⟩
theorem gm_937 : (Cond.selects "LetterSchool$Fees" ⟨"LetterSchool$Fees", "partsBy", "(I)I"⟩ ⟨"LetterSchool$Fees", "partsBy", "(I)I"⟩) ∈ gW := List.mem_filter.mpr ⟨List.mem_of_getElem? (i := 937) (by decide +kernel), by decide +kernel⟩
theorem gm_938 : (Cond.code ⟨"LetterSchool$Fees", "partsBy", "(I)I"⟩ prog_3_method_3_code 4 (Option.some FieldType.int)) ∈ gW := List.mem_filter.mpr ⟨List.mem_of_getElem? (i := 938) (by decide +kernel), by decide +kernel⟩
theorem gm_939 : (Cond.methodLink "LetterSchoolLaw" 165 ⟨"LetterSchool", "leave", "(II)I"⟩) ∈ gW := List.mem_filter.mpr ⟨List.mem_of_getElem? (i := 939) (by decide +kernel), by decide +kernel⟩
theorem gm_940 : (Cond.instanceMethod ⟨"LetterSchool", "leave", "(II)I"⟩) ∈ gW := List.mem_filter.mpr ⟨List.mem_of_getElem? (i := 940) (by decide +kernel), by decide +kernel⟩
theorem gm_941 : (Cond.selects "LetterSchool" ⟨"LetterSchool", "leave", "(II)I"⟩ ⟨"LetterSchool", "leave", "(II)I"⟩) ∈ gW := List.mem_filter.mpr ⟨List.mem_of_getElem? (i := 941) (by decide +kernel), by decide +kernel⟩
theorem gm_942 : (Cond.code ⟨"LetterSchool", "leave", "(II)I"⟩ prog_1_method_38_code 4 (Option.some FieldType.int)) ∈ gW := List.mem_filter.mpr ⟨List.mem_of_getElem? (i := 942) (by decide +kernel), by decide +kernel⟩
theorem gm_943 : (Cond.methodLink "LetterSchool" 383 ⟨"LetterSchool$Fees", "backAfter", "(I)I"⟩) ∈ gW := List.mem_filter.mpr ⟨List.mem_of_getElem? (i := 943) (by decide +kernel), by decide +kernel⟩
theorem gm_944 : (Cond.instanceMethod ⟨"LetterSchool$Fees", "backAfter", "(I)I"⟩) ∈ gW := List.mem_filter.mpr ⟨List.mem_of_getElem? (i := 944) (by decide +kernel), by decide +kernel⟩
theorem gm_945 : (Cond.selects "LetterSchool$Fees" ⟨"LetterSchool$Fees", "backAfter", "(I)I"⟩ ⟨"LetterSchool$Fees", "backAfter", "(I)I"⟩) ∈ gW := List.mem_filter.mpr ⟨List.mem_of_getElem? (i := 945) (by decide +kernel), by decide +kernel⟩
theorem gm_946 : (Cond.code ⟨"LetterSchool$Fees", "backAfter", "(I)I"⟩ prog_3_method_4_code 3 (Option.some FieldType.int)) ∈ gW := List.mem_filter.mpr ⟨List.mem_of_getElem? (i := 946) (by decide +kernel), by decide +kernel⟩
theorem gm_947 : (Cond.constantLong "LetterSchool" 386 100) ∈ gW := List.mem_filter.mpr ⟨List.mem_of_getElem? (i := 947) (by decide +kernel), by decide +kernel⟩
theorem gm_948 : (Cond.methodLink "LetterSchoolLaw" 169 ⟨"LetterSchool", "move", "(III)I"⟩) ∈ gW := List.mem_filter.mpr ⟨List.mem_of_getElem? (i := 948) (by decide +kernel), by decide +kernel⟩
theorem gm_949 : (Cond.instanceMethod ⟨"LetterSchool", "move", "(III)I"⟩) ∈ gW := List.mem_filter.mpr ⟨List.mem_of_getElem? (i := 949) (by decide +kernel), by decide +kernel⟩
theorem gm_950 : (Cond.selects "LetterSchool" ⟨"LetterSchool", "move", "(III)I"⟩ ⟨"LetterSchool", "move", "(III)I"⟩) ∈ gW := List.mem_filter.mpr ⟨List.mem_of_getElem? (i := 950) (by decide +kernel), by decide +kernel⟩
theorem gm_951 : (Cond.code ⟨"LetterSchool", "move", "(III)I"⟩ prog_1_method_39_code 7 (Option.some FieldType.int)) ∈ gW := List.mem_filter.mpr ⟨List.mem_of_getElem? (i := 951) (by decide +kernel), by decide +kernel⟩
theorem gm_952 : (Cond.methodLink "LetterSchool" 388 ⟨"LetterSchool$Pupil", "follow", "(IILLetterSchool$Edition;)V"⟩) ∈ gW := List.mem_filter.mpr ⟨List.mem_of_getElem? (i := 952) (by decide +kernel), by decide +kernel⟩
theorem gm_953 : (Cond.instanceMethod ⟨"LetterSchool$Pupil", "follow", "(IILLetterSchool$Edition;)V"⟩) ∈ gW := List.mem_filter.mpr ⟨List.mem_of_getElem? (i := 953) (by decide +kernel), by decide +kernel⟩
theorem gm_954 : (Cond.selects "LetterSchool$Pupil" ⟨"LetterSchool$Pupil", "follow", "(IILLetterSchool$Edition;)V"⟩ ⟨"LetterSchool$Pupil", "follow", "(IILLetterSchool$Edition;)V"⟩) ∈ gW := List.mem_filter.mpr ⟨List.mem_of_getElem? (i := 954) (by decide +kernel), by decide +kernel⟩
theorem gm_955 : (Cond.code ⟨"LetterSchool$Pupil", "follow", "(IILLetterSchool$Edition;)V"⟩ prog_6_method_2_code 4 (Option.none : Option FieldType)) ∈ gW := List.mem_filter.mpr ⟨List.mem_of_getElem? (i := 955) (by decide +kernel), by decide +kernel⟩
theorem gm_956 : (Cond.methodLink "LetterSchoolLaw" 173 ⟨"LetterSchool", "sheet", "(III)I"⟩) ∈ gW := List.mem_filter.mpr ⟨List.mem_of_getElem? (i := 956) (by decide +kernel), by decide +kernel⟩
theorem gm_957 : (Cond.instanceMethod ⟨"LetterSchool", "sheet", "(III)I"⟩) ∈ gW := List.mem_filter.mpr ⟨List.mem_of_getElem? (i := 957) (by decide +kernel), by decide +kernel⟩
theorem gm_958 : (Cond.selects "LetterSchool" ⟨"LetterSchool", "sheet", "(III)I"⟩ ⟨"LetterSchool", "sheet", "(III)I"⟩) ∈ gW := List.mem_filter.mpr ⟨List.mem_of_getElem? (i := 958) (by decide +kernel), by decide +kernel⟩
theorem gm_959 : (Cond.code ⟨"LetterSchool", "sheet", "(III)I"⟩ prog_1_method_40_code 4 (Option.some FieldType.int)) ∈ gW := List.mem_filter.mpr ⟨List.mem_of_getElem? (i := 959) (by decide +kernel), by decide +kernel⟩
theorem gm_960 : (Cond.methodLink "LetterSchool" 392 ⟨"LetterSchool$Sheet", "begin", "(II)V"⟩) ∈ gW := List.mem_filter.mpr ⟨List.mem_of_getElem? (i := 960) (by decide +kernel), by decide +kernel⟩
theorem gm_961 : (Cond.instanceMethod ⟨"LetterSchool$Sheet", "begin", "(II)V"⟩) ∈ gW := List.mem_filter.mpr ⟨List.mem_of_getElem? (i := 961) (by decide +kernel), by decide +kernel⟩
theorem gm_962 : (Cond.selects "LetterSchool$Sheet" ⟨"LetterSchool$Sheet", "begin", "(II)V"⟩ ⟨"LetterSchool$Sheet", "begin", "(II)V"⟩) ∈ gW := List.mem_filter.mpr ⟨List.mem_of_getElem? (i := 962) (by decide +kernel), by decide +kernel⟩
theorem gm_963 : (Cond.code ⟨"LetterSchool$Sheet", "begin", "(II)V"⟩ prog_8_method_2_code 3 (Option.none : Option FieldType)) ∈ gW := List.mem_filter.mpr ⟨List.mem_of_getElem? (i := 963) (by decide +kernel), by decide +kernel⟩
theorem gm_964 : (Cond.methodLink "LetterSchool$Sheet" 22 ⟨"java/util/Arrays", "fill", "([II)V"⟩) ∈ gW := List.mem_filter.mpr ⟨List.mem_of_getElem? (i := 964) (by decide +kernel), by decide +kernel⟩
theorem gm_965 : (Cond.methodLink "LetterSchoolLaw" 177 ⟨"LetterSchool", "drop", "(I)I"⟩) ∈ gW := List.mem_filter.mpr ⟨List.mem_of_getElem? (i := 965) (by decide +kernel), by decide +kernel⟩
theorem gm_966 : (Cond.instanceMethod ⟨"LetterSchool", "drop", "(I)I"⟩) ∈ gW := List.mem_filter.mpr ⟨List.mem_of_getElem? (i := 966) (by decide +kernel), by decide +kernel⟩
theorem gm_967 : (Cond.selects "LetterSchool" ⟨"LetterSchool", "drop", "(I)I"⟩ ⟨"LetterSchool", "drop", "(I)I"⟩) ∈ gW := List.mem_filter.mpr ⟨List.mem_of_getElem? (i := 967) (by decide +kernel), by decide +kernel⟩
theorem gm_968 : (Cond.code ⟨"LetterSchool", "drop", "(I)I"⟩ prog_1_method_41_code 3 (Option.some FieldType.int)) ∈ gW := List.mem_filter.mpr ⟨List.mem_of_getElem? (i := 968) (by decide +kernel), by decide +kernel⟩
theorem gm_969 : (Cond.methodLink "LetterSchoolLaw" 181 ⟨"LetterSchool", "item", "(IIII)I"⟩) ∈ gW := List.mem_filter.mpr ⟨List.mem_of_getElem? (i := 969) (by decide +kernel), by decide +kernel⟩
theorem gm_970 : (Cond.instanceMethod ⟨"LetterSchool", "item", "(IIII)I"⟩) ∈ gW := List.mem_filter.mpr ⟨List.mem_of_getElem? (i := 970) (by decide +kernel), by decide +kernel⟩
theorem gm_971 : (Cond.selects "LetterSchool" ⟨"LetterSchool", "item", "(IIII)I"⟩ ⟨"LetterSchool", "item", "(IIII)I"⟩) ∈ gW := List.mem_filter.mpr ⟨List.mem_of_getElem? (i := 971) (by decide +kernel), by decide +kernel⟩
theorem gm_972 : (Cond.code ⟨"LetterSchool", "item", "(IIII)I"⟩ prog_1_method_42_code 6 (Option.some FieldType.int)) ∈ gW := List.mem_filter.mpr ⟨List.mem_of_getElem? (i := 972) (by decide +kernel), by decide +kernel⟩
theorem gm_973 : (Cond.methodLink "LetterSchool" 400 ⟨"LetterSchool$Sheet", "refusal", "(III)I"⟩) ∈ gW := List.mem_filter.mpr ⟨List.mem_of_getElem? (i := 973) (by decide +kernel), by decide +kernel⟩
theorem gm_974 : (Cond.instanceMethod ⟨"LetterSchool$Sheet", "refusal", "(III)I"⟩) ∈ gW := List.mem_filter.mpr ⟨List.mem_of_getElem? (i := 974) (by decide +kernel), by decide +kernel⟩
theorem gm_975 : (Cond.selects "LetterSchool$Sheet" ⟨"LetterSchool$Sheet", "refusal", "(III)I"⟩ ⟨"LetterSchool$Sheet", "refusal", "(III)I"⟩) ∈ gW := List.mem_filter.mpr ⟨List.mem_of_getElem? (i := 975) (by decide +kernel), by decide +kernel⟩
theorem gm_976 : (Cond.code ⟨"LetterSchool$Sheet", "refusal", "(III)I"⟩ prog_8_method_3_code 4 (Option.some FieldType.int)) ∈ gW := List.mem_filter.mpr ⟨List.mem_of_getElem? (i := 976) (by decide +kernel), by decide +kernel⟩
theorem gm_977 : (Cond.methodLink "LetterSchool" 403 ⟨"LetterSchool$Sheet", "put", "(II)V"⟩) ∈ gW := List.mem_filter.mpr ⟨List.mem_of_getElem? (i := 977) (by decide +kernel), by decide +kernel⟩
theorem gm_978 : (Cond.instanceMethod ⟨"LetterSchool$Sheet", "put", "(II)V"⟩) ∈ gW := List.mem_filter.mpr ⟨List.mem_of_getElem? (i := 978) (by decide +kernel), by decide +kernel⟩
theorem gm_979 : (Cond.selects "LetterSchool$Sheet" ⟨"LetterSchool$Sheet", "put", "(II)V"⟩ ⟨"LetterSchool$Sheet", "put", "(II)V"⟩) ∈ gW := List.mem_filter.mpr ⟨List.mem_of_getElem? (i := 979) (by decide +kernel), by decide +kernel⟩
theorem gm_980 : (Cond.code ⟨"LetterSchool$Sheet", "put", "(II)V"⟩ prog_8_method_4_code 3 (Option.none : Option FieldType)) ∈ gW := List.mem_filter.mpr ⟨List.mem_of_getElem? (i := 980) (by decide +kernel), by decide +kernel⟩
theorem gm_981 : (Cond.methodLink "LetterSchoolLaw" 185 ⟨"LetterSchool", "choices", "(IIIII)I"⟩) ∈ gW := List.mem_filter.mpr ⟨List.mem_of_getElem? (i := 981) (by decide +kernel), by decide +kernel⟩
theorem gm_982 : (Cond.instanceMethod ⟨"LetterSchool", "choices", "(IIIII)I"⟩) ∈ gW := List.mem_filter.mpr ⟨List.mem_of_getElem? (i := 982) (by decide +kernel), by decide +kernel⟩
theorem gm_983 : (Cond.selects "LetterSchool" ⟨"LetterSchool", "choices", "(IIIII)I"⟩ ⟨"LetterSchool", "choices", "(IIIII)I"⟩) ∈ gW := List.mem_filter.mpr ⟨List.mem_of_getElem? (i := 983) (by decide +kernel), by decide +kernel⟩
theorem gm_984 : (Cond.code ⟨"LetterSchool", "choices", "(IIIII)I"⟩ prog_1_method_43_code 10 (Option.some FieldType.int)) ∈ gW := List.mem_filter.mpr ⟨List.mem_of_getElem? (i := 984) (by decide +kernel), by decide +kernel⟩
theorem gm_985 : (Cond.classLink "LetterSchoolLaw" 10 "LetterSchoolModel") ∈ gW := List.mem_filter.mpr ⟨List.mem_of_getElem? (i := 985) (by decide +kernel), by decide +kernel⟩
theorem gm_986 : (Cond.instantiable "LetterSchoolModel" 82) ∈ gW := List.mem_filter.mpr ⟨List.mem_of_getElem? (i := 986) (by decide +kernel), by decide +kernel⟩
theorem gm_987 : (Cond.methodLink "LetterSchoolLaw" 12 ⟨"LetterSchoolModel", "<init>", "()V"⟩) ∈ gW := List.mem_filter.mpr ⟨List.mem_of_getElem? (i := 987) (by decide +kernel), by decide +kernel⟩
theorem gm_988 : (Cond.instanceMethod ⟨"LetterSchoolModel", "<init>", "()V"⟩) ∈ gW := List.mem_filter.mpr ⟨List.mem_of_getElem? (i := 988) (by decide +kernel), by decide +kernel⟩
theorem gm_989 : (Cond.code ⟨"LetterSchoolModel", "<init>", "()V"⟩ prog_14_method_2_code 2 (Option.none : Option FieldType)) ∈ gW := List.mem_filter.mpr ⟨List.mem_of_getElem? (i := 989) (by decide +kernel), by decide +kernel⟩
theorem gm_990 : (Cond.methodLink "LetterSchoolModel" 1 ⟨"java/lang/Object", "<init>", "()V"⟩) ∈ gW := List.mem_filter.mpr ⟨List.mem_of_getElem? (i := 990) (by decide +kernel), by decide +kernel⟩
theorem gm_991 : (Cond.constant "LetterSchoolModel" 73 48000) ∈ gW := List.mem_filter.mpr ⟨List.mem_of_getElem? (i := 991) (by decide +kernel), by decide +kernel⟩
theorem gm_992 : (Cond.fieldLink "LetterSchoolModel" 7 "LetterSchoolModel" "tape" "[I") ∈ gW := List.mem_filter.mpr ⟨List.mem_of_getElem? (i := 992) (by decide +kernel), by decide +kernel⟩
theorem gm_993 : (Cond.fieldLink "LetterSchoolModel" 225 "LetterSchoolModel" "taped" "I") ∈ gW := List.mem_filter.mpr ⟨List.mem_of_getElem? (i := 993) (by decide +kernel), by decide +kernel⟩
theorem gm_994 : (Cond.fieldLink "LetterSchoolModel" 228 "LetterSchoolModel" "at" "I") ∈ gW := List.mem_filter.mpr ⟨List.mem_of_getElem? (i := 994) (by decide +kernel), by decide +kernel⟩
theorem gm_995 : (Cond.fieldLink "LetterSchoolModel" 231 "LetterSchoolModel" "wrong" "Z") ∈ gW := List.mem_filter.mpr ⟨List.mem_of_getElem? (i := 995) (by decide +kernel), by decide +kernel⟩
theorem gm_996 : (Cond.fieldLink "LetterSchoolModel" 13 "LetterSchoolModel" "readNames" "[I") ∈ gW := List.mem_filter.mpr ⟨List.mem_of_getElem? (i := 996) (by decide +kernel), by decide +kernel⟩
theorem gm_997 : (Cond.fieldLink "LetterSchoolModel" 16 "LetterSchoolModel" "readMarks" "[I") ∈ gW := List.mem_filter.mpr ⟨List.mem_of_getElem? (i := 997) (by decide +kernel), by decide +kernel⟩
theorem gm_998 : (Cond.fieldLink "LetterSchoolModel" 19 "LetterSchoolModel" "readFrom" "[I") ∈ gW := List.mem_filter.mpr ⟨List.mem_of_getElem? (i := 998) (by decide +kernel), by decide +kernel⟩
theorem gm_999 : (Cond.fieldLink "LetterSchoolModel" 22 "LetterSchoolModel" "readTo" "[I") ∈ gW := List.mem_filter.mpr ⟨List.mem_of_getElem? (i := 999) (by decide +kernel), by decide +kernel⟩
theorem gm_1000 : (Cond.fieldLink "LetterSchoolModel" 25 "LetterSchoolModel" "codes" "[I") ∈ gW := List.mem_filter.mpr ⟨List.mem_of_getElem? (i := 1000) (by decide +kernel), by decide +kernel⟩
theorem gm_1001 : (Cond.fieldLink "LetterSchoolModel" 251 "LetterSchoolModel" "codeMany" "I") ∈ gW := List.mem_filter.mpr ⟨List.mem_of_getElem? (i := 1001) (by decide +kernel), by decide +kernel⟩
theorem gm_1002 : (Cond.fieldLink "LetterSchoolModel" 282 "LetterSchoolModel" "readLessons" "I") ∈ gW := List.mem_filter.mpr ⟨List.mem_of_getElem? (i := 1002) (by decide +kernel), by decide +kernel⟩
theorem gm_1003 : (Cond.fieldLink "LetterSchoolModel" 264 "LetterSchoolModel" "readUsed" "I") ∈ gW := List.mem_filter.mpr ⟨List.mem_of_getElem? (i := 1003) (by decide +kernel), by decide +kernel⟩
theorem gm_1004 : (Cond.fieldLink "LetterSchoolModel" 291 "LetterSchoolModel" "readMany" "I") ∈ gW := List.mem_filter.mpr ⟨List.mem_of_getElem? (i := 1004) (by decide +kernel), by decide +kernel⟩
theorem gm_1005 : (Cond.fieldLink "LetterSchoolModel" 28 "LetterSchoolModel" "waiting" "[I") ∈ gW := List.mem_filter.mpr ⟨List.mem_of_getElem? (i := 1005) (by decide +kernel), by decide +kernel⟩
theorem gm_1006 : (Cond.fieldLink "LetterSchoolModel" 254 "LetterSchoolModel" "waits" "I") ∈ gW := List.mem_filter.mpr ⟨List.mem_of_getElem? (i := 1006) (by decide +kernel), by decide +kernel⟩
theorem gm_1007 : (Cond.fieldLink "LetterSchoolModel" 31 "LetterSchoolModel" "editionMany" "[I") ∈ gW := List.mem_filter.mpr ⟨List.mem_of_getElem? (i := 1007) (by decide +kernel), by decide +kernel⟩
theorem gm_1008 : (Cond.fieldLink "LetterSchoolModel" 34 "LetterSchoolModel" "editionFrom" "[I") ∈ gW := List.mem_filter.mpr ⟨List.mem_of_getElem? (i := 1008) (by decide +kernel), by decide +kernel⟩
theorem gm_1009 : (Cond.fieldLink "LetterSchoolModel" 37 "LetterSchoolModel" "editionLessons" "[I") ∈ gW := List.mem_filter.mpr ⟨List.mem_of_getElem? (i := 1009) (by decide +kernel), by decide +kernel⟩
theorem gm_1010 : (Cond.fieldLink "LetterSchoolModel" 40 "LetterSchoolModel" "names" "[I") ∈ gW := List.mem_filter.mpr ⟨List.mem_of_getElem? (i := 1010) (by decide +kernel), by decide +kernel⟩
theorem gm_1011 : (Cond.fieldLink "LetterSchoolModel" 43 "LetterSchoolModel" "passes" "[I") ∈ gW := List.mem_filter.mpr ⟨List.mem_of_getElem? (i := 1011) (by decide +kernel), by decide +kernel⟩
theorem gm_1012 : (Cond.fieldLink "LetterSchoolModel" 46 "LetterSchoolModel" "rowFrom" "[I") ∈ gW := List.mem_filter.mpr ⟨List.mem_of_getElem? (i := 1012) (by decide +kernel), by decide +kernel⟩
theorem gm_1013 : (Cond.fieldLink "LetterSchoolModel" 49 "LetterSchoolModel" "rowTo" "[I") ∈ gW := List.mem_filter.mpr ⟨List.mem_of_getElem? (i := 1013) (by decide +kernel), by decide +kernel⟩
theorem gm_1014 : (Cond.fieldLink "LetterSchoolModel" 52 "LetterSchoolModel" "rows" "[I") ∈ gW := List.mem_filter.mpr ⟨List.mem_of_getElem? (i := 1014) (by decide +kernel), by decide +kernel⟩
theorem gm_1015 : (Cond.fieldLink "LetterSchoolModel" 326 "LetterSchoolModel" "pupils" "I") ∈ gW := List.mem_filter.mpr ⟨List.mem_of_getElem? (i := 1015) (by decide +kernel), by decide +kernel⟩
theorem gm_1016 : (Cond.fieldLink "LetterSchoolModel" 55 "LetterSchoolModel" "places" "[I") ∈ gW := List.mem_filter.mpr ⟨List.mem_of_getElem? (i := 1016) (by decide +kernel), by decide +kernel⟩
theorem gm_1017 : (Cond.fieldLink "LetterSchoolModel" 58 "LetterSchoolModel" "editions" "[I") ∈ gW := List.mem_filter.mpr ⟨List.mem_of_getElem? (i := 1017) (by decide +kernel), by decide +kernel⟩
theorem gm_1018 : (Cond.fieldLink "LetterSchoolModel" 61 "LetterSchoolModel" "begins" "[I") ∈ gW := List.mem_filter.mpr ⟨List.mem_of_getElem? (i := 1018) (by decide +kernel), by decide +kernel⟩
theorem gm_1019 : (Cond.fieldLink "LetterSchoolModel" 64 "LetterSchoolModel" "habits" "[I") ∈ gW := List.mem_filter.mpr ⟨List.mem_of_getElem? (i := 1019) (by decide +kernel), by decide +kernel⟩
theorem gm_1020 : (Cond.fieldLink "LetterSchoolModel" 67 "LetterSchoolModel" "left" "[I") ∈ gW := List.mem_filter.mpr ⟨List.mem_of_getElem? (i := 1020) (by decide +kernel), by decide +kernel⟩
theorem gm_1021 : (Cond.fieldLink "LetterSchoolModel" 70 "LetterSchoolModel" "paidAll" "[I") ∈ gW := List.mem_filter.mpr ⟨List.mem_of_getElem? (i := 1021) (by decide +kernel), by decide +kernel⟩
theorem gm_1022 : (Cond.fieldLink "LetterSchoolModel" 74 "LetterSchoolModel" "paidOn" "[I") ∈ gW := List.mem_filter.mpr ⟨List.mem_of_getElem? (i := 1022) (by decide +kernel), by decide +kernel⟩
theorem gm_1023 : (Cond.fieldLink "LetterSchoolModel" 77 "LetterSchoolModel" "bests" "[I") ∈ gW := List.mem_filter.mpr ⟨List.mem_of_getElem? (i := 1023) (by decide +kernel), by decide +kernel⟩
theorem gm_1024 : (Cond.fieldLink "LetterSchoolModel" 80 "LetterSchoolModel" "stack" "[Z") ∈ gW := List.mem_filter.mpr ⟨List.mem_of_getElem? (i := 1024) (by decide +kernel), by decide +kernel⟩
theorem gm_1025 : (Cond.fieldLink "LetterSchoolModel" 84 "LetterSchoolModel" "far" "[I") ∈ gW := List.mem_filter.mpr ⟨List.mem_of_getElem? (i := 1025) (by decide +kernel), by decide +kernel⟩
theorem gm_1026 : (Cond.fieldLink "LetterSchoolModel" 87 "LetterSchoolModel" "wave" "[I") ∈ gW := List.mem_filter.mpr ⟨List.mem_of_getElem? (i := 1026) (by decide +kernel), by decide +kernel⟩
theorem gm_1027 : (Cond.fieldLink "LetterSchoolModel" 90 "LetterSchoolModel" "postDays" "[I") ∈ gW := List.mem_filter.mpr ⟨List.mem_of_getElem? (i := 1027) (by decide +kernel), by decide +kernel⟩
theorem gm_1028 : (Cond.fieldLink "LetterSchoolModel" 93 "LetterSchoolModel" "postEach" "[I") ∈ gW := List.mem_filter.mpr ⟨List.mem_of_getElem? (i := 1028) (by decide +kernel), by decide +kernel⟩
theorem gm_1029 : (Cond.fieldLink "LetterSchoolModel" 96 "LetterSchoolModel" "postMany" "[I") ∈ gW := List.mem_filter.mpr ⟨List.mem_of_getElem? (i := 1029) (by decide +kernel), by decide +kernel⟩
theorem gm_1030 : (Cond.fieldLink "LetterSchoolModel" 334 "LetterSchoolModel" "things" "I") ∈ gW := List.mem_filter.mpr ⟨List.mem_of_getElem? (i := 1030) (by decide +kernel), by decide +kernel⟩
theorem gm_1031 : (Cond.fieldLink "LetterSchoolModel" 99 "LetterSchoolModel" "kinds" "[I") ∈ gW := List.mem_filter.mpr ⟨List.mem_of_getElem? (i := 1031) (by decide +kernel), by decide +kernel⟩
theorem gm_1032 : (Cond.fieldLink "LetterSchoolModel" 102 "LetterSchoolModel" "whose" "[I") ∈ gW := List.mem_filter.mpr ⟨List.mem_of_getElem? (i := 1032) (by decide +kernel), by decide +kernel⟩
theorem gm_1033 : (Cond.fieldLink "LetterSchoolModel" 105 "LetterSchoolModel" "named" "[I") ∈ gW := List.mem_filter.mpr ⟨List.mem_of_getElem? (i := 1033) (by decide +kernel), by decide +kernel⟩
theorem gm_1034 : (Cond.fieldLink "LetterSchoolModel" 108 "LetterSchoolModel" "lessons" "[I") ∈ gW := List.mem_filter.mpr ⟨List.mem_of_getElem? (i := 1034) (by decide +kernel), by decide +kernel⟩
theorem gm_1035 : (Cond.fieldLink "LetterSchoolModel" 111 "LetterSchoolModel" "firstSent" "[I") ∈ gW := List.mem_filter.mpr ⟨List.mem_of_getElem? (i := 1035) (by decide +kernel), by decide +kernel⟩
theorem gm_1036 : (Cond.fieldLink "LetterSchoolModel" 114 "LetterSchoolModel" "sent" "[I") ∈ gW := List.mem_filter.mpr ⟨List.mem_of_getElem? (i := 1036) (by decide +kernel), by decide +kernel⟩
theorem gm_1037 : (Cond.fieldLink "LetterSchoolModel" 117 "LetterSchoolModel" "comes" "[I") ∈ gW := List.mem_filter.mpr ⟨List.mem_of_getElem? (i := 1037) (by decide +kernel), by decide +kernel⟩
theorem gm_1038 : (Cond.fieldLink "LetterSchoolModel" 120 "LetterSchoolModel" "tutorOf" "[I") ∈ gW := List.mem_filter.mpr ⟨List.mem_of_getElem? (i := 1038) (by decide +kernel), by decide +kernel⟩
theorem gm_1039 : (Cond.fieldLink "LetterSchoolModel" 123 "LetterSchoolModel" "givenOn" "[I") ∈ gW := List.mem_filter.mpr ⟨List.mem_of_getElem? (i := 1039) (by decide +kernel), by decide +kernel⟩
theorem gm_1040 : (Cond.fieldLink "LetterSchoolModel" 126 "LetterSchoolModel" "agains" "[I") ∈ gW := List.mem_filter.mpr ⟨List.mem_of_getElem? (i := 1040) (by decide +kernel), by decide +kernel⟩
theorem gm_1041 : (Cond.fieldLink "LetterSchoolModel" 129 "LetterSchoolModel" "marks" "[I") ∈ gW := List.mem_filter.mpr ⟨List.mem_of_getElem? (i := 1041) (by decide +kernel), by decide +kernel⟩
theorem gm_1042 : (Cond.fieldLink "LetterSchoolModel" 132 "LetterSchoolModel" "markedOn" "[I") ∈ gW := List.mem_filter.mpr ⟨List.mem_of_getElem? (i := 1042) (by decide +kernel), by decide +kernel⟩
theorem gm_1043 : (Cond.fieldLink "LetterSchoolModel" 135 "LetterSchoolModel" "secondTutor" "[I") ∈ gW := List.mem_filter.mpr ⟨List.mem_of_getElem? (i := 1043) (by decide +kernel), by decide +kernel⟩
theorem gm_1044 : (Cond.fieldLink "LetterSchoolModel" 138 "LetterSchoolModel" "secondMarks" "[I") ∈ gW := List.mem_filter.mpr ⟨List.mem_of_getElem? (i := 1044) (by decide +kernel), by decide +kernel⟩
theorem gm_1045 : (Cond.fieldLink "LetterSchoolModel" 141 "LetterSchoolModel" "rowsOf" "[I") ∈ gW := List.mem_filter.mpr ⟨List.mem_of_getElem? (i := 1045) (by decide +kernel), by decide +kernel⟩
theorem gm_1046 : (Cond.fieldLink "LetterSchoolModel" 389 "LetterSchoolModel" "tutors" "I") ∈ gW := List.mem_filter.mpr ⟨List.mem_of_getElem? (i := 1046) (by decide +kernel), by decide +kernel⟩
theorem gm_1047 : (Cond.fieldLink "LetterSchoolModel" 144 "LetterSchoolModel" "teaches" "[I") ∈ gW := List.mem_filter.mpr ⟨List.mem_of_getElem? (i := 1047) (by decide +kernel), by decide +kernel⟩
theorem gm_1048 : (Cond.fieldLink "LetterSchoolModel" 147 "LetterSchoolModel" "paces" "[I") ∈ gW := List.mem_filter.mpr ⟨List.mem_of_getElem? (i := 1048) (by decide +kernel), by decide +kernel⟩
theorem gm_1049 : (Cond.fieldLink "LetterSchoolModel" 150 "LetterSchoolModel" "kin" "[I") ∈ gW := List.mem_filter.mpr ⟨List.mem_of_getElem? (i := 1049) (by decide +kernel), by decide +kernel⟩
theorem gm_1050 : (Cond.fieldLink "LetterSchoolModel" 153 "LetterSchoolModel" "loads" "[I") ∈ gW := List.mem_filter.mpr ⟨List.mem_of_getElem? (i := 1050) (by decide +kernel), by decide +kernel⟩
theorem gm_1051 : (Cond.fieldLink "LetterSchoolModel" 405 "LetterSchoolModel" "shared" "I") ∈ gW := List.mem_filter.mpr ⟨List.mem_of_getElem? (i := 1051) (by decide +kernel), by decide +kernel⟩
theorem gm_1052 : (Cond.fieldLink "LetterSchoolModel" 156 "LetterSchoolModel" "sharedThings" "[I") ∈ gW := List.mem_filter.mpr ⟨List.mem_of_getElem? (i := 1052) (by decide +kernel), by decide +kernel⟩
theorem gm_1053 : (Cond.fieldLink "LetterSchoolModel" 159 "LetterSchoolModel" "tried" "[I") ∈ gW := List.mem_filter.mpr ⟨List.mem_of_getElem? (i := 1053) (by decide +kernel), by decide +kernel⟩
theorem gm_1054 : (Cond.fieldLink "LetterSchoolModel" 162 "LetterSchoolModel" "bestTutors" "[I") ∈ gW := List.mem_filter.mpr ⟨List.mem_of_getElem? (i := 1054) (by decide +kernel), by decide +kernel⟩
theorem gm_1055 : (Cond.fieldLink "LetterSchoolModel" 165 "LetterSchoolModel" "more" "[I") ∈ gW := List.mem_filter.mpr ⟨List.mem_of_getElem? (i := 1055) (by decide +kernel), by decide +kernel⟩
theorem gm_1056 : (Cond.fieldLink "LetterSchoolModel" 408 "LetterSchoolModel" "bestMany" "I") ∈ gW := List.mem_filter.mpr ⟨List.mem_of_getElem? (i := 1056) (by decide +kernel), by decide +kernel⟩
theorem gm_1057 : (Cond.fieldLink "LetterSchoolModel" 414 "LetterSchoolModel" "bestSum" "I") ∈ gW := List.mem_filter.mpr ⟨List.mem_of_getElem? (i := 1057) (by decide +kernel), by decide +kernel⟩
theorem gm_1058 : (Cond.fieldLink "LetterSchoolModel" 399 "LetterSchoolModel" "triedMany" "I") ∈ gW := List.mem_filter.mpr ⟨List.mem_of_getElem? (i := 1058) (by decide +kernel), by decide +kernel⟩
theorem gm_1059 : (Cond.fieldLink "LetterSchoolModel" 402 "LetterSchoolModel" "triedSum" "I") ∈ gW := List.mem_filter.mpr ⟨List.mem_of_getElem? (i := 1059) (by decide +kernel), by decide +kernel⟩
theorem gm_1060 : (Cond.fieldLink "LetterSchoolModel" 168 "LetterSchoolModel" "keys" "[I") ∈ gW := List.mem_filter.mpr ⟨List.mem_of_getElem? (i := 1060) (by decide +kernel), by decide +kernel⟩
theorem gm_1061 : (Cond.fieldLink "LetterSchoolModel" 171 "LetterSchoolModel" "limit" "I") ∈ gW := List.mem_filter.mpr ⟨List.mem_of_getElem? (i := 1061) (by decide +kernel), by decide +kernel⟩
theorem gm_1062 : (Cond.fieldLink "LetterSchoolModel" 175 "LetterSchoolModel" "partMany" "[I") ∈ gW := List.mem_filter.mpr ⟨List.mem_of_getElem? (i := 1062) (by decide +kernel), by decide +kernel⟩
theorem gm_1063 : (Cond.fieldLink "LetterSchoolModel" 178 "LetterSchoolModel" "partDays" "[I") ∈ gW := List.mem_filter.mpr ⟨List.mem_of_getElem? (i := 1063) (by decide +kernel), by decide +kernel⟩
theorem gm_1064 : (Cond.fieldLink "LetterSchoolModel" 181 "LetterSchoolModel" "partPence" "[I") ∈ gW := List.mem_filter.mpr ⟨List.mem_of_getElem? (i := 1064) (by decide +kernel), by decide +kernel⟩
theorem gm_1065 : (Cond.fieldLink "LetterSchoolModel" 184 "LetterSchoolModel" "backMany" "[I") ∈ gW := List.mem_filter.mpr ⟨List.mem_of_getElem? (i := 1065) (by decide +kernel), by decide +kernel⟩
theorem gm_1066 : (Cond.fieldLink "LetterSchoolModel" 187 "LetterSchoolModel" "backDays" "[I") ∈ gW := List.mem_filter.mpr ⟨List.mem_of_getElem? (i := 1066) (by decide +kernel), by decide +kernel⟩
theorem gm_1067 : (Cond.fieldLink "LetterSchoolModel" 190 "LetterSchoolModel" "backParts" "[I") ∈ gW := List.mem_filter.mpr ⟨List.mem_of_getElem? (i := 1067) (by decide +kernel), by decide +kernel⟩
theorem gm_1068 : (Cond.fieldLink "LetterSchoolModel" 193 "LetterSchoolModel" "feeKinds" "[I") ∈ gW := List.mem_filter.mpr ⟨List.mem_of_getElem? (i := 1068) (by decide +kernel), by decide +kernel⟩
theorem gm_1069 : (Cond.fieldLink "LetterSchoolModel" 196 "LetterSchoolModel" "feeDays" "[I") ∈ gW := List.mem_filter.mpr ⟨List.mem_of_getElem? (i := 1069) (by decide +kernel), by decide +kernel⟩
theorem gm_1070 : (Cond.fieldLink "LetterSchoolModel" 199 "LetterSchoolModel" "feeNumbers" "[I") ∈ gW := List.mem_filter.mpr ⟨List.mem_of_getElem? (i := 1070) (by decide +kernel), by decide +kernel⟩
theorem gm_1071 : (Cond.fieldLink "LetterSchoolModel" 202 "LetterSchoolModel" "lanes" "[I") ∈ gW := List.mem_filter.mpr ⟨List.mem_of_getElem? (i := 1071) (by decide +kernel), by decide +kernel⟩
theorem gm_1072 : (Cond.fieldLink "LetterSchoolModel" 205 "LetterSchoolModel" "sizes" "[I") ∈ gW := List.mem_filter.mpr ⟨List.mem_of_getElem? (i := 1072) (by decide +kernel), by decide +kernel⟩
theorem gm_1073 : (Cond.fieldLink "LetterSchoolModel" 208 "LetterSchoolModel" "items" "[I") ∈ gW := List.mem_filter.mpr ⟨List.mem_of_getElem? (i := 1073) (by decide +kernel), by decide +kernel⟩
theorem gm_1239 : (Cond.methodLink "LetterSchoolLaw" 19 ⟨"LetterSchoolModel", "type", "(JI)I"⟩) ∈ gW := List.mem_filter.mpr ⟨List.mem_of_getElem? (i := 1239) (by decide +kernel), by decide +kernel⟩
theorem gm_1240 : (Cond.instanceMethod ⟨"LetterSchoolModel", "type", "(JI)I"⟩) ∈ gW := List.mem_filter.mpr ⟨List.mem_of_getElem? (i := 1240) (by decide +kernel), by decide +kernel⟩
theorem gm_1241 : (Cond.selects "LetterSchoolModel" ⟨"LetterSchoolModel", "type", "(JI)I"⟩ ⟨"LetterSchoolModel", "type", "(JI)I"⟩) ∈ gW := List.mem_filter.mpr ⟨List.mem_of_getElem? (i := 1241) (by decide +kernel), by decide +kernel⟩
theorem gm_1242 : (Cond.code ⟨"LetterSchoolModel", "type", "(JI)I"⟩ prog_14_method_4_code 5 (Option.some FieldType.int)) ∈ gW := List.mem_filter.mpr ⟨List.mem_of_getElem? (i := 1242) (by decide +kernel), by decide +kernel⟩
theorem gm_1243 : (Cond.constantLong "LetterSchoolModel" 217 8) ∈ gW := List.mem_filter.mpr ⟨List.mem_of_getElem? (i := 1243) (by decide +kernel), by decide +kernel⟩
theorem gm_1244 : (Cond.methodLink "LetterSchoolModel" 213 ⟨"LetterSchoolModel", "in", "(JJJ)Z"⟩) ∈ gW := List.mem_filter.mpr ⟨List.mem_of_getElem? (i := 1244) (by decide +kernel), by decide +kernel⟩
theorem gm_1245 : (Cond.static ⟨"LetterSchoolModel", "in", "(JJJ)Z"⟩) ∈ gW := List.mem_filter.mpr ⟨List.mem_of_getElem? (i := 1245) (by decide +kernel), by decide +kernel⟩
theorem gm_1246 : (Cond.code ⟨"LetterSchoolModel", "in", "(JJJ)Z"⟩ prog_14_method_1_code 6 (Option.some FieldType.boolean)) ∈ gW := List.mem_filter.mpr ⟨List.mem_of_getElem? (i := 1246) (by decide +kernel), by decide +kernel⟩
theorem gm_1247 : (Cond.constantLong "LetterSchoolModel" 219 255) ∈ gW := List.mem_filter.mpr ⟨List.mem_of_getElem? (i := 1247) (by decide +kernel), by decide +kernel⟩
theorem gm_1248 : (Cond.constantLong "LetterSchoolModel" 221 32) ∈ gW := List.mem_filter.mpr ⟨List.mem_of_getElem? (i := 1248) (by decide +kernel), by decide +kernel⟩
theorem gm_1249 : (Cond.constantLong "LetterSchoolModel" 223 126) ∈ gW := List.mem_filter.mpr ⟨List.mem_of_getElem? (i := 1249) (by decide +kernel), by decide +kernel⟩
theorem gm_1250 : (Cond.methodLink "LetterSchoolLaw" 24 ⟨"LetterSchoolModel", "edition", "(II)I"⟩) ∈ gW := List.mem_filter.mpr ⟨List.mem_of_getElem? (i := 1250) (by decide +kernel), by decide +kernel⟩
theorem gm_1251 : (Cond.instanceMethod ⟨"LetterSchoolModel", "edition", "(II)I"⟩) ∈ gW := List.mem_filter.mpr ⟨List.mem_of_getElem? (i := 1251) (by decide +kernel), by decide +kernel⟩
theorem gm_1252 : (Cond.selects "LetterSchoolModel" ⟨"LetterSchoolModel", "edition", "(II)I"⟩ ⟨"LetterSchoolModel", "edition", "(II)I"⟩) ∈ gW := List.mem_filter.mpr ⟨List.mem_of_getElem? (i := 1252) (by decide +kernel), by decide +kernel⟩
theorem gm_1253 : (Cond.code ⟨"LetterSchoolModel", "edition", "(II)I"⟩ prog_14_method_18_code 6 (Option.some FieldType.int)) ∈ gW := List.mem_filter.mpr ⟨List.mem_of_getElem? (i := 1253) (by decide +kernel), by decide +kernel⟩
theorem gm_1254 : (Cond.methodLink "LetterSchoolModel" 299 ⟨"LetterSchoolModel", "isCourse", "(I)Z"⟩) ∈ gW := List.mem_filter.mpr ⟨List.mem_of_getElem? (i := 1254) (by decide +kernel), by decide +kernel⟩
theorem gm_1255 : (Cond.static ⟨"LetterSchoolModel", "isCourse", "(I)Z"⟩) ∈ gW := List.mem_filter.mpr ⟨List.mem_of_getElem? (i := 1255) (by decide +kernel), by decide +kernel⟩
theorem gm_1256 : (Cond.code ⟨"LetterSchoolModel", "isCourse", "(I)Z"⟩ prog_14_method_17_code 1 (Option.some FieldType.boolean)) ∈ gW := List.mem_filter.mpr ⟨List.mem_of_getElem? (i := 1256) (by decide +kernel), by decide +kernel⟩
theorem gm_1257 : (Cond.constantLong "LetterSchoolModel" 297 3) ∈ gW := List.mem_filter.mpr ⟨List.mem_of_getElem? (i := 1257) (by decide +kernel), by decide +kernel⟩
theorem gm_1258 : (Cond.methodLink "LetterSchoolModel" 302 ⟨"LetterSchoolModel", "isDay", "(I)Z"⟩) ∈ gW := List.mem_filter.mpr ⟨List.mem_of_getElem? (i := 1258) (by decide +kernel), by decide +kernel⟩
theorem gm_1259 : (Cond.static ⟨"LetterSchoolModel", "isDay", "(I)Z"⟩) ∈ gW := List.mem_filter.mpr ⟨List.mem_of_getElem? (i := 1259) (by decide +kernel), by decide +kernel⟩
theorem gm_1260 : (Cond.code ⟨"LetterSchoolModel", "isDay", "(I)Z"⟩ prog_14_method_3_code 1 (Option.some FieldType.boolean)) ∈ gW := List.mem_filter.mpr ⟨List.mem_of_getElem? (i := 1260) (by decide +kernel), by decide +kernel⟩
theorem gm_1261 : (Cond.constantLong "LetterSchoolModel" 211 3999) ∈ gW := List.mem_filter.mpr ⟨List.mem_of_getElem? (i := 1261) (by decide +kernel), by decide +kernel⟩
theorem gm_1262 : (Cond.methodLink "LetterSchoolModel" 305 ⟨"LetterSchoolModel", "readEdition", "()V"⟩) ∈ gW := List.mem_filter.mpr ⟨List.mem_of_getElem? (i := 1262) (by decide +kernel), by decide +kernel⟩
theorem gm_1264 : (Cond.instanceMethod ⟨"LetterSchoolModel", "readEdition", "()V"⟩) ∈ gW := List.mem_filter.mpr ⟨List.mem_of_getElem? (i := 1264) (by decide +kernel), by decide +kernel⟩
theorem gm_1265 : (Cond.code ⟨"LetterSchoolModel", "readEdition", "()V"⟩ prog_14_method_16_code 2 (Option.none : Option FieldType)) ∈ gW := List.mem_filter.mpr ⟨List.mem_of_getElem? (i := 1265) (by decide +kernel), by decide +kernel⟩
theorem gm_1266 : (Cond.methodLink "LetterSchoolModel" 294 ⟨"LetterSchoolModel", "readLesson", "()V"⟩) ∈ gW := List.mem_filter.mpr ⟨List.mem_of_getElem? (i := 1266) (by decide +kernel), by decide +kernel⟩
theorem gm_1268 : (Cond.instanceMethod ⟨"LetterSchoolModel", "readLesson", "()V"⟩) ∈ gW := List.mem_filter.mpr ⟨List.mem_of_getElem? (i := 1268) (by decide +kernel), by decide +kernel⟩
theorem gm_1269 : (Cond.code ⟨"LetterSchoolModel", "readLesson", "()V"⟩ prog_14_method_15_code 3 (Option.none : Option FieldType)) ∈ gW := List.mem_filter.mpr ⟨List.mem_of_getElem? (i := 1269) (by decide +kernel), by decide +kernel⟩
theorem gm_1270 : (Cond.methodLink "LetterSchoolModel" 235 ⟨"LetterSchoolModel", "next", "()I"⟩) ∈ gW := List.mem_filter.mpr ⟨List.mem_of_getElem? (i := 1270) (by decide +kernel), by decide +kernel⟩
theorem gm_1272 : (Cond.instanceMethod ⟨"LetterSchoolModel", "next", "()I"⟩) ∈ gW := List.mem_filter.mpr ⟨List.mem_of_getElem? (i := 1272) (by decide +kernel), by decide +kernel⟩
theorem gm_1273 : (Cond.code ⟨"LetterSchoolModel", "next", "()I"⟩ prog_14_method_5_code 1 (Option.some FieldType.int)) ∈ gW := List.mem_filter.mpr ⟨List.mem_of_getElem? (i := 1273) (by decide +kernel), by decide +kernel⟩
theorem gm_1274 : (Cond.constantLong "LetterSchoolModel" 280 7) ∈ gW := List.mem_filter.mpr ⟨List.mem_of_getElem? (i := 1274) (by decide +kernel), by decide +kernel⟩
theorem gm_1275 : (Cond.methodLink "LetterSchoolModel" 243 ⟨"LetterSchoolModel", "fail", "(I)V"⟩) ∈ gW := List.mem_filter.mpr ⟨List.mem_of_getElem? (i := 1275) (by decide +kernel), by decide +kernel⟩
theorem gm_1277 : (Cond.instanceMethod ⟨"LetterSchoolModel", "fail", "(I)V"⟩) ∈ gW := List.mem_filter.mpr ⟨List.mem_of_getElem? (i := 1277) (by decide +kernel), by decide +kernel⟩
theorem gm_1278 : (Cond.code ⟨"LetterSchoolModel", "fail", "(I)V"⟩ prog_14_method_6_code 2 (Option.none : Option FieldType)) ∈ gW := List.mem_filter.mpr ⟨List.mem_of_getElem? (i := 1278) (by decide +kernel), by decide +kernel⟩
theorem gm_1279 : (Cond.methodLink "LetterSchoolModel" 285 ⟨"LetterSchoolModel", "need", "(I)V"⟩) ∈ gW := List.mem_filter.mpr ⟨List.mem_of_getElem? (i := 1279) (by decide +kernel), by decide +kernel⟩
theorem gm_1281 : (Cond.instanceMethod ⟨"LetterSchoolModel", "need", "(I)V"⟩) ∈ gW := List.mem_filter.mpr ⟨List.mem_of_getElem? (i := 1281) (by decide +kernel), by decide +kernel⟩
theorem gm_1282 : (Cond.code ⟨"LetterSchoolModel", "need", "(I)V"⟩ prog_14_method_8_code 2 (Option.none : Option FieldType)) ∈ gW := List.mem_filter.mpr ⟨List.mem_of_getElem? (i := 1282) (by decide +kernel), by decide +kernel⟩
theorem gm_1283 : (Cond.methodLink "LetterSchoolModel" 239 ⟨"LetterSchoolModel", "takes", "(I)Z"⟩) ∈ gW := List.mem_filter.mpr ⟨List.mem_of_getElem? (i := 1283) (by decide +kernel), by decide +kernel⟩
theorem gm_1285 : (Cond.instanceMethod ⟨"LetterSchoolModel", "takes", "(I)Z"⟩) ∈ gW := List.mem_filter.mpr ⟨List.mem_of_getElem? (i := 1285) (by decide +kernel), by decide +kernel⟩
theorem gm_1286 : (Cond.code ⟨"LetterSchoolModel", "takes", "(I)Z"⟩ prog_14_method_7_code 3 (Option.some FieldType.boolean)) ∈ gW := List.mem_filter.mpr ⟨List.mem_of_getElem? (i := 1286) (by decide +kernel), by decide +kernel⟩
theorem gm_1287 : (Cond.methodLink "LetterSchoolModel" 267 ⟨"LetterSchoolModel", "number", "(I)I"⟩) ∈ gW := List.mem_filter.mpr ⟨List.mem_of_getElem? (i := 1287) (by decide +kernel), by decide +kernel⟩
theorem gm_1289 : (Cond.instanceMethod ⟨"LetterSchoolModel", "number", "(I)I"⟩) ∈ gW := List.mem_filter.mpr ⟨List.mem_of_getElem? (i := 1289) (by decide +kernel), by decide +kernel⟩
theorem gm_1290 : (Cond.code ⟨"LetterSchoolModel", "number", "(I)I"⟩ prog_14_method_9_code 5 (Option.some FieldType.int)) ∈ gW := List.mem_filter.mpr ⟨List.mem_of_getElem? (i := 1290) (by decide +kernel), by decide +kernel⟩
theorem gm_1291 : (Cond.constantLong "LetterSchoolModel" 247 48) ∈ gW := List.mem_filter.mpr ⟨List.mem_of_getElem? (i := 1291) (by decide +kernel), by decide +kernel⟩
theorem gm_1292 : (Cond.constantLong "LetterSchoolModel" 249 57) ∈ gW := List.mem_filter.mpr ⟨List.mem_of_getElem? (i := 1292) (by decide +kernel), by decide +kernel⟩
theorem gm_1293 : (Cond.methodLink "LetterSchoolModel" 288 ⟨"LetterSchoolModel", "readLeans", "()V"⟩) ∈ gW := List.mem_filter.mpr ⟨List.mem_of_getElem? (i := 1293) (by decide +kernel), by decide +kernel⟩
theorem gm_1295 : (Cond.instanceMethod ⟨"LetterSchoolModel", "readLeans", "()V"⟩) ∈ gW := List.mem_filter.mpr ⟨List.mem_of_getElem? (i := 1295) (by decide +kernel), by decide +kernel⟩
theorem gm_1296 : (Cond.code ⟨"LetterSchoolModel", "readLeans", "()V"⟩ prog_14_method_14_code 3 (Option.none : Option FieldType)) ∈ gW := List.mem_filter.mpr ⟨List.mem_of_getElem? (i := 1296) (by decide +kernel), by decide +kernel⟩
theorem gm_1297 : (Cond.methodLink "LetterSchoolModel" 274 ⟨"LetterSchoolModel", "readClaim", "(I)I"⟩) ∈ gW := List.mem_filter.mpr ⟨List.mem_of_getElem? (i := 1297) (by decide +kernel), by decide +kernel⟩
theorem gm_1299 : (Cond.instanceMethod ⟨"LetterSchoolModel", "readClaim", "(I)I"⟩) ∈ gW := List.mem_filter.mpr ⟨List.mem_of_getElem? (i := 1299) (by decide +kernel), by decide +kernel⟩
theorem gm_1300 : (Cond.code ⟨"LetterSchoolModel", "readClaim", "(I)I"⟩ prog_14_method_13_code 5 (Option.some FieldType.int)) ∈ gW := List.mem_filter.mpr ⟨List.mem_of_getElem? (i := 1300) (by decide +kernel), by decide +kernel⟩
theorem gm_1301 : (Cond.constantLong "LetterSchoolModel" 260 97) ∈ gW := List.mem_filter.mpr ⟨List.mem_of_getElem? (i := 1301) (by decide +kernel), by decide +kernel⟩
theorem gm_1302 : (Cond.constantLong "LetterSchoolModel" 262 104) ∈ gW := List.mem_filter.mpr ⟨List.mem_of_getElem? (i := 1302) (by decide +kernel), by decide +kernel⟩
theorem gm_1303 : (Cond.methodLink "LetterSchoolModel" 257 ⟨"LetterSchoolModel", "emit", "(I)V"⟩) ∈ gW := List.mem_filter.mpr ⟨List.mem_of_getElem? (i := 1303) (by decide +kernel), by decide +kernel⟩
theorem gm_1305 : (Cond.instanceMethod ⟨"LetterSchoolModel", "emit", "(I)V"⟩) ∈ gW := List.mem_filter.mpr ⟨List.mem_of_getElem? (i := 1305) (by decide +kernel), by decide +kernel⟩
theorem gm_1306 : (Cond.code ⟨"LetterSchoolModel", "emit", "(I)V"⟩ prog_14_method_10_code 2 (Option.none : Option FieldType)) ∈ gW := List.mem_filter.mpr ⟨List.mem_of_getElem? (i := 1306) (by decide +kernel), by decide +kernel⟩
theorem gm_1307 : (Cond.methodLink "LetterSchoolModel" 271 ⟨"LetterSchoolModel", "turnIfTold", "()V"⟩) ∈ gW := List.mem_filter.mpr ⟨List.mem_of_getElem? (i := 1307) (by decide +kernel), by decide +kernel⟩
theorem gm_1309 : (Cond.instanceMethod ⟨"LetterSchoolModel", "turnIfTold", "()V"⟩) ∈ gW := List.mem_filter.mpr ⟨List.mem_of_getElem? (i := 1309) (by decide +kernel), by decide +kernel⟩
theorem gm_1310 : (Cond.code ⟨"LetterSchoolModel", "turnIfTold", "()V"⟩ prog_14_method_11_code 1 (Option.none : Option FieldType)) ∈ gW := List.mem_filter.mpr ⟨List.mem_of_getElem? (i := 1310) (by decide +kernel), by decide +kernel⟩
theorem gm_1311 : (Cond.methodLink "LetterSchoolModel" 277 ⟨"LetterSchoolModel", "comeOut", "(I)V"⟩) ∈ gW := List.mem_filter.mpr ⟨List.mem_of_getElem? (i := 1311) (by decide +kernel), by decide +kernel⟩
theorem gm_1313 : (Cond.instanceMethod ⟨"LetterSchoolModel", "comeOut", "(I)V"⟩) ∈ gW := List.mem_filter.mpr ⟨List.mem_of_getElem? (i := 1313) (by decide +kernel), by decide +kernel⟩
theorem gm_1314 : (Cond.code ⟨"LetterSchoolModel", "comeOut", "(I)V"⟩ prog_14_method_12_code 2 (Option.none : Option FieldType)) ∈ gW := List.mem_filter.mpr ⟨List.mem_of_getElem? (i := 1314) (by decide +kernel), by decide +kernel⟩
theorem gm_1315 : (Cond.methodLink "LetterSchoolLaw" 29 ⟨"LetterSchoolModel", "told", "(III)I"⟩) ∈ gW := List.mem_filter.mpr ⟨List.mem_of_getElem? (i := 1315) (by decide +kernel), by decide +kernel⟩
theorem gm_1316 : (Cond.instanceMethod ⟨"LetterSchoolModel", "told", "(III)I"⟩) ∈ gW := List.mem_filter.mpr ⟨List.mem_of_getElem? (i := 1316) (by decide +kernel), by decide +kernel⟩
theorem gm_1317 : (Cond.selects "LetterSchoolModel" ⟨"LetterSchoolModel", "told", "(III)I"⟩ ⟨"LetterSchoolModel", "told", "(III)I"⟩) ∈ gW := List.mem_filter.mpr ⟨List.mem_of_getElem? (i := 1317) (by decide +kernel), by decide +kernel⟩
theorem gm_1318 : (Cond.code ⟨"LetterSchoolModel", "told", "(III)I"⟩ prog_14_method_21_code 5 (Option.some FieldType.int)) ∈ gW := List.mem_filter.mpr ⟨List.mem_of_getElem? (i := 1318) (by decide +kernel), by decide +kernel⟩
theorem gm_1319 : (Cond.methodLink "LetterSchoolModel" 308 ⟨"LetterSchoolModel", "isEdition", "(II)Z"⟩) ∈ gW := List.mem_filter.mpr ⟨List.mem_of_getElem? (i := 1319) (by decide +kernel), by decide +kernel⟩
theorem gm_1321 : (Cond.instanceMethod ⟨"LetterSchoolModel", "isEdition", "(II)Z"⟩) ∈ gW := List.mem_filter.mpr ⟨List.mem_of_getElem? (i := 1321) (by decide +kernel), by decide +kernel⟩
theorem gm_1322 : (Cond.code ⟨"LetterSchoolModel", "isEdition", "(II)Z"⟩ prog_14_method_20_code 3 (Option.some FieldType.boolean)) ∈ gW := List.mem_filter.mpr ⟨List.mem_of_getElem? (i := 1322) (by decide +kernel), by decide +kernel⟩
theorem gm_1323 : (Cond.constantLong "LetterSchoolModel" 312 2) ∈ gW := List.mem_filter.mpr ⟨List.mem_of_getElem? (i := 1323) (by decide +kernel), by decide +kernel⟩
theorem gm_1324 : (Cond.methodLink "LetterSchoolModel" 314 ⟨"LetterSchoolModel", "ones", "(I)I"⟩) ∈ gW := List.mem_filter.mpr ⟨List.mem_of_getElem? (i := 1324) (by decide +kernel), by decide +kernel⟩
theorem gm_1325 : (Cond.static ⟨"LetterSchoolModel", "ones", "(I)I"⟩) ∈ gW := List.mem_filter.mpr ⟨List.mem_of_getElem? (i := 1325) (by decide +kernel), by decide +kernel⟩
theorem gm_1326 : (Cond.code ⟨"LetterSchoolModel", "ones", "(I)I"⟩ prog_14_method_19_code 3 (Option.some FieldType.int)) ∈ gW := List.mem_filter.mpr ⟨List.mem_of_getElem? (i := 1326) (by decide +kernel), by decide +kernel⟩
theorem gm_1327 : (Cond.methodLink "LetterSchoolLaw" 34 ⟨"LetterSchoolModel", "lesson", "(IIII)I"⟩) ∈ gW := List.mem_filter.mpr ⟨List.mem_of_getElem? (i := 1327) (by decide +kernel), by decide +kernel⟩
theorem gm_1328 : (Cond.instanceMethod ⟨"LetterSchoolModel", "lesson", "(IIII)I"⟩) ∈ gW := List.mem_filter.mpr ⟨List.mem_of_getElem? (i := 1328) (by decide +kernel), by decide +kernel⟩
theorem gm_1329 : (Cond.selects "LetterSchoolModel" ⟨"LetterSchoolModel", "lesson", "(IIII)I"⟩ ⟨"LetterSchoolModel", "lesson", "(IIII)I"⟩) ∈ gW := List.mem_filter.mpr ⟨List.mem_of_getElem? (i := 1329) (by decide +kernel), by decide +kernel⟩
theorem gm_1330 : (Cond.code ⟨"LetterSchoolModel", "lesson", "(IIII)I"⟩ prog_14_method_23_code 9 (Option.some FieldType.int)) ∈ gW := List.mem_filter.mpr ⟨List.mem_of_getElem? (i := 1330) (by decide +kernel), by decide +kernel⟩
theorem gm_1331 : (Cond.methodLink "LetterSchoolModel" 317 ⟨"LetterSchoolModel", "hasLesson", "(II)Z"⟩) ∈ gW := List.mem_filter.mpr ⟨List.mem_of_getElem? (i := 1331) (by decide +kernel), by decide +kernel⟩
theorem gm_1333 : (Cond.instanceMethod ⟨"LetterSchoolModel", "hasLesson", "(II)Z"⟩) ∈ gW := List.mem_filter.mpr ⟨List.mem_of_getElem? (i := 1333) (by decide +kernel), by decide +kernel⟩
theorem gm_1334 : (Cond.code ⟨"LetterSchoolModel", "hasLesson", "(II)Z"⟩ prog_14_method_22_code 3 (Option.some FieldType.boolean)) ∈ gW := List.mem_filter.mpr ⟨List.mem_of_getElem? (i := 1334) (by decide +kernel), by decide +kernel⟩
theorem gm_1335 : (Cond.methodLink "LetterSchoolLaw" 38 ⟨"LetterSchoolModel", "pupil", "(III)I"⟩) ∈ gW := List.mem_filter.mpr ⟨List.mem_of_getElem? (i := 1335) (by decide +kernel), by decide +kernel⟩
theorem gm_1336 : (Cond.instanceMethod ⟨"LetterSchoolModel", "pupil", "(III)I"⟩) ∈ gW := List.mem_filter.mpr ⟨List.mem_of_getElem? (i := 1336) (by decide +kernel), by decide +kernel⟩
theorem gm_1337 : (Cond.selects "LetterSchoolModel" ⟨"LetterSchoolModel", "pupil", "(III)I"⟩ ⟨"LetterSchoolModel", "pupil", "(III)I"⟩) ∈ gW := List.mem_filter.mpr ⟨List.mem_of_getElem? (i := 1337) (by decide +kernel), by decide +kernel⟩
theorem gm_1338 : (Cond.code ⟨"LetterSchoolModel", "pupil", "(III)I"⟩ prog_14_method_25_code 5 (Option.some FieldType.int)) ∈ gW := List.mem_filter.mpr ⟨List.mem_of_getElem? (i := 1338) (by decide +kernel), by decide +kernel⟩
theorem gm_1339 : (Cond.constantLong "LetterSchoolModel" 320 5) ∈ gW := List.mem_filter.mpr ⟨List.mem_of_getElem? (i := 1339) (by decide +kernel), by decide +kernel⟩
theorem gm_1340 : (Cond.methodLink "LetterSchoolModel" 322 ⟨"LetterSchoolModel", "forceOn", "(II)I"⟩) ∈ gW := List.mem_filter.mpr ⟨List.mem_of_getElem? (i := 1340) (by decide +kernel), by decide +kernel⟩
theorem gm_1342 : (Cond.instanceMethod ⟨"LetterSchoolModel", "forceOn", "(II)I"⟩) ∈ gW := List.mem_filter.mpr ⟨List.mem_of_getElem? (i := 1342) (by decide +kernel), by decide +kernel⟩
theorem gm_1343 : (Cond.code ⟨"LetterSchoolModel", "forceOn", "(II)I"⟩ prog_14_method_24_code 5 (Option.some FieldType.int)) ∈ gW := List.mem_filter.mpr ⟨List.mem_of_getElem? (i := 1343) (by decide +kernel), by decide +kernel⟩
theorem gm_1344 : (Cond.methodLink "LetterSchoolLaw" 42 ⟨"LetterSchoolModel", "who", "(II)I"⟩) ∈ gW := List.mem_filter.mpr ⟨List.mem_of_getElem? (i := 1344) (by decide +kernel), by decide +kernel⟩
theorem gm_1345 : (Cond.instanceMethod ⟨"LetterSchoolModel", "who", "(II)I"⟩) ∈ gW := List.mem_filter.mpr ⟨List.mem_of_getElem? (i := 1345) (by decide +kernel), by decide +kernel⟩
theorem gm_1346 : (Cond.selects "LetterSchoolModel" ⟨"LetterSchoolModel", "who", "(II)I"⟩ ⟨"LetterSchoolModel", "who", "(II)I"⟩) ∈ gW := List.mem_filter.mpr ⟨List.mem_of_getElem? (i := 1346) (by decide +kernel), by decide +kernel⟩
theorem gm_1347 : (Cond.code ⟨"LetterSchoolModel", "who", "(II)I"⟩ prog_14_method_28_code 3 (Option.some FieldType.int)) ∈ gW := List.mem_filter.mpr ⟨List.mem_of_getElem? (i := 1347) (by decide +kernel), by decide +kernel⟩
theorem gm_1348 : (Cond.methodLink "LetterSchoolModel" 329 ⟨"LetterSchoolModel", "isPupil", "(I)Z"⟩) ∈ gW := List.mem_filter.mpr ⟨List.mem_of_getElem? (i := 1348) (by decide +kernel), by decide +kernel⟩
theorem gm_1350 : (Cond.instanceMethod ⟨"LetterSchoolModel", "isPupil", "(I)Z"⟩) ∈ gW := List.mem_filter.mpr ⟨List.mem_of_getElem? (i := 1350) (by decide +kernel), by decide +kernel⟩
theorem gm_1351 : (Cond.code ⟨"LetterSchoolModel", "isPupil", "(I)Z"⟩ prog_14_method_26_code 2 (Option.some FieldType.boolean)) ∈ gW := List.mem_filter.mpr ⟨List.mem_of_getElem? (i := 1351) (by decide +kernel), by decide +kernel⟩
theorem gm_1352 : (Cond.methodLink "LetterSchoolLaw" 46 ⟨"LetterSchoolModel", "habit", "(II)I"⟩) ∈ gW := List.mem_filter.mpr ⟨List.mem_of_getElem? (i := 1352) (by decide +kernel), by decide +kernel⟩
theorem gm_1353 : (Cond.instanceMethod ⟨"LetterSchoolModel", "habit", "(II)I"⟩) ∈ gW := List.mem_filter.mpr ⟨List.mem_of_getElem? (i := 1353) (by decide +kernel), by decide +kernel⟩
theorem gm_1354 : (Cond.selects "LetterSchoolModel" ⟨"LetterSchoolModel", "habit", "(II)I"⟩ ⟨"LetterSchoolModel", "habit", "(II)I"⟩) ∈ gW := List.mem_filter.mpr ⟨List.mem_of_getElem? (i := 1354) (by decide +kernel), by decide +kernel⟩
theorem gm_1355 : (Cond.code ⟨"LetterSchoolModel", "habit", "(II)I"⟩ prog_14_method_29_code 4 (Option.some FieldType.int)) ∈ gW := List.mem_filter.mpr ⟨List.mem_of_getElem? (i := 1355) (by decide +kernel), by decide +kernel⟩
theorem gm_1356 : (Cond.constantLong "LetterSchoolModel" 332 60) ∈ gW := List.mem_filter.mpr ⟨List.mem_of_getElem? (i := 1356) (by decide +kernel), by decide +kernel⟩
theorem gm_1357 : (Cond.methodLink "LetterSchoolLaw" 50 ⟨"LetterSchoolModel", "best", "(III)I"⟩) ∈ gW := List.mem_filter.mpr ⟨List.mem_of_getElem? (i := 1357) (by decide +kernel), by decide +kernel⟩
theorem gm_1358 : (Cond.instanceMethod ⟨"LetterSchoolModel", "best", "(III)I"⟩) ∈ gW := List.mem_filter.mpr ⟨List.mem_of_getElem? (i := 1358) (by decide +kernel), by decide +kernel⟩
theorem gm_1359 : (Cond.selects "LetterSchoolModel" ⟨"LetterSchoolModel", "best", "(III)I"⟩ ⟨"LetterSchoolModel", "best", "(III)I"⟩) ∈ gW := List.mem_filter.mpr ⟨List.mem_of_getElem? (i := 1359) (by decide +kernel), by decide +kernel⟩
theorem gm_1360 : (Cond.code ⟨"LetterSchoolModel", "best", "(III)I"⟩ prog_14_method_35_code 5 (Option.some FieldType.int)) ∈ gW := List.mem_filter.mpr ⟨List.mem_of_getElem? (i := 1360) (by decide +kernel), by decide +kernel⟩
theorem gm_1361 : (Cond.methodLink "LetterSchoolModel" 346 ⟨"LetterSchoolModel", "findBests", "(II)V"⟩) ∈ gW := List.mem_filter.mpr ⟨List.mem_of_getElem? (i := 1361) (by decide +kernel), by decide +kernel⟩
theorem gm_1363 : (Cond.instanceMethod ⟨"LetterSchoolModel", "findBests", "(II)V"⟩) ∈ gW := List.mem_filter.mpr ⟨List.mem_of_getElem? (i := 1363) (by decide +kernel), by decide +kernel⟩
theorem gm_1364 : (Cond.code ⟨"LetterSchoolModel", "findBests", "(II)V"⟩ prog_14_method_30_code 5 (Option.none : Option FieldType)) ∈ gW := List.mem_filter.mpr ⟨List.mem_of_getElem? (i := 1364) (by decide +kernel), by decide +kernel⟩
theorem gm_1365 : (Cond.methodLink "LetterSchoolModel" 337 ⟨"LetterSchoolModel", "bestOf", "(II)I"⟩) ∈ gW := List.mem_filter.mpr ⟨List.mem_of_getElem? (i := 1365) (by decide +kernel), by decide +kernel⟩
theorem gm_1367 : (Cond.instanceMethod ⟨"LetterSchoolModel", "bestOf", "(II)I"⟩) ∈ gW := List.mem_filter.mpr ⟨List.mem_of_getElem? (i := 1367) (by decide +kernel), by decide +kernel⟩
theorem gm_1368 : (Cond.code ⟨"LetterSchoolModel", "bestOf", "(II)I"⟩ prog_14_method_31_code 3 (Option.some FieldType.int)) ∈ gW := List.mem_filter.mpr ⟨List.mem_of_getElem? (i := 1368) (by decide +kernel), by decide +kernel⟩
theorem gm_1369 : (Cond.methodLink "LetterSchoolLaw" 54 ⟨"LetterSchoolModel", "may", "(II)I"⟩) ∈ gW := List.mem_filter.mpr ⟨List.mem_of_getElem? (i := 1369) (by decide +kernel), by decide +kernel⟩
theorem gm_1370 : (Cond.instanceMethod ⟨"LetterSchoolModel", "may", "(II)I"⟩) ∈ gW := List.mem_filter.mpr ⟨List.mem_of_getElem? (i := 1370) (by decide +kernel), by decide +kernel⟩
theorem gm_1371 : (Cond.selects "LetterSchoolModel" ⟨"LetterSchoolModel", "may", "(II)I"⟩ ⟨"LetterSchoolModel", "may", "(II)I"⟩) ∈ gW := List.mem_filter.mpr ⟨List.mem_of_getElem? (i := 1371) (by decide +kernel), by decide +kernel⟩
theorem gm_1372 : (Cond.code ⟨"LetterSchoolModel", "may", "(II)I"⟩ prog_14_method_36_code 3 (Option.some FieldType.int)) ∈ gW := List.mem_filter.mpr ⟨List.mem_of_getElem? (i := 1372) (by decide +kernel), by decide +kernel⟩
theorem gm_1373 : (Cond.methodLink "LetterSchoolModel" 350 ⟨"LetterSchoolModel", "bitsOf", "(II)I"⟩) ∈ gW := List.mem_filter.mpr ⟨List.mem_of_getElem? (i := 1373) (by decide +kernel), by decide +kernel⟩
theorem gm_1375 : (Cond.instanceMethod ⟨"LetterSchoolModel", "bitsOf", "(II)I"⟩) ∈ gW := List.mem_filter.mpr ⟨List.mem_of_getElem? (i := 1375) (by decide +kernel), by decide +kernel⟩
theorem gm_1376 : (Cond.code ⟨"LetterSchoolModel", "bitsOf", "(II)I"⟩ prog_14_method_34_code 7 (Option.some FieldType.int)) ∈ gW := List.mem_filter.mpr ⟨List.mem_of_getElem? (i := 1376) (by decide +kernel), by decide +kernel⟩
theorem gm_1377 : (Cond.methodLink "LetterSchoolModel" 340 ⟨"LetterSchoolModel", "isPassed", "(II)Z"⟩) ∈ gW := List.mem_filter.mpr ⟨List.mem_of_getElem? (i := 1377) (by decide +kernel), by decide +kernel⟩
theorem gm_1379 : (Cond.instanceMethod ⟨"LetterSchoolModel", "isPassed", "(II)Z"⟩) ∈ gW := List.mem_filter.mpr ⟨List.mem_of_getElem? (i := 1379) (by decide +kernel), by decide +kernel⟩
theorem gm_1380 : (Cond.code ⟨"LetterSchoolModel", "isPassed", "(II)Z"⟩ prog_14_method_32_code 3 (Option.some FieldType.boolean)) ∈ gW := List.mem_filter.mpr ⟨List.mem_of_getElem? (i := 1380) (by decide +kernel), by decide +kernel⟩
theorem gm_1381 : (Cond.methodLink "LetterSchoolModel" 343 ⟨"LetterSchoolModel", "holds", "(II)Z"⟩) ∈ gW := List.mem_filter.mpr ⟨List.mem_of_getElem? (i := 1381) (by decide +kernel), by decide +kernel⟩
theorem gm_1383 : (Cond.instanceMethod ⟨"LetterSchoolModel", "holds", "(II)Z"⟩) ∈ gW := List.mem_filter.mpr ⟨List.mem_of_getElem? (i := 1383) (by decide +kernel), by decide +kernel⟩
theorem gm_1384 : (Cond.code ⟨"LetterSchoolModel", "holds", "(II)Z"⟩ prog_14_method_33_code 7 (Option.some FieldType.boolean)) ∈ gW := List.mem_filter.mpr ⟨List.mem_of_getElem? (i := 1384) (by decide +kernel), by decide +kernel⟩
theorem gm_1385 : (Cond.methodLink "LetterSchoolLaw" 58 ⟨"LetterSchoolModel", "lean", "(II)I"⟩) ∈ gW := List.mem_filter.mpr ⟨List.mem_of_getElem? (i := 1385) (by decide +kernel), by decide +kernel⟩
theorem gm_1386 : (Cond.instanceMethod ⟨"LetterSchoolModel", "lean", "(II)I"⟩) ∈ gW := List.mem_filter.mpr ⟨List.mem_of_getElem? (i := 1386) (by decide +kernel), by decide +kernel⟩
theorem gm_1387 : (Cond.selects "LetterSchoolModel" ⟨"LetterSchoolModel", "lean", "(II)I"⟩ ⟨"LetterSchoolModel", "lean", "(II)I"⟩) ∈ gW := List.mem_filter.mpr ⟨List.mem_of_getElem? (i := 1387) (by decide +kernel), by decide +kernel⟩
theorem gm_1388 : (Cond.code ⟨"LetterSchoolModel", "lean", "(II)I"⟩ prog_14_method_38_code 9 (Option.some FieldType.int)) ∈ gW := List.mem_filter.mpr ⟨List.mem_of_getElem? (i := 1388) (by decide +kernel), by decide +kernel⟩
theorem gm_1389 : (Cond.methodLink "LetterSchoolModel" 353 ⟨"LetterSchoolModel", "findWith", "(II)V"⟩) ∈ gW := List.mem_filter.mpr ⟨List.mem_of_getElem? (i := 1389) (by decide +kernel), by decide +kernel⟩
theorem gm_1391 : (Cond.instanceMethod ⟨"LetterSchoolModel", "findWith", "(II)V"⟩) ∈ gW := List.mem_filter.mpr ⟨List.mem_of_getElem? (i := 1391) (by decide +kernel), by decide +kernel⟩
theorem gm_1392 : (Cond.code ⟨"LetterSchoolModel", "findWith", "(II)V"⟩ prog_14_method_37_code 4 (Option.none : Option FieldType)) ∈ gW := List.mem_filter.mpr ⟨List.mem_of_getElem? (i := 1392) (by decide +kernel), by decide +kernel⟩
theorem gm_1393 : (Cond.methodLink "LetterSchoolLaw" 62 ⟨"LetterSchoolModel", "post", "(III)I"⟩) ∈ gW := List.mem_filter.mpr ⟨List.mem_of_getElem? (i := 1393) (by decide +kernel), by decide +kernel⟩
theorem gm_1394 : (Cond.instanceMethod ⟨"LetterSchoolModel", "post", "(III)I"⟩) ∈ gW := List.mem_filter.mpr ⟨List.mem_of_getElem? (i := 1394) (by decide +kernel), by decide +kernel⟩
theorem gm_1395 : (Cond.selects "LetterSchoolModel" ⟨"LetterSchoolModel", "post", "(III)I"⟩ ⟨"LetterSchoolModel", "post", "(III)I"⟩) ∈ gW := List.mem_filter.mpr ⟨List.mem_of_getElem? (i := 1395) (by decide +kernel), by decide +kernel⟩
theorem gm_1396 : (Cond.code ⟨"LetterSchoolModel", "post", "(III)I"⟩ prog_14_method_39_code 4 (Option.some FieldType.int)) ∈ gW := List.mem_filter.mpr ⟨List.mem_of_getElem? (i := 1396) (by decide +kernel), by decide +kernel⟩
theorem gm_1397 : (Cond.constantLong "LetterSchoolModel" 356 9) ∈ gW := List.mem_filter.mpr ⟨List.mem_of_getElem? (i := 1397) (by decide +kernel), by decide +kernel⟩
theorem gm_1398 : (Cond.methodLink "LetterSchoolLaw" 66 ⟨"LetterSchoolModel", "send", "(III)I"⟩) ∈ gW := List.mem_filter.mpr ⟨List.mem_of_getElem? (i := 1398) (by decide +kernel), by decide +kernel⟩
theorem gm_1399 : (Cond.instanceMethod ⟨"LetterSchoolModel", "send", "(III)I"⟩) ∈ gW := List.mem_filter.mpr ⟨List.mem_of_getElem? (i := 1399) (by decide +kernel), by decide +kernel⟩
theorem gm_1400 : (Cond.selects "LetterSchoolModel" ⟨"LetterSchoolModel", "send", "(III)I"⟩ ⟨"LetterSchoolModel", "send", "(III)I"⟩) ∈ gW := List.mem_filter.mpr ⟨List.mem_of_getElem? (i := 1400) (by decide +kernel), by decide +kernel⟩
theorem gm_1401 : (Cond.code ⟨"LetterSchoolModel", "send", "(III)I"⟩ prog_14_method_41_code 5 (Option.some FieldType.int)) ∈ gW := List.mem_filter.mpr ⟨List.mem_of_getElem? (i := 1401) (by decide +kernel), by decide +kernel⟩
theorem gm_1402 : (Cond.methodLink "LetterSchoolModel" 358 ⟨"LetterSchoolModel", "hasLeft", "(II)Z"⟩) ∈ gW := List.mem_filter.mpr ⟨List.mem_of_getElem? (i := 1402) (by decide +kernel), by decide +kernel⟩
theorem gm_1404 : (Cond.instanceMethod ⟨"LetterSchoolModel", "hasLeft", "(II)Z"⟩) ∈ gW := List.mem_filter.mpr ⟨List.mem_of_getElem? (i := 1404) (by decide +kernel), by decide +kernel⟩
theorem gm_1405 : (Cond.code ⟨"LetterSchoolModel", "hasLeft", "(II)Z"⟩ prog_14_method_27_code 3 (Option.some FieldType.boolean)) ∈ gW := List.mem_filter.mpr ⟨List.mem_of_getElem? (i := 1405) (by decide +kernel), by decide +kernel⟩
theorem gm_1406 : (Cond.methodLink "LetterSchoolModel" 361 ⟨"LetterSchoolModel", "goes", "(III)V"⟩) ∈ gW := List.mem_filter.mpr ⟨List.mem_of_getElem? (i := 1406) (by decide +kernel), by decide +kernel⟩
theorem gm_1408 : (Cond.instanceMethod ⟨"LetterSchoolModel", "goes", "(III)V"⟩) ∈ gW := List.mem_filter.mpr ⟨List.mem_of_getElem? (i := 1408) (by decide +kernel), by decide +kernel⟩
theorem gm_1409 : (Cond.code ⟨"LetterSchoolModel", "goes", "(III)V"⟩ prog_14_method_40_code 6 (Option.none : Option FieldType)) ∈ gW := List.mem_filter.mpr ⟨List.mem_of_getElem? (i := 1409) (by decide +kernel), by decide +kernel⟩
theorem gm_1410 : (Cond.methodLink "LetterSchoolLaw" 70 ⟨"LetterSchoolModel", "answer", "(II)I"⟩) ∈ gW := List.mem_filter.mpr ⟨List.mem_of_getElem? (i := 1410) (by decide +kernel), by decide +kernel⟩
theorem gm_1411 : (Cond.instanceMethod ⟨"LetterSchoolModel", "answer", "(II)I"⟩) ∈ gW := List.mem_filter.mpr ⟨List.mem_of_getElem? (i := 1411) (by decide +kernel), by decide +kernel⟩
theorem gm_1412 : (Cond.selects "LetterSchoolModel" ⟨"LetterSchoolModel", "answer", "(II)I"⟩ ⟨"LetterSchoolModel", "answer", "(II)I"⟩) ∈ gW := List.mem_filter.mpr ⟨List.mem_of_getElem? (i := 1412) (by decide +kernel), by decide +kernel⟩
theorem gm_1413 : (Cond.code ⟨"LetterSchoolModel", "answer", "(II)I"⟩ prog_14_method_43_code 4 (Option.some FieldType.int)) ∈ gW := List.mem_filter.mpr ⟨List.mem_of_getElem? (i := 1413) (by decide +kernel), by decide +kernel⟩
theorem gm_1414 : (Cond.methodLink "LetterSchoolModel" 365 ⟨"LetterSchoolModel", "isThing", "(I)Z"⟩) ∈ gW := List.mem_filter.mpr ⟨List.mem_of_getElem? (i := 1414) (by decide +kernel), by decide +kernel⟩
theorem gm_1416 : (Cond.instanceMethod ⟨"LetterSchoolModel", "isThing", "(I)Z"⟩) ∈ gW := List.mem_filter.mpr ⟨List.mem_of_getElem? (i := 1416) (by decide +kernel), by decide +kernel⟩
theorem gm_1417 : (Cond.code ⟨"LetterSchoolModel", "isThing", "(I)Z"⟩ prog_14_method_42_code 2 (Option.some FieldType.boolean)) ∈ gW := List.mem_filter.mpr ⟨List.mem_of_getElem? (i := 1417) (by decide +kernel), by decide +kernel⟩
theorem gm_1418 : (Cond.methodLink "LetterSchoolLaw" 74 ⟨"LetterSchoolModel", "give", "(III)I"⟩) ∈ gW := List.mem_filter.mpr ⟨List.mem_of_getElem? (i := 1418) (by decide +kernel), by decide +kernel⟩
theorem gm_1419 : (Cond.instanceMethod ⟨"LetterSchoolModel", "give", "(III)I"⟩) ∈ gW := List.mem_filter.mpr ⟨List.mem_of_getElem? (i := 1419) (by decide +kernel), by decide +kernel⟩
theorem gm_1420 : (Cond.selects "LetterSchoolModel" ⟨"LetterSchoolModel", "give", "(III)I"⟩ ⟨"LetterSchoolModel", "give", "(III)I"⟩) ∈ gW := List.mem_filter.mpr ⟨List.mem_of_getElem? (i := 1420) (by decide +kernel), by decide +kernel⟩
theorem gm_1421 : (Cond.code ⟨"LetterSchoolModel", "give", "(III)I"⟩ prog_14_method_46_code 4 (Option.some FieldType.int)) ∈ gW := List.mem_filter.mpr ⟨List.mem_of_getElem? (i := 1421) (by decide +kernel), by decide +kernel⟩
theorem gm_1422 : (Cond.methodLink "LetterSchoolModel" 368 ⟨"LetterSchoolModel", "isTutor", "(I)Z"⟩) ∈ gW := List.mem_filter.mpr ⟨List.mem_of_getElem? (i := 1422) (by decide +kernel), by decide +kernel⟩
theorem gm_1424 : (Cond.instanceMethod ⟨"LetterSchoolModel", "isTutor", "(I)Z"⟩) ∈ gW := List.mem_filter.mpr ⟨List.mem_of_getElem? (i := 1424) (by decide +kernel), by decide +kernel⟩
theorem gm_1425 : (Cond.code ⟨"LetterSchoolModel", "isTutor", "(I)Z"⟩ prog_14_method_57_code 2 (Option.some FieldType.boolean)) ∈ gW := List.mem_filter.mpr ⟨List.mem_of_getElem? (i := 1425) (by decide +kernel), by decide +kernel⟩
theorem gm_1426 : (Cond.methodLink "LetterSchoolModel" 371 ⟨"LetterSchoolModel", "isAnswer", "(I)Z"⟩) ∈ gW := List.mem_filter.mpr ⟨List.mem_of_getElem? (i := 1426) (by decide +kernel), by decide +kernel⟩
theorem gm_1428 : (Cond.instanceMethod ⟨"LetterSchoolModel", "isAnswer", "(I)Z"⟩) ∈ gW := List.mem_filter.mpr ⟨List.mem_of_getElem? (i := 1428) (by decide +kernel), by decide +kernel⟩
theorem gm_1429 : (Cond.code ⟨"LetterSchoolModel", "isAnswer", "(I)Z"⟩ prog_14_method_44_code 2 (Option.some FieldType.boolean)) ∈ gW := List.mem_filter.mpr ⟨List.mem_of_getElem? (i := 1429) (by decide +kernel), by decide +kernel⟩
theorem gm_1430 : (Cond.methodLink "LetterSchoolModel" 374 ⟨"LetterSchoolModel", "suits", "(II)Z"⟩) ∈ gW := List.mem_filter.mpr ⟨List.mem_of_getElem? (i := 1430) (by decide +kernel), by decide +kernel⟩
theorem gm_1432 : (Cond.instanceMethod ⟨"LetterSchoolModel", "suits", "(II)Z"⟩) ∈ gW := List.mem_filter.mpr ⟨List.mem_of_getElem? (i := 1432) (by decide +kernel), by decide +kernel⟩
theorem gm_1433 : (Cond.code ⟨"LetterSchoolModel", "suits", "(II)Z"⟩ prog_14_method_45_code 3 (Option.some FieldType.boolean)) ∈ gW := List.mem_filter.mpr ⟨List.mem_of_getElem? (i := 1433) (by decide +kernel), by decide +kernel⟩
theorem gm_1434 : (Cond.methodLink "LetterSchoolLaw" 79 ⟨"LetterSchoolModel", "mark", "(IIIII)I"⟩) ∈ gW := List.mem_filter.mpr ⟨List.mem_of_getElem? (i := 1434) (by decide +kernel), by decide +kernel⟩
theorem gm_1435 : (Cond.instanceMethod ⟨"LetterSchoolModel", "mark", "(IIIII)I"⟩) ∈ gW := List.mem_filter.mpr ⟨List.mem_of_getElem? (i := 1435) (by decide +kernel), by decide +kernel⟩
theorem gm_1436 : (Cond.selects "LetterSchoolModel" ⟨"LetterSchoolModel", "mark", "(IIIII)I"⟩ ⟨"LetterSchoolModel", "mark", "(IIIII)I"⟩) ∈ gW := List.mem_filter.mpr ⟨List.mem_of_getElem? (i := 1436) (by decide +kernel), by decide +kernel⟩
theorem gm_1437 : (Cond.code ⟨"LetterSchoolModel", "mark", "(IIIII)I"⟩ prog_14_method_49_code 6 (Option.some FieldType.int)) ∈ gW := List.mem_filter.mpr ⟨List.mem_of_getElem? (i := 1437) (by decide +kernel), by decide +kernel⟩
theorem gm_1438 : (Cond.methodLink "LetterSchoolModel" 379 ⟨"LetterSchoolModel", "isParts", "(III)Z"⟩) ∈ gW := List.mem_filter.mpr ⟨List.mem_of_getElem? (i := 1438) (by decide +kernel), by decide +kernel⟩
theorem gm_1439 : (Cond.static ⟨"LetterSchoolModel", "isParts", "(III)Z"⟩) ∈ gW := List.mem_filter.mpr ⟨List.mem_of_getElem? (i := 1439) (by decide +kernel), by decide +kernel⟩
theorem gm_1440 : (Cond.code ⟨"LetterSchoolModel", "isParts", "(III)Z"⟩ prog_14_method_47_code 3 (Option.some FieldType.boolean)) ∈ gW := List.mem_filter.mpr ⟨List.mem_of_getElem? (i := 1440) (by decide +kernel), by decide +kernel⟩
theorem gm_1441 : (Cond.constantLong "LetterSchoolModel" 377 100) ∈ gW := List.mem_filter.mpr ⟨List.mem_of_getElem? (i := 1441) (by decide +kernel), by decide +kernel⟩
theorem gm_1442 : (Cond.methodLink "LetterSchoolModel" 383 ⟨"LetterSchoolModel", "isGiven", "(II)Z"⟩) ∈ gW := List.mem_filter.mpr ⟨List.mem_of_getElem? (i := 1442) (by decide +kernel), by decide +kernel⟩
theorem gm_1444 : (Cond.instanceMethod ⟨"LetterSchoolModel", "isGiven", "(II)Z"⟩) ∈ gW := List.mem_filter.mpr ⟨List.mem_of_getElem? (i := 1444) (by decide +kernel), by decide +kernel⟩
theorem gm_1445 : (Cond.code ⟨"LetterSchoolModel", "isGiven", "(II)Z"⟩ prog_14_method_48_code 3 (Option.some FieldType.boolean)) ∈ gW := List.mem_filter.mpr ⟨List.mem_of_getElem? (i := 1445) (by decide +kernel), by decide +kernel⟩
theorem gm_1446 : (Cond.methodLink "LetterSchoolLaw" 83 ⟨"LetterSchoolModel", "again", "(II)I"⟩) ∈ gW := List.mem_filter.mpr ⟨List.mem_of_getElem? (i := 1446) (by decide +kernel), by decide +kernel⟩
theorem gm_1447 : (Cond.instanceMethod ⟨"LetterSchoolModel", "again", "(II)I"⟩) ∈ gW := List.mem_filter.mpr ⟨List.mem_of_getElem? (i := 1447) (by decide +kernel), by decide +kernel⟩
theorem gm_1448 : (Cond.selects "LetterSchoolModel" ⟨"LetterSchoolModel", "again", "(II)I"⟩ ⟨"LetterSchoolModel", "again", "(II)I"⟩) ∈ gW := List.mem_filter.mpr ⟨List.mem_of_getElem? (i := 1448) (by decide +kernel), by decide +kernel⟩
theorem gm_1449 : (Cond.code ⟨"LetterSchoolModel", "again", "(II)I"⟩ prog_14_method_50_code 3 (Option.some FieldType.int)) ∈ gW := List.mem_filter.mpr ⟨List.mem_of_getElem? (i := 1449) (by decide +kernel), by decide +kernel⟩
theorem gm_1450 : (Cond.methodLink "LetterSchoolLaw" 87 ⟨"LetterSchoolModel", "second", "(IIIII)I"⟩) ∈ gW := List.mem_filter.mpr ⟨List.mem_of_getElem? (i := 1450) (by decide +kernel), by decide +kernel⟩
theorem gm_1451 : (Cond.instanceMethod ⟨"LetterSchoolModel", "second", "(IIIII)I"⟩) ∈ gW := List.mem_filter.mpr ⟨List.mem_of_getElem? (i := 1451) (by decide +kernel), by decide +kernel⟩
theorem gm_1452 : (Cond.selects "LetterSchoolModel" ⟨"LetterSchoolModel", "second", "(IIIII)I"⟩ ⟨"LetterSchoolModel", "second", "(IIIII)I"⟩) ∈ gW := List.mem_filter.mpr ⟨List.mem_of_getElem? (i := 1452) (by decide +kernel), by decide +kernel⟩
theorem gm_1453 : (Cond.code ⟨"LetterSchoolModel", "second", "(IIIII)I"⟩ prog_14_method_51_code 6 (Option.some FieldType.int)) ∈ gW := List.mem_filter.mpr ⟨List.mem_of_getElem? (i := 1453) (by decide +kernel), by decide +kernel⟩
theorem gm_1454 : (Cond.methodLink "LetterSchoolLaw" 91 ⟨"LetterSchoolModel", "thing", "(II)I"⟩) ∈ gW := List.mem_filter.mpr ⟨List.mem_of_getElem? (i := 1454) (by decide +kernel), by decide +kernel⟩
theorem gm_1455 : (Cond.instanceMethod ⟨"LetterSchoolModel", "thing", "(II)I"⟩) ∈ gW := List.mem_filter.mpr ⟨List.mem_of_getElem? (i := 1455) (by decide +kernel), by decide +kernel⟩
theorem gm_1456 : (Cond.selects "LetterSchoolModel" ⟨"LetterSchoolModel", "thing", "(II)I"⟩ ⟨"LetterSchoolModel", "thing", "(II)I"⟩) ∈ gW := List.mem_filter.mpr ⟨List.mem_of_getElem? (i := 1456) (by decide +kernel), by decide +kernel⟩
theorem gm_1457 : (Cond.code ⟨"LetterSchoolModel", "thing", "(II)I"⟩ prog_14_method_52_code 3 (Option.some FieldType.int)) ∈ gW := List.mem_filter.mpr ⟨List.mem_of_getElem? (i := 1457) (by decide +kernel), by decide +kernel⟩
theorem gm_1458 : (Cond.methodLink "LetterSchoolLaw" 95 ⟨"LetterSchoolModel", "marks", "(II)I"⟩) ∈ gW := List.mem_filter.mpr ⟨List.mem_of_getElem? (i := 1458) (by decide +kernel), by decide +kernel⟩
theorem gm_1459 : (Cond.instanceMethod ⟨"LetterSchoolModel", "marks", "(II)I"⟩) ∈ gW := List.mem_filter.mpr ⟨List.mem_of_getElem? (i := 1459) (by decide +kernel), by decide +kernel⟩
theorem gm_1460 : (Cond.selects "LetterSchoolModel" ⟨"LetterSchoolModel", "marks", "(II)I"⟩ ⟨"LetterSchoolModel", "marks", "(II)I"⟩) ∈ gW := List.mem_filter.mpr ⟨List.mem_of_getElem? (i := 1460) (by decide +kernel), by decide +kernel⟩
theorem gm_1461 : (Cond.code ⟨"LetterSchoolModel", "marks", "(II)I"⟩ prog_14_method_54_code 3 (Option.some FieldType.int)) ∈ gW := List.mem_filter.mpr ⟨List.mem_of_getElem? (i := 1461) (by decide +kernel), by decide +kernel⟩
theorem gm_1462 : (Cond.methodLink "LetterSchoolModel" 386 ⟨"LetterSchoolModel", "knownOn", "(I)I"⟩) ∈ gW := List.mem_filter.mpr ⟨List.mem_of_getElem? (i := 1462) (by decide +kernel), by decide +kernel⟩
theorem gm_1464 : (Cond.instanceMethod ⟨"LetterSchoolModel", "knownOn", "(I)I"⟩) ∈ gW := List.mem_filter.mpr ⟨List.mem_of_getElem? (i := 1464) (by decide +kernel), by decide +kernel⟩
theorem gm_1465 : (Cond.code ⟨"LetterSchoolModel", "knownOn", "(I)I"⟩ prog_14_method_53_code 2 (Option.some FieldType.int)) ∈ gW := List.mem_filter.mpr ⟨List.mem_of_getElem? (i := 1465) (by decide +kernel), by decide +kernel⟩
theorem gm_1466 : (Cond.methodLink "LetterSchoolLaw" 100 ⟨"LetterSchoolModel", "count", "(I)I"⟩) ∈ gW := List.mem_filter.mpr ⟨List.mem_of_getElem? (i := 1466) (by decide +kernel), by decide +kernel⟩
theorem gm_1467 : (Cond.instanceMethod ⟨"LetterSchoolModel", "count", "(I)I"⟩) ∈ gW := List.mem_filter.mpr ⟨List.mem_of_getElem? (i := 1467) (by decide +kernel), by decide +kernel⟩
theorem gm_1468 : (Cond.selects "LetterSchoolModel" ⟨"LetterSchoolModel", "count", "(I)I"⟩ ⟨"LetterSchoolModel", "count", "(I)I"⟩) ∈ gW := List.mem_filter.mpr ⟨List.mem_of_getElem? (i := 1468) (by decide +kernel), by decide +kernel⟩
theorem gm_1469 : (Cond.code ⟨"LetterSchoolModel", "count", "(I)I"⟩ prog_14_method_55_code 4 (Option.some FieldType.int)) ∈ gW := List.mem_filter.mpr ⟨List.mem_of_getElem? (i := 1469) (by decide +kernel), by decide +kernel⟩
theorem gm_1470 : (Cond.methodLink "LetterSchoolLaw" 104 ⟨"LetterSchoolModel", "tutor", "(II)I"⟩) ∈ gW := List.mem_filter.mpr ⟨List.mem_of_getElem? (i := 1470) (by decide +kernel), by decide +kernel⟩
theorem gm_1471 : (Cond.instanceMethod ⟨"LetterSchoolModel", "tutor", "(II)I"⟩) ∈ gW := List.mem_filter.mpr ⟨List.mem_of_getElem? (i := 1471) (by decide +kernel), by decide +kernel⟩
theorem gm_1472 : (Cond.selects "LetterSchoolModel" ⟨"LetterSchoolModel", "tutor", "(II)I"⟩ ⟨"LetterSchoolModel", "tutor", "(II)I"⟩) ∈ gW := List.mem_filter.mpr ⟨List.mem_of_getElem? (i := 1472) (by decide +kernel), by decide +kernel⟩
theorem gm_1473 : (Cond.code ⟨"LetterSchoolModel", "tutor", "(II)I"⟩ prog_14_method_56_code 3 (Option.some FieldType.int)) ∈ gW := List.mem_filter.mpr ⟨List.mem_of_getElem? (i := 1473) (by decide +kernel), by decide +kernel⟩
theorem gm_1474 : (Cond.constantLong "LetterSchoolModel" 392 15) ∈ gW := List.mem_filter.mpr ⟨List.mem_of_getElem? (i := 1474) (by decide +kernel), by decide +kernel⟩
theorem gm_1475 : (Cond.methodLink "LetterSchoolLaw" 108 ⟨"LetterSchoolModel", "kin", "(II)I"⟩) ∈ gW := List.mem_filter.mpr ⟨List.mem_of_getElem? (i := 1475) (by decide +kernel), by decide +kernel⟩
theorem gm_1476 : (Cond.instanceMethod ⟨"LetterSchoolModel", "kin", "(II)I"⟩) ∈ gW := List.mem_filter.mpr ⟨List.mem_of_getElem? (i := 1476) (by decide +kernel), by decide +kernel⟩
theorem gm_1477 : (Cond.selects "LetterSchoolModel" ⟨"LetterSchoolModel", "kin", "(II)I"⟩ ⟨"LetterSchoolModel", "kin", "(II)I"⟩) ∈ gW := List.mem_filter.mpr ⟨List.mem_of_getElem? (i := 1477) (by decide +kernel), by decide +kernel⟩
theorem gm_1478 : (Cond.code ⟨"LetterSchoolModel", "kin", "(II)I"⟩ prog_14_method_58_code 4 (Option.some FieldType.int)) ∈ gW := List.mem_filter.mpr ⟨List.mem_of_getElem? (i := 1478) (by decide +kernel), by decide +kernel⟩
theorem gm_1479 : (Cond.constantLong "LetterSchoolModel" 394 4095) ∈ gW := List.mem_filter.mpr ⟨List.mem_of_getElem? (i := 1479) (by decide +kernel), by decide +kernel⟩
theorem gm_1480 : (Cond.methodLink "LetterSchoolLaw" 112 ⟨"LetterSchoolModel", "load", "(I)I"⟩) ∈ gW := List.mem_filter.mpr ⟨List.mem_of_getElem? (i := 1480) (by decide +kernel), by decide +kernel⟩
theorem gm_1481 : (Cond.instanceMethod ⟨"LetterSchoolModel", "load", "(I)I"⟩) ∈ gW := List.mem_filter.mpr ⟨List.mem_of_getElem? (i := 1481) (by decide +kernel), by decide +kernel⟩
theorem gm_1482 : (Cond.selects "LetterSchoolModel" ⟨"LetterSchoolModel", "load", "(I)I"⟩ ⟨"LetterSchoolModel", "load", "(I)I"⟩) ∈ gW := List.mem_filter.mpr ⟨List.mem_of_getElem? (i := 1482) (by decide +kernel), by decide +kernel⟩
theorem gm_1483 : (Cond.code ⟨"LetterSchoolModel", "load", "(I)I"⟩ prog_14_method_59_code 2 (Option.some FieldType.int)) ∈ gW := List.mem_filter.mpr ⟨List.mem_of_getElem? (i := 1483) (by decide +kernel), by decide +kernel⟩
theorem gm_1484 : (Cond.methodLink "LetterSchoolLaw" 116 ⟨"LetterSchoolModel", "wait", "(II)I"⟩) ∈ gW := List.mem_filter.mpr ⟨List.mem_of_getElem? (i := 1484) (by decide +kernel), by decide +kernel⟩
theorem gm_1485 : (Cond.instanceMethod ⟨"LetterSchoolModel", "wait", "(II)I"⟩) ∈ gW := List.mem_filter.mpr ⟨List.mem_of_getElem? (i := 1485) (by decide +kernel), by decide +kernel⟩
theorem gm_1486 : (Cond.selects "LetterSchoolModel" ⟨"LetterSchoolModel", "wait", "(II)I"⟩ ⟨"LetterSchoolModel", "wait", "(II)I"⟩) ∈ gW := List.mem_filter.mpr ⟨List.mem_of_getElem? (i := 1486) (by decide +kernel), by decide +kernel⟩
theorem gm_1487 : (Cond.code ⟨"LetterSchoolModel", "wait", "(II)I"⟩ prog_14_method_61_code 3 (Option.some FieldType.int)) ∈ gW := List.mem_filter.mpr ⟨List.mem_of_getElem? (i := 1487) (by decide +kernel), by decide +kernel⟩
theorem gm_1488 : (Cond.methodLink "LetterSchoolModel" 396 ⟨"LetterSchoolModel", "daysFor", "(II)I"⟩) ∈ gW := List.mem_filter.mpr ⟨List.mem_of_getElem? (i := 1488) (by decide +kernel), by decide +kernel⟩
theorem gm_1490 : (Cond.instanceMethod ⟨"LetterSchoolModel", "daysFor", "(II)I"⟩) ∈ gW := List.mem_filter.mpr ⟨List.mem_of_getElem? (i := 1490) (by decide +kernel), by decide +kernel⟩
theorem gm_1491 : (Cond.code ⟨"LetterSchoolModel", "daysFor", "(II)I"⟩ prog_14_method_60_code 3 (Option.some FieldType.int)) ∈ gW := List.mem_filter.mpr ⟨List.mem_of_getElem? (i := 1491) (by decide +kernel), by decide +kernel⟩
theorem gm_1492 : (Cond.methodLink "LetterSchoolLaw" 120 ⟨"LetterSchoolModel", "took", "(I)I"⟩) ∈ gW := List.mem_filter.mpr ⟨List.mem_of_getElem? (i := 1492) (by decide +kernel), by decide +kernel⟩
theorem gm_1493 : (Cond.instanceMethod ⟨"LetterSchoolModel", "took", "(I)I"⟩) ∈ gW := List.mem_filter.mpr ⟨List.mem_of_getElem? (i := 1493) (by decide +kernel), by decide +kernel⟩
theorem gm_1494 : (Cond.selects "LetterSchoolModel" ⟨"LetterSchoolModel", "took", "(I)I"⟩ ⟨"LetterSchoolModel", "took", "(I)I"⟩) ∈ gW := List.mem_filter.mpr ⟨List.mem_of_getElem? (i := 1494) (by decide +kernel), by decide +kernel⟩
theorem gm_1495 : (Cond.code ⟨"LetterSchoolModel", "took", "(I)I"⟩ prog_14_method_62_code 2 (Option.some FieldType.int)) ∈ gW := List.mem_filter.mpr ⟨List.mem_of_getElem? (i := 1495) (by decide +kernel), by decide +kernel⟩
theorem gm_1496 : (Cond.methodLink "LetterSchoolLaw" 124 ⟨"LetterSchoolModel", "share", "(II)I"⟩) ∈ gW := List.mem_filter.mpr ⟨List.mem_of_getElem? (i := 1496) (by decide +kernel), by decide +kernel⟩
theorem gm_1497 : (Cond.instanceMethod ⟨"LetterSchoolModel", "share", "(II)I"⟩) ∈ gW := List.mem_filter.mpr ⟨List.mem_of_getElem? (i := 1497) (by decide +kernel), by decide +kernel⟩
theorem gm_1498 : (Cond.selects "LetterSchoolModel" ⟨"LetterSchoolModel", "share", "(II)I"⟩ ⟨"LetterSchoolModel", "share", "(II)I"⟩) ∈ gW := List.mem_filter.mpr ⟨List.mem_of_getElem? (i := 1498) (by decide +kernel), by decide +kernel⟩
theorem gm_1499 : (Cond.code ⟨"LetterSchoolModel", "share", "(II)I"⟩ prog_14_method_66_code 3 (Option.some FieldType.int)) ∈ gW := List.mem_filter.mpr ⟨List.mem_of_getElem? (i := 1499) (by decide +kernel), by decide +kernel⟩
theorem gm_1500 : (Cond.methodLink "LetterSchoolModel" 421 ⟨"LetterSchoolModel", "findShare", "(I)V"⟩) ∈ gW := List.mem_filter.mpr ⟨List.mem_of_getElem? (i := 1500) (by decide +kernel), by decide +kernel⟩
theorem gm_1502 : (Cond.instanceMethod ⟨"LetterSchoolModel", "findShare", "(I)V"⟩) ∈ gW := List.mem_filter.mpr ⟨List.mem_of_getElem? (i := 1502) (by decide +kernel), by decide +kernel⟩
theorem gm_1503 : (Cond.code ⟨"LetterSchoolModel", "findShare", "(I)V"⟩ prog_14_method_65_code 4 (Option.none : Option FieldType)) ∈ gW := List.mem_filter.mpr ⟨List.mem_of_getElem? (i := 1503) (by decide +kernel), by decide +kernel⟩
theorem gm_1504 : (Cond.methodLink "LetterSchoolModel" 411 ⟨"LetterSchoolModel", "look", "()V"⟩) ∈ gW := List.mem_filter.mpr ⟨List.mem_of_getElem? (i := 1504) (by decide +kernel), by decide +kernel⟩
theorem gm_1506 : (Cond.instanceMethod ⟨"LetterSchoolModel", "look", "()V"⟩) ∈ gW := List.mem_filter.mpr ⟨List.mem_of_getElem? (i := 1506) (by decide +kernel), by decide +kernel⟩
theorem gm_1507 : (Cond.code ⟨"LetterSchoolModel", "look", "()V"⟩ prog_14_method_63_code 3 (Option.none : Option FieldType)) ∈ gW := List.mem_filter.mpr ⟨List.mem_of_getElem? (i := 1507) (by decide +kernel), by decide +kernel⟩
theorem gm_1508 : (Cond.methodLink "LetterSchoolModel" 417 ⟨"LetterSchoolModel", "step", "()Z"⟩) ∈ gW := List.mem_filter.mpr ⟨List.mem_of_getElem? (i := 1508) (by decide +kernel), by decide +kernel⟩
theorem gm_1510 : (Cond.instanceMethod ⟨"LetterSchoolModel", "step", "()Z"⟩) ∈ gW := List.mem_filter.mpr ⟨List.mem_of_getElem? (i := 1510) (by decide +kernel), by decide +kernel⟩
theorem gm_1511 : (Cond.code ⟨"LetterSchoolModel", "step", "()Z"⟩ prog_14_method_64_code 2 (Option.some FieldType.boolean)) ∈ gW := List.mem_filter.mpr ⟨List.mem_of_getElem? (i := 1511) (by decide +kernel), by decide +kernel⟩
theorem gm_1512 : (Cond.methodLink "LetterSchoolLaw" 128 ⟨"LetterSchoolModel", "shareOf", "(II)I"⟩) ∈ gW := List.mem_filter.mpr ⟨List.mem_of_getElem? (i := 1512) (by decide +kernel), by decide +kernel⟩
theorem gm_1513 : (Cond.instanceMethod ⟨"LetterSchoolModel", "shareOf", "(II)I"⟩) ∈ gW := List.mem_filter.mpr ⟨List.mem_of_getElem? (i := 1513) (by decide +kernel), by decide +kernel⟩
theorem gm_1514 : (Cond.selects "LetterSchoolModel" ⟨"LetterSchoolModel", "shareOf", "(II)I"⟩ ⟨"LetterSchoolModel", "shareOf", "(II)I"⟩) ∈ gW := List.mem_filter.mpr ⟨List.mem_of_getElem? (i := 1514) (by decide +kernel), by decide +kernel⟩
theorem gm_1515 : (Cond.code ⟨"LetterSchoolModel", "shareOf", "(II)I"⟩ prog_14_method_67_code 5 (Option.some FieldType.int)) ∈ gW := List.mem_filter.mpr ⟨List.mem_of_getElem? (i := 1515) (by decide +kernel), by decide +kernel⟩
theorem gm_1516 : (Cond.methodLink "LetterSchoolLaw" 132 ⟨"LetterSchoolModel", "offset", "(III)I"⟩) ∈ gW := List.mem_filter.mpr ⟨List.mem_of_getElem? (i := 1516) (by decide +kernel), by decide +kernel⟩
theorem gm_1517 : (Cond.instanceMethod ⟨"LetterSchoolModel", "offset", "(III)I"⟩) ∈ gW := List.mem_filter.mpr ⟨List.mem_of_getElem? (i := 1517) (by decide +kernel), by decide +kernel⟩
theorem gm_1518 : (Cond.selects "LetterSchoolModel" ⟨"LetterSchoolModel", "offset", "(III)I"⟩ ⟨"LetterSchoolModel", "offset", "(III)I"⟩) ∈ gW := List.mem_filter.mpr ⟨List.mem_of_getElem? (i := 1518) (by decide +kernel), by decide +kernel⟩
theorem gm_1519 : (Cond.code ⟨"LetterSchoolModel", "offset", "(III)I"⟩ prog_14_method_68_code 12 (Option.some FieldType.int)) ∈ gW := List.mem_filter.mpr ⟨List.mem_of_getElem? (i := 1519) (by decide +kernel), by decide +kernel⟩
theorem gm_1520 : (Cond.methodLink "LetterSchoolLaw" 136 ⟨"LetterSchoolModel", "key", "(III)I"⟩) ∈ gW := List.mem_filter.mpr ⟨List.mem_of_getElem? (i := 1520) (by decide +kernel), by decide +kernel⟩
theorem gm_1521 : (Cond.instanceMethod ⟨"LetterSchoolModel", "key", "(III)I"⟩) ∈ gW := List.mem_filter.mpr ⟨List.mem_of_getElem? (i := 1521) (by decide +kernel), by decide +kernel⟩
theorem gm_1522 : (Cond.selects "LetterSchoolModel" ⟨"LetterSchoolModel", "key", "(III)I"⟩ ⟨"LetterSchoolModel", "key", "(III)I"⟩) ∈ gW := List.mem_filter.mpr ⟨List.mem_of_getElem? (i := 1522) (by decide +kernel), by decide +kernel⟩
theorem gm_1523 : (Cond.code ⟨"LetterSchoolModel", "key", "(III)I"⟩ prog_14_method_69_code 5 (Option.some FieldType.int)) ∈ gW := List.mem_filter.mpr ⟨List.mem_of_getElem? (i := 1523) (by decide +kernel), by decide +kernel⟩
theorem gm_1524 : (Cond.constantLong "LetterSchoolModel" 424 39) ∈ gW := List.mem_filter.mpr ⟨List.mem_of_getElem? (i := 1524) (by decide +kernel), by decide +kernel⟩
theorem gm_1525 : (Cond.constantLong "LetterSchoolModel" 426 19) ∈ gW := List.mem_filter.mpr ⟨List.mem_of_getElem? (i := 1525) (by decide +kernel), by decide +kernel⟩
theorem gm_1526 : (Cond.constantLong "LetterSchoolModel" 428 4) ∈ gW := List.mem_filter.mpr ⟨List.mem_of_getElem? (i := 1526) (by decide +kernel), by decide +kernel⟩
theorem gm_1527 : (Cond.methodLink "LetterSchoolLaw" 140 ⟨"LetterSchoolModel", "choose", "(III)I"⟩) ∈ gW := List.mem_filter.mpr ⟨List.mem_of_getElem? (i := 1527) (by decide +kernel), by decide +kernel⟩
theorem gm_1528 : (Cond.instanceMethod ⟨"LetterSchoolModel", "choose", "(III)I"⟩) ∈ gW := List.mem_filter.mpr ⟨List.mem_of_getElem? (i := 1528) (by decide +kernel), by decide +kernel⟩
theorem gm_1529 : (Cond.selects "LetterSchoolModel" ⟨"LetterSchoolModel", "choose", "(III)I"⟩ ⟨"LetterSchoolModel", "choose", "(III)I"⟩) ∈ gW := List.mem_filter.mpr ⟨List.mem_of_getElem? (i := 1529) (by decide +kernel), by decide +kernel⟩
theorem gm_1530 : (Cond.code ⟨"LetterSchoolModel", "choose", "(III)I"⟩ prog_14_method_70_code 5 (Option.some FieldType.int)) ∈ gW := List.mem_filter.mpr ⟨List.mem_of_getElem? (i := 1530) (by decide +kernel), by decide +kernel⟩
theorem gm_1531 : (Cond.methodLink "LetterSchoolLaw" 144 ⟨"LetterSchoolModel", "like", "(II)I"⟩) ∈ gW := List.mem_filter.mpr ⟨List.mem_of_getElem? (i := 1531) (by decide +kernel), by decide +kernel⟩
theorem gm_1532 : (Cond.instanceMethod ⟨"LetterSchoolModel", "like", "(II)I"⟩) ∈ gW := List.mem_filter.mpr ⟨List.mem_of_getElem? (i := 1532) (by decide +kernel), by decide +kernel⟩
theorem gm_1533 : (Cond.selects "LetterSchoolModel" ⟨"LetterSchoolModel", "like", "(II)I"⟩ ⟨"LetterSchoolModel", "like", "(II)I"⟩) ∈ gW := List.mem_filter.mpr ⟨List.mem_of_getElem? (i := 1533) (by decide +kernel), by decide +kernel⟩
theorem gm_1534 : (Cond.code ⟨"LetterSchoolModel", "like", "(II)I"⟩ prog_14_method_72_code 3 (Option.some FieldType.int)) ∈ gW := List.mem_filter.mpr ⟨List.mem_of_getElem? (i := 1534) (by decide +kernel), by decide +kernel⟩
theorem gm_1535 : (Cond.methodLink "LetterSchoolModel" 430 ⟨"LetterSchoolModel", "likeOf", "(II)I"⟩) ∈ gW := List.mem_filter.mpr ⟨List.mem_of_getElem? (i := 1535) (by decide +kernel), by decide +kernel⟩
theorem gm_1537 : (Cond.instanceMethod ⟨"LetterSchoolModel", "likeOf", "(II)I"⟩) ∈ gW := List.mem_filter.mpr ⟨List.mem_of_getElem? (i := 1537) (by decide +kernel), by decide +kernel⟩
theorem gm_1538 : (Cond.code ⟨"LetterSchoolModel", "likeOf", "(II)I"⟩ prog_14_method_71_code 6 (Option.some FieldType.int)) ∈ gW := List.mem_filter.mpr ⟨List.mem_of_getElem? (i := 1538) (by decide +kernel), by decide +kernel⟩
theorem gm_1539 : (Cond.methodLink "LetterSchoolLaw" 148 ⟨"LetterSchoolModel", "limit", "(I)I"⟩) ∈ gW := List.mem_filter.mpr ⟨List.mem_of_getElem? (i := 1539) (by decide +kernel), by decide +kernel⟩
theorem gm_1540 : (Cond.instanceMethod ⟨"LetterSchoolModel", "limit", "(I)I"⟩) ∈ gW := List.mem_filter.mpr ⟨List.mem_of_getElem? (i := 1540) (by decide +kernel), by decide +kernel⟩
theorem gm_1541 : (Cond.selects "LetterSchoolModel" ⟨"LetterSchoolModel", "limit", "(I)I"⟩ ⟨"LetterSchoolModel", "limit", "(I)I"⟩) ∈ gW := List.mem_filter.mpr ⟨List.mem_of_getElem? (i := 1541) (by decide +kernel), by decide +kernel⟩
theorem gm_1542 : (Cond.code ⟨"LetterSchoolModel", "limit", "(I)I"⟩ prog_14_method_73_code 3 (Option.some FieldType.int)) ∈ gW := List.mem_filter.mpr ⟨List.mem_of_getElem? (i := 1542) (by decide +kernel), by decide +kernel⟩
theorem gm_1543 : (Cond.methodLink "LetterSchoolLaw" 152 ⟨"LetterSchoolModel", "doubted", "(I)I"⟩) ∈ gW := List.mem_filter.mpr ⟨List.mem_of_getElem? (i := 1543) (by decide +kernel), by decide +kernel⟩
theorem gm_1544 : (Cond.instanceMethod ⟨"LetterSchoolModel", "doubted", "(I)I"⟩) ∈ gW := List.mem_filter.mpr ⟨List.mem_of_getElem? (i := 1544) (by decide +kernel), by decide +kernel⟩
theorem gm_1545 : (Cond.selects "LetterSchoolModel" ⟨"LetterSchoolModel", "doubted", "(I)I"⟩ ⟨"LetterSchoolModel", "doubted", "(I)I"⟩) ∈ gW := List.mem_filter.mpr ⟨List.mem_of_getElem? (i := 1545) (by decide +kernel), by decide +kernel⟩
theorem gm_1546 : (Cond.code ⟨"LetterSchoolModel", "doubted", "(I)I"⟩ prog_14_method_74_code 5 (Option.some FieldType.int)) ∈ gW := List.mem_filter.mpr ⟨List.mem_of_getElem? (i := 1546) (by decide +kernel), by decide +kernel⟩
theorem gm_1547 : (Cond.methodLink "LetterSchoolLaw" 156 ⟨"LetterSchoolModel", "fees", "(I)I"⟩) ∈ gW := List.mem_filter.mpr ⟨List.mem_of_getElem? (i := 1547) (by decide +kernel), by decide +kernel⟩
theorem gm_1548 : (Cond.instanceMethod ⟨"LetterSchoolModel", "fees", "(I)I"⟩) ∈ gW := List.mem_filter.mpr ⟨List.mem_of_getElem? (i := 1548) (by decide +kernel), by decide +kernel⟩
theorem gm_1549 : (Cond.selects "LetterSchoolModel" ⟨"LetterSchoolModel", "fees", "(I)I"⟩ ⟨"LetterSchoolModel", "fees", "(I)I"⟩) ∈ gW := List.mem_filter.mpr ⟨List.mem_of_getElem? (i := 1549) (by decide +kernel), by decide +kernel⟩
theorem gm_1550 : (Cond.code ⟨"LetterSchoolModel", "fees", "(I)I"⟩ prog_14_method_76_code 4 (Option.some FieldType.int)) ∈ gW := List.mem_filter.mpr ⟨List.mem_of_getElem? (i := 1550) (by decide +kernel), by decide +kernel⟩
theorem gm_1551 : (Cond.methodLink "LetterSchoolModel" 434 ⟨"LetterSchoolModel", "readFees", "()I"⟩) ∈ gW := List.mem_filter.mpr ⟨List.mem_of_getElem? (i := 1551) (by decide +kernel), by decide +kernel⟩
theorem gm_1553 : (Cond.instanceMethod ⟨"LetterSchoolModel", "readFees", "()I"⟩) ∈ gW := List.mem_filter.mpr ⟨List.mem_of_getElem? (i := 1553) (by decide +kernel), by decide +kernel⟩
theorem gm_1554 : (Cond.code ⟨"LetterSchoolModel", "readFees", "()I"⟩ prog_14_method_75_code 4 (Option.some FieldType.int)) ∈ gW := List.mem_filter.mpr ⟨List.mem_of_getElem? (i := 1554) (by decide +kernel), by decide +kernel⟩
theorem gm_1555 : (Cond.constant "LetterSchoolModel" 433 99999) ∈ gW := List.mem_filter.mpr ⟨List.mem_of_getElem? (i := 1555) (by decide +kernel), by decide +kernel⟩
theorem gm_1556 : (Cond.methodLink "LetterSchoolLaw" 160 ⟨"LetterSchoolModel", "pay", "(III)I"⟩) ∈ gW := List.mem_filter.mpr ⟨List.mem_of_getElem? (i := 1556) (by decide +kernel), by decide +kernel⟩
theorem gm_1557 : (Cond.instanceMethod ⟨"LetterSchoolModel", "pay", "(III)I"⟩) ∈ gW := List.mem_filter.mpr ⟨List.mem_of_getElem? (i := 1557) (by decide +kernel), by decide +kernel⟩
theorem gm_1558 : (Cond.selects "LetterSchoolModel" ⟨"LetterSchoolModel", "pay", "(III)I"⟩ ⟨"LetterSchoolModel", "pay", "(III)I"⟩) ∈ gW := List.mem_filter.mpr ⟨List.mem_of_getElem? (i := 1558) (by decide +kernel), by decide +kernel⟩
theorem gm_1559 : (Cond.code ⟨"LetterSchoolModel", "pay", "(III)I"⟩ prog_14_method_77_code 4 (Option.some FieldType.int)) ∈ gW := List.mem_filter.mpr ⟨List.mem_of_getElem? (i := 1559) (by decide +kernel), by decide +kernel⟩
theorem gm_1560 : (Cond.constantLong "LetterSchoolModel" 437 99999) ∈ gW := List.mem_filter.mpr ⟨List.mem_of_getElem? (i := 1560) (by decide +kernel), by decide +kernel⟩
theorem gm_1561 : (Cond.methodLink "LetterSchoolLaw" 164 ⟨"LetterSchoolModel", "due", "(II)I"⟩) ∈ gW := List.mem_filter.mpr ⟨List.mem_of_getElem? (i := 1561) (by decide +kernel), by decide +kernel⟩
theorem gm_1562 : (Cond.instanceMethod ⟨"LetterSchoolModel", "due", "(II)I"⟩) ∈ gW := List.mem_filter.mpr ⟨List.mem_of_getElem? (i := 1562) (by decide +kernel), by decide +kernel⟩
theorem gm_1563 : (Cond.selects "LetterSchoolModel" ⟨"LetterSchoolModel", "due", "(II)I"⟩ ⟨"LetterSchoolModel", "due", "(II)I"⟩) ∈ gW := List.mem_filter.mpr ⟨List.mem_of_getElem? (i := 1563) (by decide +kernel), by decide +kernel⟩
theorem gm_1564 : (Cond.code ⟨"LetterSchoolModel", "due", "(II)I"⟩ prog_14_method_79_code 7 (Option.some FieldType.int)) ∈ gW := List.mem_filter.mpr ⟨List.mem_of_getElem? (i := 1564) (by decide +kernel), by decide +kernel⟩
theorem gm_1565 : (Cond.methodLink "LetterSchoolModel" 439 ⟨"LetterSchoolModel", "paidBy", "(II)J"⟩) ∈ gW := List.mem_filter.mpr ⟨List.mem_of_getElem? (i := 1565) (by decide +kernel), by decide +kernel⟩
theorem gm_1567 : (Cond.instanceMethod ⟨"LetterSchoolModel", "paidBy", "(II)J"⟩) ∈ gW := List.mem_filter.mpr ⟨List.mem_of_getElem? (i := 1567) (by decide +kernel), by decide +kernel⟩
theorem gm_1568 : (Cond.code ⟨"LetterSchoolModel", "paidBy", "(II)J"⟩ prog_14_method_78_code 6 (Option.some FieldType.long)) ∈ gW := List.mem_filter.mpr ⟨List.mem_of_getElem? (i := 1568) (by decide +kernel), by decide +kernel⟩
theorem gm_1569 : (Cond.methodLink "LetterSchoolLaw" 168 ⟨"LetterSchoolModel", "leave", "(II)I"⟩) ∈ gW := List.mem_filter.mpr ⟨List.mem_of_getElem? (i := 1569) (by decide +kernel), by decide +kernel⟩
theorem gm_1570 : (Cond.instanceMethod ⟨"LetterSchoolModel", "leave", "(II)I"⟩) ∈ gW := List.mem_filter.mpr ⟨List.mem_of_getElem? (i := 1570) (by decide +kernel), by decide +kernel⟩
theorem gm_1571 : (Cond.selects "LetterSchoolModel" ⟨"LetterSchoolModel", "leave", "(II)I"⟩ ⟨"LetterSchoolModel", "leave", "(II)I"⟩) ∈ gW := List.mem_filter.mpr ⟨List.mem_of_getElem? (i := 1571) (by decide +kernel), by decide +kernel⟩
theorem gm_1572 : (Cond.code ⟨"LetterSchoolModel", "leave", "(II)I"⟩ prog_14_method_80_code 5 (Option.some FieldType.int)) ∈ gW := List.mem_filter.mpr ⟨List.mem_of_getElem? (i := 1572) (by decide +kernel), by decide +kernel⟩
theorem gm_1573 : (Cond.methodLink "LetterSchoolLaw" 172 ⟨"LetterSchoolModel", "move", "(III)I"⟩) ∈ gW := List.mem_filter.mpr ⟨List.mem_of_getElem? (i := 1573) (by decide +kernel), by decide +kernel⟩
theorem gm_1574 : (Cond.instanceMethod ⟨"LetterSchoolModel", "move", "(III)I"⟩) ∈ gW := List.mem_filter.mpr ⟨List.mem_of_getElem? (i := 1574) (by decide +kernel), by decide +kernel⟩
theorem gm_1575 : (Cond.selects "LetterSchoolModel" ⟨"LetterSchoolModel", "move", "(III)I"⟩ ⟨"LetterSchoolModel", "move", "(III)I"⟩) ∈ gW := List.mem_filter.mpr ⟨List.mem_of_getElem? (i := 1575) (by decide +kernel), by decide +kernel⟩
theorem gm_1576 : (Cond.code ⟨"LetterSchoolModel", "move", "(III)I"⟩ prog_14_method_81_code 5 (Option.some FieldType.int)) ∈ gW := List.mem_filter.mpr ⟨List.mem_of_getElem? (i := 1576) (by decide +kernel), by decide +kernel⟩
theorem gm_1577 : (Cond.methodLink "LetterSchoolLaw" 176 ⟨"LetterSchoolModel", "sheet", "(III)I"⟩) ∈ gW := List.mem_filter.mpr ⟨List.mem_of_getElem? (i := 1577) (by decide +kernel), by decide +kernel⟩
theorem gm_1578 : (Cond.instanceMethod ⟨"LetterSchoolModel", "sheet", "(III)I"⟩) ∈ gW := List.mem_filter.mpr ⟨List.mem_of_getElem? (i := 1578) (by decide +kernel), by decide +kernel⟩
theorem gm_1579 : (Cond.selects "LetterSchoolModel" ⟨"LetterSchoolModel", "sheet", "(III)I"⟩ ⟨"LetterSchoolModel", "sheet", "(III)I"⟩) ∈ gW := List.mem_filter.mpr ⟨List.mem_of_getElem? (i := 1579) (by decide +kernel), by decide +kernel⟩
theorem gm_1580 : (Cond.code ⟨"LetterSchoolModel", "sheet", "(III)I"⟩ prog_14_method_83_code 5 (Option.some FieldType.int)) ∈ gW := List.mem_filter.mpr ⟨List.mem_of_getElem? (i := 1580) (by decide +kernel), by decide +kernel⟩
theorem gm_1581 : (Cond.methodLink "LetterSchoolModel" 443 ⟨"LetterSchoolModel", "isSheet", "(II)Z"⟩) ∈ gW := List.mem_filter.mpr ⟨List.mem_of_getElem? (i := 1581) (by decide +kernel), by decide +kernel⟩
theorem gm_1582 : (Cond.static ⟨"LetterSchoolModel", "isSheet", "(II)Z"⟩) ∈ gW := List.mem_filter.mpr ⟨List.mem_of_getElem? (i := 1582) (by decide +kernel), by decide +kernel⟩
theorem gm_1583 : (Cond.code ⟨"LetterSchoolModel", "isSheet", "(II)Z"⟩ prog_14_method_82_code 2 (Option.some FieldType.boolean)) ∈ gW := List.mem_filter.mpr ⟨List.mem_of_getElem? (i := 1583) (by decide +kernel), by decide +kernel⟩
theorem gm_1584 : (Cond.methodLink "LetterSchoolLaw" 180 ⟨"LetterSchoolModel", "drop", "(I)I"⟩) ∈ gW := List.mem_filter.mpr ⟨List.mem_of_getElem? (i := 1584) (by decide +kernel), by decide +kernel⟩
theorem gm_1585 : (Cond.instanceMethod ⟨"LetterSchoolModel", "drop", "(I)I"⟩) ∈ gW := List.mem_filter.mpr ⟨List.mem_of_getElem? (i := 1585) (by decide +kernel), by decide +kernel⟩
theorem gm_1586 : (Cond.selects "LetterSchoolModel" ⟨"LetterSchoolModel", "drop", "(I)I"⟩ ⟨"LetterSchoolModel", "drop", "(I)I"⟩) ∈ gW := List.mem_filter.mpr ⟨List.mem_of_getElem? (i := 1586) (by decide +kernel), by decide +kernel⟩
theorem gm_1587 : (Cond.code ⟨"LetterSchoolModel", "drop", "(I)I"⟩ prog_14_method_84_code 2 (Option.some FieldType.int)) ∈ gW := List.mem_filter.mpr ⟨List.mem_of_getElem? (i := 1587) (by decide +kernel), by decide +kernel⟩
theorem gm_1588 : (Cond.methodLink "LetterSchoolLaw" 184 ⟨"LetterSchoolModel", "item", "(IIII)I"⟩) ∈ gW := List.mem_filter.mpr ⟨List.mem_of_getElem? (i := 1588) (by decide +kernel), by decide +kernel⟩
theorem gm_1589 : (Cond.instanceMethod ⟨"LetterSchoolModel", "item", "(IIII)I"⟩) ∈ gW := List.mem_filter.mpr ⟨List.mem_of_getElem? (i := 1589) (by decide +kernel), by decide +kernel⟩
theorem gm_1590 : (Cond.selects "LetterSchoolModel" ⟨"LetterSchoolModel", "item", "(IIII)I"⟩ ⟨"LetterSchoolModel", "item", "(IIII)I"⟩) ∈ gW := List.mem_filter.mpr ⟨List.mem_of_getElem? (i := 1590) (by decide +kernel), by decide +kernel⟩
theorem gm_1591 : (Cond.code ⟨"LetterSchoolModel", "item", "(IIII)I"⟩ prog_14_method_86_code 6 (Option.some FieldType.int)) ∈ gW := List.mem_filter.mpr ⟨List.mem_of_getElem? (i := 1591) (by decide +kernel), by decide +kernel⟩
theorem gm_1592 : (Cond.methodLink "LetterSchoolModel" 446 ⟨"LetterSchoolModel", "against", "(IIII)I"⟩) ∈ gW := List.mem_filter.mpr ⟨List.mem_of_getElem? (i := 1592) (by decide +kernel), by decide +kernel⟩
theorem gm_1594 : (Cond.instanceMethod ⟨"LetterSchoolModel", "against", "(IIII)I"⟩) ∈ gW := List.mem_filter.mpr ⟨List.mem_of_getElem? (i := 1594) (by decide +kernel), by decide +kernel⟩
theorem gm_1595 : (Cond.code ⟨"LetterSchoolModel", "against", "(IIII)I"⟩ prog_14_method_85_code 5 (Option.some FieldType.int)) ∈ gW := List.mem_filter.mpr ⟨List.mem_of_getElem? (i := 1595) (by decide +kernel), by decide +kernel⟩
theorem gm_1596 : (Cond.methodLink "LetterSchoolLaw" 188 ⟨"LetterSchoolModel", "choices", "(IIIII)I"⟩) ∈ gW := List.mem_filter.mpr ⟨List.mem_of_getElem? (i := 1596) (by decide +kernel), by decide +kernel⟩
theorem gm_1597 : (Cond.instanceMethod ⟨"LetterSchoolModel", "choices", "(IIIII)I"⟩) ∈ gW := List.mem_filter.mpr ⟨List.mem_of_getElem? (i := 1597) (by decide +kernel), by decide +kernel⟩
theorem gm_1598 : (Cond.selects "LetterSchoolModel" ⟨"LetterSchoolModel", "choices", "(IIIII)I"⟩ ⟨"LetterSchoolModel", "choices", "(IIIII)I"⟩) ∈ gW := List.mem_filter.mpr ⟨List.mem_of_getElem? (i := 1598) (by decide +kernel), by decide +kernel⟩
theorem gm_1599 : (Cond.code ⟨"LetterSchoolModel", "choices", "(IIIII)I"⟩ prog_14_method_87_code 9 (Option.some FieldType.int)) ∈ gW := List.mem_filter.mpr ⟨List.mem_of_getElem? (i := 1599) (by decide +kernel), by decide +kernel⟩
theorem gm_1600 : (Cond.constantLong "LetterSchoolModel" 450 20) ∈ gW := List.mem_filter.mpr ⟨List.mem_of_getElem? (i := 1600) (by decide +kernel), by decide +kernel⟩
theorem gm_1601 : (Cond.constantLong "LetterSchoolLaw" 13 4294967295) ∈ gW := List.mem_filter.mpr ⟨List.mem_of_getElem? (i := 1601) (by decide +kernel), by decide +kernel⟩
def nW : List Cond := [(Cond.methodLinkNest "LetterSchool" 9 ⟨"LetterSchool$Tape", "<init>", "()V"⟩ "LetterSchool"), (Cond.fieldLinkNest "LetterSchool" 115 "LetterSchool$Tape" "length" "I" "LetterSchool"), (Cond.fieldLinkNest "LetterSchool" 138 "LetterSchool$Tape" "place" "I" "LetterSchool"), (Cond.methodLinkNest "LetterSchool" 32 ⟨"LetterSchool$Edition", "<init>", "()V"⟩ "LetterSchool"), (Cond.fieldLinkNest "LetterSchool" 141 "LetterSchool$Edition" "from" "I" "LetterSchool"), (Cond.fieldLinkNest "LetterSchool" 148 "LetterSchool$Edition" "lessons" "I" "LetterSchool"), (Cond.fieldLinkNest "LetterSchool" 159 "LetterSchool$Edition" "name" "[I" "LetterSchool"), (Cond.fieldLinkNest "LetterSchool" 162 "LetterSchool$Edition" "pass" "[I" "LetterSchool"), (Cond.fieldLinkNest "LetterSchool" 165 "LetterSchool$Edition" "stands" "[I" "LetterSchool"), (Cond.methodLinkNest "LetterSchool" 37 ⟨"LetterSchool$Fees", "<init>", "()V"⟩ "LetterSchool"), (Cond.fieldLinkNest "LetterSchool$Tape" 88 "LetterSchool$Fees" "count" "I" "LetterSchool"), (Cond.fieldLinkNest "LetterSchool" 373 "LetterSchool$Fees" "count" "I" "LetterSchool"), (Cond.methodLinkNest "LetterSchool" 78 ⟨"LetterSchool$Ledger", "<init>", "()V"⟩ "LetterSchool"), (Cond.methodLinkNest "LetterSchool" 98 ⟨"LetterSchool$Sharing", "<init>", "()V"⟩ "LetterSchool"), (Cond.fieldLinkNest "LetterSchool" 335 "LetterSchool$Sharing" "mostGiven" "I" "LetterSchool"), (Cond.fieldLinkNest "LetterSchool" 338 "LetterSchool$Sharing" "leastDays" "I" "LetterSchool"), (Cond.methodLinkNest "LetterSchool" 105 ⟨"LetterSchool$Way", "<init>", "()V"⟩ "LetterSchool"), (Cond.methodLinkNest "LetterSchool" 113 ⟨"LetterSchool$Post", "<init>", "()V"⟩ "LetterSchool"), (Cond.fieldLinkNest "LetterSchool" 220 "LetterSchool$Post" "days" "I" "LetterSchool"), (Cond.fieldLinkNest "LetterSchool" 223 "LetterSchool$Post" "each" "I" "LetterSchool"), (Cond.fieldLinkNest "LetterSchool" 226 "LetterSchool$Post" "carried" "I" "LetterSchool"), (Cond.methodLinkNest "LetterSchool" 114 ⟨"LetterSchool$Sheet", "<init>", "()V"⟩ "LetterSchool"), (Cond.fieldLinkNest "LetterSchool" 394 "LetterSchool$Sheet" "lane" "I" "LetterSchool"), (Cond.fieldLinkNest "LetterSchool" 397 "LetterSchool$Sheet" "size" "I" "LetterSchool"), (Cond.fieldLinkNest "LetterSchool" 406 "LetterSchool$Sheet" "items" "[I" "LetterSchool"), (Cond.methodLinkNest "LetterSchool$Tape" 52 ⟨"LetterSchool", "isIn", "(II)Z"⟩ "LetterSchool"), (Cond.methodLinkNest "LetterSchool$Edition" 43 ⟨"LetterSchool", "isIn", "(II)Z"⟩ "LetterSchool"), (Cond.fieldLinkNest "LetterSchool" 179 "LetterSchool$Pupil" "place" "I" "LetterSchool"), (Cond.fieldLinkNest "LetterSchool" 186 "LetterSchool$Pupil" "begin" "I" "LetterSchool"), (Cond.fieldLinkNest "LetterSchool" 180 "LetterSchool$Pupil" "course" "I" "LetterSchool"), (Cond.fieldLinkNest "LetterSchool" 183 "LetterSchool$Pupil" "edition" "I" "LetterSchool"), (Cond.fieldLinkNest "LetterSchool" 198 "LetterSchool$Pupil" "taught" "LLetterSchool$Edition;" "LetterSchool"), (Cond.fieldLinkNest "LetterSchool" 189 "LetterSchool$Pupil" "habit" "I" "LetterSchool"), (Cond.fieldLinkNest "LetterSchool" 192 "LetterSchool$Pupil" "left" "I" "LetterSchool"), (Cond.fieldLinkNest "LetterSchool$Tutor" 27 "LetterSchool$Thing" "pupil" "I" "LetterSchool"), (Cond.fieldLinkNest "LetterSchool" 246 "LetterSchool$Thing" "pupil" "I" "LetterSchool"), (Cond.fieldLinkNest "LetterSchool$Tutor" 22 "LetterSchool$Thing" "name" "I" "LetterSchool"), (Cond.fieldLinkNest "LetterSchool" 305 "LetterSchool$Thing" "name" "I" "LetterSchool"), (Cond.fieldLinkNest "LetterSchool" 307 "LetterSchool$Thing" "lesson" "I" "LetterSchool"), (Cond.fieldLinkNest "LetterSchool" 329 "LetterSchool$Thing" "firstSent" "I" "LetterSchool"), (Cond.fieldLinkNest "LetterSchool" 355 "LetterSchool$Thing" "choices" "[B" "LetterSchool"), (Cond.fieldLinkNest "LetterSchool" 243 "LetterSchool$Thing" "kind" "I" "LetterSchool"), (Cond.fieldLinkNest "LetterSchool" 310 "LetterSchool$Thing" "sent" "I" "LetterSchool"), (Cond.fieldLinkNest "LetterSchool" 249 "LetterSchool$Thing" "comes" "I" "LetterSchool"), (Cond.fieldLinkNest "LetterSchool" 270 "LetterSchool$Thing" "tutor" "I" "LetterSchool"), (Cond.fieldLinkNest "LetterSchool" 273 "LetterSchool$Thing" "given" "I" "LetterSchool"), (Cond.fieldLinkNest "LetterSchool" 296 "LetterSchool$Thing" "again" "I" "LetterSchool"), (Cond.fieldLinkNest "LetterSchool" 290 "LetterSchool$Thing" "marks" "I" "LetterSchool"), (Cond.fieldLinkNest "LetterSchool" 293 "LetterSchool$Thing" "marked" "I" "LetterSchool"), (Cond.fieldLinkNest "LetterSchool" 299 "LetterSchool$Thing" "secondTutor" "I" "LetterSchool"), (Cond.fieldLinkNest "LetterSchool" 302 "LetterSchool$Thing" "secondMarks" "I" "LetterSchool"), (Cond.fieldLinkNest "LetterSchool$Sharing" 53 "LetterSchool$Tutor" "pace" "I" "LetterSchool"), (Cond.fieldLinkNest "LetterSchool" 323 "LetterSchool$Tutor" "pace" "I" "LetterSchool"), (Cond.fieldLinkNest "LetterSchool" 320 "LetterSchool$Tutor" "kin" "I" "LetterSchool"), (Cond.fieldLinkNest "LetterSchool$Sharing" 49 "LetterSchool$Tutor" "load" "I" "LetterSchool"), (Cond.fieldLinkNest "LetterSchool" 267 "LetterSchool$Tutor" "load" "I" "LetterSchool"), (Cond.methodLinkNest "LetterSchool$Sharing" 66 ⟨"LetterSchool", "cutUp", "(II)I"⟩ "LetterSchool")]
theorem nW_in : ∀ w ∈ nW, w ∈ lw_tbl := by decide +kernel
theorem inX0 : ∀ w ∈ u_ws RX0 TX0 9, w ∈ gW := by decide +kernel
theorem inX1 : ∀ w ∈ u_ws RX1 TX1 4, w ∈ gW := by decide +kernel
theorem inX2 : ∀ w ∈ u_ws RX2 TX2 4, w ∈ gW := by decide +kernel
theorem inX3 : ∀ w ∈ u_ws RX3 TX3 3, w ∈ gW := by decide +kernel
theorem inX4 : ∀ w ∈ u_ws RX4 TX4 7, w ∈ gW := by decide +kernel
theorem inX5 : ∀ w ∈ u_ws RX5 TX5 12, w ∈ gW := by decide +kernel
theorem inX6 : ∀ w ∈ u_ws RX6 TX6 3, w ∈ gW := by decide +kernel
theorem inX7 : ∀ w ∈ u_ws RX7 TX7 3, w ∈ gW := by decide +kernel
theorem inX8 : ∀ w ∈ u_ws RX8 TX8 15, w ∈ gW := by decide +kernel
theorem inX9 : ∀ w ∈ u_ws RX9 TX9 4, w ∈ gW := by decide +kernel
theorem inX10 : ∀ w ∈ u_ws RX10 TX10 3, w ∈ gW := by decide +kernel
theorem inX11 : ∀ w ∈ u_ws RX11 TX11 20, w ∈ gW := by decide +kernel
theorem inX12 : ∀ w ∈ u_ws RX12 TX12 82, w ∈ gW := by decide +kernel
theorem gW_good {y : MethodName} {b : ByteArray} {n : Nat} {r : Option FieldType} {y' : MethodName} {b' : ByteArray} {n' : Nat} {r' : Option FieldType} (h : Cond.code y' b' n' r' ∈ gW) : GoodIn (Cond.code y b n r :: gW) (Cond.code y' b' n' r' :: gW) := by
  intro w hw
  have hg : w ∈ gW := by
    rcases List.mem_cons.mp hw with e | e
    · rw [e]; exact h
    · exact e
  exact ⟨List.mem_cons_of_mem _ hg, good_of_word (List.mem_filter.mp hg).2⟩
theorem gW_good0 {y' : MethodName} {b' : ByteArray} {n' : Nat} {r' : Option FieldType} (h : Cond.code y' b' n' r' ∈ gW) : GoodIn gW (Cond.code y' b' n' r' :: gW) := by
  intro w hw
  have hg : w ∈ gW := by
    rcases List.mem_cons.mp hw with e | e
    · rw [e]; exact h
    · exact e
  exact ⟨hg, good_of_word (List.mem_filter.mp hg).2⟩
