def RX0 : String := "LetterSchool$Edition"
def TX0 : u_T := fun k => match k with
  | 0 => ("LetterSchool$Edition", "from", "I", false)
  | 1 => ("LetterSchool$Edition", "lessons", "I", false)
  | 2 => ("LetterSchool$Edition", "name", "[I", true)
  | 3 => ("LetterSchool$Edition", "pass", "[I", true)
  | 4 => ("LetterSchool$Edition", "stands", "[I", true)
  | 5 => ("LetterSchool$Edition", "start", "[I", true)
  | 6 => ("LetterSchool$Edition", "end", "[I", true)
  | 7 => ("LetterSchool$Edition", "code", "[S", true)
  | _ => ("LetterSchool$Edition", "codeLength", "I", false)
def tyX0 : Nat → FieldType := fun k => match k with
  | 0 => .int
  | 1 => .int
  | 2 => .array .int
  | 3 => .array .int
  | 4 => .array .int
  | 5 => .array .int
  | 6 => .array .int
  | 7 => .array .short
  | _ => .int
theorem nmX0 : ∀ a, a < 9 → ∀ b, b < 9 → a ≠ b → (TX0 a).2.1 ≠ (TX0 b).2.1 := by decide +kernel
theorem tyX0_ok : ∀ k, k < 9 → parseFieldDescriptor (TX0 k).2.2.1 = some (tyX0 k) := by decide +kernel
abbrev cX0_init : ByteArray := prog_2_method_1_code
def yX0_init : MethodName := ⟨RX0, "<init>", "()V"⟩
abbrev cX0_clear : ByteArray := prog_2_method_2_code
def yX0_clear : MethodName := ⟨RX0, "clear", "()V"⟩
abbrev cX0_tells : ByteArray := prog_2_method_3_code
def yX0_tells : MethodName := ⟨RX0, "tells", "(I)Z"⟩
abbrev cX0_tell : ByteArray := prog_2_method_4_code
def yX0_tell : MethodName := ⟨RX0, "tell", "(III)V"⟩
abbrev cX0_addPassed : ByteArray := prog_2_method_5_code
def yX0_addPassed : MethodName := ⟨RX0, "addPassed", "(II)V"⟩
abbrev cX0_addAbove : ByteArray := prog_2_method_6_code
def yX0_addAbove : MethodName := ⟨RX0, "addAbove", "(III)V"⟩
abbrev cX0_add : ByteArray := prog_2_method_7_code
def yX0_add : MethodName := ⟨RX0, "add", "(II)V"⟩
abbrev cX0_leansOnToldAlone : ByteArray := prog_2_method_8_code
def yX0_leansOnToldAlone : MethodName := ⟨RX0, "leansOnToldAlone", "()Z"⟩
abbrev cX0_isPassed : ByteArray := prog_2_method_9_code
def yX0_isPassed : MethodName := ⟨RX0, "isPassed", "(I[I)Z"⟩
abbrev cX0_claimHolds : ByteArray := prog_2_method_10_code
def yX0_claimHolds : MethodName := ⟨RX0, "claimHolds", "(I[I)Z"⟩
abbrev cX0_holds : ByteArray := prog_2_method_11_code
def yX0_holds : MethodName := ⟨RX0, "holds", "(I[I)Z"⟩
abbrev cX0_passed : ByteArray := prog_2_method_12_code
def yX0_passed : MethodName := ⟨RX0, "passed", "([I)I"⟩
abbrev cX0_open : ByteArray := prog_2_method_13_code
def yX0_open : MethodName := ⟨RX0, "open", "([I)I"⟩
abbrev cX0_namedLike : ByteArray := prog_2_method_14_code
def yX0_namedLike : MethodName := ⟨RX0, "namedLike", "(I)I"⟩
def RX1 : String := "LetterSchool$Fees"
def TX1 : u_T := fun k => match k with
  | 0 => ("LetterSchool$Fees", "count", "I", false)
  | 1 => ("LetterSchool$Fees", "part", "[Z", true)
  | 2 => ("LetterSchool$Fees", "days", "[I", true)
  | _ => ("LetterSchool$Fees", "amount", "[I", true)
def tyX1 : Nat → FieldType := fun k => match k with
  | 0 => .int
  | 1 => .array .boolean
  | 2 => .array .int
  | _ => .array .int
theorem nmX1 : ∀ a, a < 4 → ∀ b, b < 4 → a ≠ b → (TX1 a).2.1 ≠ (TX1 b).2.1 := by decide +kernel
theorem tyX1_ok : ∀ k, k < 4 → parseFieldDescriptor (TX1 k).2.2.1 = some (tyX1 k) := by decide +kernel
abbrev cX1_init : ByteArray := prog_3_method_1_code
def yX1_init : MethodName := ⟨RX1, "<init>", "()V"⟩
abbrev cX1_add : ByteArray := prog_3_method_2_code
def yX1_add : MethodName := ⟨RX1, "add", "(ZII)V"⟩
abbrev cX1_partsBy : ByteArray := prog_3_method_3_code
def yX1_partsBy : MethodName := ⟨RX1, "partsBy", "(I)I"⟩
abbrev cX1_backAfter : ByteArray := prog_3_method_4_code
def yX1_backAfter : MethodName := ⟨RX1, "backAfter", "(I)I"⟩
def RX2 : String := "LetterSchool$Ledger"
def TX2 : u_T := fun k => match k with
  | 0 => ("LetterSchool$Ledger", "payer", "[B", true)
  | 1 => ("LetterSchool$Ledger", "pence", "[I", true)
  | 2 => ("LetterSchool$Ledger", "paidOn", "[S", true)
  | _ => ("LetterSchool$Ledger", "count", "I", false)
def tyX2 : Nat → FieldType := fun k => match k with
  | 0 => .array .byte
  | 1 => .array .int
  | 2 => .array .short
  | _ => .int
theorem nmX2 : ∀ a, a < 4 → ∀ b, b < 4 → a ≠ b → (TX2 a).2.1 ≠ (TX2 b).2.1 := by decide +kernel
theorem tyX2_ok : ∀ k, k < 4 → parseFieldDescriptor (TX2 k).2.2.1 = some (tyX2 k) := by decide +kernel
abbrev cX2_init : ByteArray := prog_4_method_1_code
def yX2_init : MethodName := ⟨RX2, "<init>", "()V"⟩
abbrev cX2_enter : ByteArray := prog_4_method_2_code
def yX2_enter : MethodName := ⟨RX2, "enter", "(III)Z"⟩
abbrev cX2_paidBy : ByteArray := prog_4_method_3_code
def yX2_paidBy : MethodName := ⟨RX2, "paidBy", "(II)I"⟩
def RX3 : String := "LetterSchool$Post"
def TX3 : u_T := fun k => match k with
  | 0 => ("LetterSchool$Post", "days", "I", false)
  | 1 => ("LetterSchool$Post", "each", "I", false)
  | _ => ("LetterSchool$Post", "carried", "I", false)
def tyX3 : Nat → FieldType := fun k => match k with
  | 0 => .int
  | 1 => .int
  | _ => .int
theorem nmX3 : ∀ a, a < 3 → ∀ b, b < 3 → a ≠ b → (TX3 a).2.1 ≠ (TX3 b).2.1 := by decide +kernel
theorem tyX3_ok : ∀ k, k < 3 → parseFieldDescriptor (TX3 k).2.2.1 = some (tyX3 k) := by decide +kernel
abbrev cX3_init : ByteArray := prog_5_method_1_code
def yX3_init : MethodName := ⟨RX3, "<init>", "()V"⟩
abbrev cX3_losesNext : ByteArray := prog_5_method_2_code
def yX3_losesNext : MethodName := ⟨RX3, "losesNext", "()Z"⟩
def RX4 : String := "LetterSchool$Pupil"
def TX4 : u_T := fun k => match k with
  | 0 => ("LetterSchool$Pupil", "place", "I", true)
  | 1 => ("LetterSchool$Pupil", "begin", "I", true)
  | 2 => ("LetterSchool$Pupil", "course", "I", false)
  | 3 => ("LetterSchool$Pupil", "edition", "I", false)
  | 4 => ("LetterSchool$Pupil", "taught", "LLetterSchool$Edition;", false)
  | 5 => ("LetterSchool$Pupil", "habit", "I", false)
  | _ => ("LetterSchool$Pupil", "left", "I", false)
def tyX4 : Nat → FieldType := fun k => match k with
  | 0 => .int
  | 1 => .int
  | 2 => .int
  | 3 => .int
  | 4 => .object "LetterSchool$Edition"
  | 5 => .int
  | _ => .int
theorem nmX4 : ∀ a, a < 7 → ∀ b, b < 7 → a ≠ b → (TX4 a).2.1 ≠ (TX4 b).2.1 := by decide +kernel
theorem tyX4_ok : ∀ k, k < 7 → parseFieldDescriptor (TX4 k).2.2.1 = some (tyX4 k) := by decide +kernel
abbrev cX4_init : ByteArray := prog_6_method_1_code
def yX4_init : MethodName := ⟨RX4, "<init>", "(IIIILLetterSchool$Edition;)V"⟩
abbrev cX4_follow : ByteArray := prog_6_method_2_code
def yX4_follow : MethodName := ⟨RX4, "follow", "(IILLetterSchool$Edition;)V"⟩
abbrev cX4_hasLeftBy : ByteArray := prog_6_method_3_code
def yX4_hasLeftBy : MethodName := ⟨RX4, "hasLeftBy", "(I)Z"⟩
def RX5 : String := "LetterSchool$Sharing"
def TX5 : u_T := fun k => match k with
  | 0 => ("LetterSchool$Sharing", "thing", "[I", true)
  | 1 => ("LetterSchool$Sharing", "fit", "[I", true)
  | 2 => ("LetterSchool$Sharing", "now", "[I", true)
  | 3 => ("LetterSchool$Sharing", "chosen", "[I", true)
  | 4 => ("LetterSchool$Sharing", "mostLater", "[I", true)
  | 5 => ("LetterSchool$Sharing", "daysLater", "[I", true)
  | 6 => ("LetterSchool$Sharing", "load", "[I", true)
  | 7 => ("LetterSchool$Sharing", "pace", "[I", true)
  | 8 => ("LetterSchool$Sharing", "count", "I", false)
  | 9 => ("LetterSchool$Sharing", "tutors", "I", false)
  | 10 => ("LetterSchool$Sharing", "mostGiven", "I", false)
  | _ => ("LetterSchool$Sharing", "leastDays", "I", false)
def tyX5 : Nat → FieldType := fun k => match k with
  | 0 => .array .int
  | 1 => .array .int
  | 2 => .array .int
  | 3 => .array .int
  | 4 => .array .int
  | 5 => .array .int
  | 6 => .array .int
  | 7 => .array .int
  | 8 => .int
  | 9 => .int
  | 10 => .int
  | _ => .int
theorem nmX5 : ∀ a, a < 12 → ∀ b, b < 12 → a ≠ b → (TX5 a).2.1 ≠ (TX5 b).2.1 := by decide +kernel
theorem tyX5_ok : ∀ k, k < 12 → parseFieldDescriptor (TX5 k).2.2.1 = some (tyX5 k) := by decide +kernel
abbrev cX5_init : ByteArray := prog_7_method_1_code
def yX5_init : MethodName := ⟨RX5, "<init>", "()V"⟩
abbrev cX5_clear : ByteArray := prog_7_method_2_code
def yX5_clear : MethodName := ⟨RX5, "clear", "()V"⟩
abbrev cX5_addTutor : ByteArray := prog_7_method_3_code
def yX5_addTutor : MethodName := ⟨RX5, "addTutor", "(LLetterSchool$Tutor;)V"⟩
abbrev cX5_addThing : ByteArray := prog_7_method_4_code
def yX5_addThing : MethodName := ⟨RX5, "addThing", "(II)V"⟩
abbrev cX5_solve : ByteArray := prog_7_method_5_code
def yX5_solve : MethodName := ⟨RX5, "solve", "()V"⟩
abbrev cX5_lookAhead : ByteArray := prog_7_method_6_code
def yX5_lookAhead : MethodName := ⟨RX5, "lookAhead", "()V"⟩
abbrev cX5_fewestDays : ByteArray := prog_7_method_7_code
def yX5_fewestDays : MethodName := ⟨RX5, "fewestDays", "(I)I"⟩
abbrev cX5_canTake : ByteArray := prog_7_method_8_code
def yX5_canTake : MethodName := ⟨RX5, "canTake", "(II)Z"⟩
abbrev cX5_seek : ByteArray := prog_7_method_9_code
def yX5_seek : MethodName := ⟨RX5, "seek", "(III)V"⟩
abbrev cX5_canBeBetter : ByteArray := prog_7_method_10_code
def yX5_canBeBetter : MethodName := ⟨RX5, "canBeBetter", "(III)Z"⟩
abbrev cX5_tutorOf : ByteArray := prog_7_method_11_code
def yX5_tutorOf : MethodName := ⟨RX5, "tutorOf", "(I)I"⟩
def RX6 : String := "LetterSchool$Sheet"
def TX6 : u_T := fun k => match k with
  | 0 => ("LetterSchool$Sheet", "lane", "I", false)
  | 1 => ("LetterSchool$Sheet", "size", "I", false)
  | _ => ("LetterSchool$Sheet", "items", "[I", true)
def tyX6 : Nat → FieldType := fun k => match k with
  | 0 => .int
  | 1 => .int
  | _ => .array .int
theorem nmX6 : ∀ a, a < 3 → ∀ b, b < 3 → a ≠ b → (TX6 a).2.1 ≠ (TX6 b).2.1 := by decide +kernel
theorem tyX6_ok : ∀ k, k < 3 → parseFieldDescriptor (TX6 k).2.2.1 = some (tyX6 k) := by decide +kernel
abbrev cX6_init : ByteArray := prog_8_method_1_code
def yX6_init : MethodName := ⟨RX6, "<init>", "()V"⟩
abbrev cX6_begin : ByteArray := prog_8_method_2_code
def yX6_begin : MethodName := ⟨RX6, "begin", "(II)V"⟩
abbrev cX6_refusal : ByteArray := prog_8_method_3_code
def yX6_refusal : MethodName := ⟨RX6, "refusal", "(III)I"⟩
abbrev cX6_put : ByteArray := prog_8_method_4_code
def yX6_put : MethodName := ⟨RX6, "put", "(II)V"⟩
def RX7 : String := "LetterSchool$Tape"
def TX7 : u_T := fun k => match k with
  | 0 => ("LetterSchool$Tape", "signs", "[B", true)
  | 1 => ("LetterSchool$Tape", "length", "I", false)
  | _ => ("LetterSchool$Tape", "place", "I", false)
def tyX7 : Nat → FieldType := fun k => match k with
  | 0 => .array .byte
  | 1 => .int
  | _ => .int
theorem nmX7 : ∀ a, a < 3 → ∀ b, b < 3 → a ≠ b → (TX7 a).2.1 ≠ (TX7 b).2.1 := by decide +kernel
theorem tyX7_ok : ∀ k, k < 3 → parseFieldDescriptor (TX7 k).2.2.1 = some (tyX7 k) := by decide +kernel
abbrev cX7_init : ByteArray := prog_9_method_1_code
def yX7_init : MethodName := ⟨RX7, "<init>", "()V"⟩
abbrev cX7_append : ByteArray := prog_9_method_2_code
def yX7_append : MethodName := ⟨RX7, "append", "(I)V"⟩
abbrev cX7_next : ByteArray := prog_9_method_3_code
def yX7_next : MethodName := ⟨RX7, "next", "()I"⟩
abbrev cX7_takes : ByteArray := prog_9_method_4_code
def yX7_takes : MethodName := ⟨RX7, "takes", "(I)Z"⟩
abbrev cX7_isDigit : ByteArray := prog_9_method_5_code
def yX7_isDigit : MethodName := ⟨RX7, "isDigit", "(I)Z"⟩
abbrev cX7_takeNumber : ByteArray := prog_9_method_6_code
def yX7_takeNumber : MethodName := ⟨RX7, "takeNumber", "(I)I"⟩
abbrev cX7_readEdition : ByteArray := prog_9_method_7_code
def yX7_readEdition : MethodName := ⟨RX7, "readEdition", "(LLetterSchool$Edition;)Z"⟩
abbrev cX7_readLesson : ByteArray := prog_9_method_8_code
def yX7_readLesson : MethodName := ⟨RX7, "readLesson", "(LLetterSchool$Edition;)Z"⟩
abbrev cX7_readCases : ByteArray := prog_9_method_9_code
def yX7_readCases : MethodName := ⟨RX7, "readCases", "(LLetterSchool$Edition;II)Z"⟩
abbrev cX7_readClaim : ByteArray := prog_9_method_10_code
def yX7_readClaim : MethodName := ⟨RX7, "readClaim", "(LLetterSchool$Edition;II)Z"⟩
abbrev cX7_readLeaning : ByteArray := prog_9_method_11_code
def yX7_readLeaning : MethodName := ⟨RX7, "readLeaning", "(LLetterSchool$Edition;I)Z"⟩
abbrev cX7_readFees : ByteArray := prog_9_method_12_code
def yX7_readFees : MethodName := ⟨RX7, "readFees", "(LLetterSchool$Fees;)Z"⟩
abbrev cX7_readFee : ByteArray := prog_9_method_13_code
def yX7_readFee : MethodName := ⟨RX7, "readFee", "(LLetterSchool$Fees;)Z"⟩
def RX8 : String := "LetterSchool$Thing"
def TX8 : u_T := fun k => match k with
  | 0 => ("LetterSchool$Thing", "pupil", "I", true)
  | 1 => ("LetterSchool$Thing", "name", "I", true)
  | 2 => ("LetterSchool$Thing", "lesson", "I", true)
  | 3 => ("LetterSchool$Thing", "firstSent", "I", true)
  | 4 => ("LetterSchool$Thing", "choices", "[B", true)
  | 5 => ("LetterSchool$Thing", "kind", "I", false)
  | 6 => ("LetterSchool$Thing", "sent", "I", false)
  | 7 => ("LetterSchool$Thing", "comes", "I", false)
  | 8 => ("LetterSchool$Thing", "tutor", "I", false)
  | 9 => ("LetterSchool$Thing", "given", "I", false)
  | 10 => ("LetterSchool$Thing", "again", "I", false)
  | 11 => ("LetterSchool$Thing", "marks", "I", false)
  | 12 => ("LetterSchool$Thing", "marked", "I", false)
  | 13 => ("LetterSchool$Thing", "secondTutor", "I", false)
  | _ => ("LetterSchool$Thing", "secondMarks", "I", false)
def tyX8 : Nat → FieldType := fun k => match k with
  | 0 => .int
  | 1 => .int
  | 2 => .int
  | 3 => .int
  | 4 => .array .byte
  | 5 => .int
  | 6 => .int
  | 7 => .int
  | 8 => .int
  | 9 => .int
  | 10 => .int
  | 11 => .int
  | 12 => .int
  | 13 => .int
  | _ => .int
theorem nmX8 : ∀ a, a < 15 → ∀ b, b < 15 → a ≠ b → (TX8 a).2.1 ≠ (TX8 b).2.1 := by decide +kernel
theorem tyX8_ok : ∀ k, k < 15 → parseFieldDescriptor (TX8 k).2.2.1 = some (tyX8 k) := by decide +kernel
abbrev cX8_init : ByteArray := prog_10_method_1_code
def yX8_init : MethodName := ⟨RX8, "<init>", "(IIII)V"⟩
abbrev cX8_isAnswer : ByteArray := prog_10_method_2_code
def yX8_isAnswer : MethodName := ⟨RX8, "isAnswer", "()Z"⟩
abbrev cX8_isOpenBy : ByteArray := prog_10_method_3_code
def yX8_isOpenBy : MethodName := ⟨RX8, "isOpenBy", "(I)Z"⟩
abbrev cX8_isGivenBy : ByteArray := prog_10_method_4_code
def yX8_isGivenBy : MethodName := ⟨RX8, "isGivenBy", "(I)Z"⟩
abbrev cX8_isMarkedByBoth : ByteArray := prog_10_method_5_code
def yX8_isMarkedByBoth : MethodName := ⟨RX8, "isMarkedByBoth", "(II)Z"⟩
def RX9 : String := "LetterSchool$Tutor"
def TX9 : u_T := fun k => match k with
  | 0 => ("LetterSchool$Tutor", "teaches", "I", true)
  | 1 => ("LetterSchool$Tutor", "pace", "I", true)
  | 2 => ("LetterSchool$Tutor", "kin", "I", false)
  | _ => ("LetterSchool$Tutor", "load", "I", false)
def tyX9 : Nat → FieldType := fun k => match k with
  | 0 => .int
  | 1 => .int
  | 2 => .int
  | _ => .int
theorem nmX9 : ∀ a, a < 4 → ∀ b, b < 4 → a ≠ b → (TX9 a).2.1 ≠ (TX9 b).2.1 := by decide +kernel
theorem tyX9_ok : ∀ k, k < 4 → parseFieldDescriptor (TX9 k).2.2.1 = some (tyX9 k) := by decide +kernel
abbrev cX9_init : ByteArray := prog_11_method_1_code
def yX9_init : MethodName := ⟨RX9, "<init>", "(II)V"⟩
abbrev cX9_mayMark : ByteArray := prog_11_method_2_code
def yX9_mayMark : MethodName := ⟨RX9, "mayMark", "(LLetterSchool$Thing;)Z"⟩
def RX10 : String := "LetterSchool$Way"
def TX10 : u_T := fun k => match k with
  | 0 => ("LetterSchool$Way", "steps", "[I", true)
  | 1 => ("LetterSchool$Way", "queue", "[I", true)
  | _ => ("LetterSchool$Way", "then", "[I", true)
def tyX10 : Nat → FieldType := fun k => match k with
  | 0 => .array .int
  | 1 => .array .int
  | _ => .array .int
theorem nmX10 : ∀ a, a < 3 → ∀ b, b < 3 → a ≠ b → (TX10 a).2.1 ≠ (TX10 b).2.1 := by decide +kernel
theorem tyX10_ok : ∀ k, k < 3 → parseFieldDescriptor (TX10 k).2.2.1 = some (tyX10 k) := by decide +kernel
abbrev cX10_init : ByteArray := prog_12_method_1_code
def yX10_init : MethodName := ⟨RX10, "<init>", "()V"⟩
abbrev cX10_shortest : ByteArray := prog_12_method_2_code
def yX10_shortest : MethodName := ⟨RX10, "shortest", "(LLetterSchool$Edition;[II)I"⟩
abbrev cX10_raise : ByteArray := prog_12_method_3_code
def yX10_raise : MethodName := ⟨RX10, "raise", "([II)V"⟩
abbrev cX10_reach : ByteArray := prog_12_method_4_code
def yX10_reach : MethodName := ⟨RX10, "reach", "(LLetterSchool$Edition;II)I"⟩
def RX11 : String := "LetterSchool"
def TX11 : u_T := fun k => match k with
  | 0 => ("LetterSchool", "tape", "LLetterSchool$Tape;", true)
  | 1 => ("LetterSchool", "editions", "[LLetterSchool$Edition;", true)
  | 2 => ("LetterSchool", "editionCount", "[I", true)
  | 3 => ("LetterSchool", "feesOf", "[LLetterSchool$Fees;", true)
  | 4 => ("LetterSchool", "draftEdition", "LLetterSchool$Edition;", false)
  | 5 => ("LetterSchool", "draftFees", "LLetterSchool$Fees;", false)
  | 6 => ("LetterSchool", "pupils", "[LLetterSchool$Pupil;", true)
  | 7 => ("LetterSchool", "pupilCount", "I", false)
  | 8 => ("LetterSchool", "tutors", "[LLetterSchool$Tutor;", true)
  | 9 => ("LetterSchool", "tutorCount", "I", false)
  | 10 => ("LetterSchool", "things", "[LLetterSchool$Thing;", true)
  | 11 => ("LetterSchool", "thingCount", "I", false)
  | 12 => ("LetterSchool", "posts", "[LLetterSchool$Post;", true)
  | 13 => ("LetterSchool", "ledger", "LLetterSchool$Ledger;", true)
  | 14 => ("LetterSchool", "keys", "[B", true)
  | 15 => ("LetterSchool", "doubtLimit", "I", false)
  | 16 => ("LetterSchool", "sheets", "[LLetterSchool$Sheet;", true)
  | 17 => ("LetterSchool", "sharing", "LLetterSchool$Sharing;", true)
  | 18 => ("LetterSchool", "way", "LLetterSchool$Way;", true)
  | _ => ("LetterSchool", "bests", "[I", true)
def tyX11 : Nat → FieldType := fun k => match k with
  | 0 => .object "LetterSchool$Tape"
  | 1 => .array (.object "LetterSchool$Edition")
  | 2 => .array .int
  | 3 => .array (.object "LetterSchool$Fees")
  | 4 => .object "LetterSchool$Edition"
  | 5 => .object "LetterSchool$Fees"
  | 6 => .array (.object "LetterSchool$Pupil")
  | 7 => .int
  | 8 => .array (.object "LetterSchool$Tutor")
  | 9 => .int
  | 10 => .array (.object "LetterSchool$Thing")
  | 11 => .int
  | 12 => .array (.object "LetterSchool$Post")
  | 13 => .object "LetterSchool$Ledger"
  | 14 => .array .byte
  | 15 => .int
  | 16 => .array (.object "LetterSchool$Sheet")
  | 17 => .object "LetterSchool$Sharing"
  | 18 => .object "LetterSchool$Way"
  | _ => .array .int
theorem nmX11 : ∀ a, a < 20 → ∀ b, b < 20 → a ≠ b → (TX11 a).2.1 ≠ (TX11 b).2.1 := by decide +kernel
theorem tyX11_ok : ∀ k, k < 20 → parseFieldDescriptor (TX11 k).2.2.1 = some (tyX11 k) := by decide +kernel
abbrev cX11_init : ByteArray := prog_1_method_1_code
def yX11_init : MethodName := ⟨RX11, "<init>", "()V"⟩
abbrev cX11_type : ByteArray := prog_1_method_2_code
def yX11_type : MethodName := ⟨RX11, "type", "(JI)I"⟩
abbrev cX11_edition : ByteArray := prog_1_method_3_code
def yX11_edition : MethodName := ⟨RX11, "edition", "(II)I"⟩
abbrev cX11_told : ByteArray := prog_1_method_4_code
def yX11_told : MethodName := ⟨RX11, "told", "(III)I"⟩
abbrev cX11_lesson : ByteArray := prog_1_method_5_code
def yX11_lesson : MethodName := ⟨RX11, "lesson", "(IIII)I"⟩
abbrev cX11_pupil : ByteArray := prog_1_method_6_code
def yX11_pupil : MethodName := ⟨RX11, "pupil", "(III)I"⟩
abbrev cX11_who : ByteArray := prog_1_method_7_code
def yX11_who : MethodName := ⟨RX11, "who", "(II)I"⟩
abbrev cX11_habit : ByteArray := prog_1_method_8_code
def yX11_habit : MethodName := ⟨RX11, "habit", "(II)I"⟩
abbrev cX11_best : ByteArray := prog_1_method_9_code
def yX11_best : MethodName := ⟨RX11, "best", "(III)I"⟩
abbrev cX11_may : ByteArray := prog_1_method_10_code
def yX11_may : MethodName := ⟨RX11, "may", "(II)I"⟩
abbrev cX11_lean : ByteArray := prog_1_method_11_code
def yX11_lean : MethodName := ⟨RX11, "lean", "(II)I"⟩
abbrev cX11_post : ByteArray := prog_1_method_12_code
def yX11_post : MethodName := ⟨RX11, "post", "(III)I"⟩
abbrev cX11_send : ByteArray := prog_1_method_13_code
def yX11_send : MethodName := ⟨RX11, "send", "(III)I"⟩
abbrev cX11_answer : ByteArray := prog_1_method_14_code
def yX11_answer : MethodName := ⟨RX11, "answer", "(II)I"⟩
abbrev cX11_give : ByteArray := prog_1_method_15_code
def yX11_give : MethodName := ⟨RX11, "give", "(III)I"⟩
abbrev cX11_mark : ByteArray := prog_1_method_16_code
def yX11_mark : MethodName := ⟨RX11, "mark", "(IIIII)I"⟩
abbrev cX11_again : ByteArray := prog_1_method_17_code
def yX11_again : MethodName := ⟨RX11, "again", "(II)I"⟩
abbrev cX11_second : ByteArray := prog_1_method_18_code
def yX11_second : MethodName := ⟨RX11, "second", "(IIIII)I"⟩
abbrev cX11_thing : ByteArray := prog_1_method_19_code
def yX11_thing : MethodName := ⟨RX11, "thing", "(II)I"⟩
abbrev cX11_marks : ByteArray := prog_1_method_20_code
def yX11_marks : MethodName := ⟨RX11, "marks", "(II)I"⟩
abbrev cX11_count : ByteArray := prog_1_method_21_code
def yX11_count : MethodName := ⟨RX11, "count", "(I)I"⟩
abbrev cX11_tutor : ByteArray := prog_1_method_22_code
def yX11_tutor : MethodName := ⟨RX11, "tutor", "(II)I"⟩
abbrev cX11_kin : ByteArray := prog_1_method_23_code
def yX11_kin : MethodName := ⟨RX11, "kin", "(II)I"⟩
abbrev cX11_load : ByteArray := prog_1_method_24_code
def yX11_load : MethodName := ⟨RX11, "load", "(I)I"⟩
abbrev cX11_wait : ByteArray := prog_1_method_25_code
def yX11_wait : MethodName := ⟨RX11, "wait", "(II)I"⟩
abbrev cX11_took : ByteArray := prog_1_method_26_code
def yX11_took : MethodName := ⟨RX11, "took", "(I)I"⟩
abbrev cX11_share : ByteArray := prog_1_method_27_code
def yX11_share : MethodName := ⟨RX11, "share", "(II)I"⟩
abbrev cX11_shareOf : ByteArray := prog_1_method_28_code
def yX11_shareOf : MethodName := ⟨RX11, "shareOf", "(II)I"⟩
abbrev cX11_offset : ByteArray := prog_1_method_29_code
def yX11_offset : MethodName := ⟨RX11, "offset", "(III)I"⟩
abbrev cX11_key : ByteArray := prog_1_method_30_code
def yX11_key : MethodName := ⟨RX11, "key", "(III)I"⟩
abbrev cX11_choose : ByteArray := prog_1_method_31_code
def yX11_choose : MethodName := ⟨RX11, "choose", "(III)I"⟩
abbrev cX11_like : ByteArray := prog_1_method_32_code
def yX11_like : MethodName := ⟨RX11, "like", "(II)I"⟩
abbrev cX11_limit : ByteArray := prog_1_method_33_code
def yX11_limit : MethodName := ⟨RX11, "limit", "(I)I"⟩
abbrev cX11_doubted : ByteArray := prog_1_method_34_code
def yX11_doubted : MethodName := ⟨RX11, "doubted", "(I)I"⟩
abbrev cX11_fees : ByteArray := prog_1_method_35_code
def yX11_fees : MethodName := ⟨RX11, "fees", "(I)I"⟩
abbrev cX11_pay : ByteArray := prog_1_method_36_code
def yX11_pay : MethodName := ⟨RX11, "pay", "(III)I"⟩
abbrev cX11_due : ByteArray := prog_1_method_37_code
def yX11_due : MethodName := ⟨RX11, "due", "(II)I"⟩
abbrev cX11_leave : ByteArray := prog_1_method_38_code
def yX11_leave : MethodName := ⟨RX11, "leave", "(II)I"⟩
abbrev cX11_move : ByteArray := prog_1_method_39_code
def yX11_move : MethodName := ⟨RX11, "move", "(III)I"⟩
abbrev cX11_sheet : ByteArray := prog_1_method_40_code
def yX11_sheet : MethodName := ⟨RX11, "sheet", "(III)I"⟩
abbrev cX11_drop : ByteArray := prog_1_method_41_code
def yX11_drop : MethodName := ⟨RX11, "drop", "(I)I"⟩
abbrev cX11_item : ByteArray := prog_1_method_42_code
def yX11_item : MethodName := ⟨RX11, "item", "(IIII)I"⟩
abbrev cX11_choices : ByteArray := prog_1_method_43_code
def yX11_choices : MethodName := ⟨RX11, "choices", "(IIIII)I"⟩
abbrev cX11_isIn : ByteArray := prog_1_method_44_code
def yX11_isIn : MethodName := ⟨RX11, "isIn", "(II)Z"⟩
abbrev cX11_isDay : ByteArray := prog_1_method_45_code
def yX11_isDay : MethodName := ⟨RX11, "isDay", "(I)Z"⟩
abbrev cX11_areParts : ByteArray := prog_1_method_46_code
def yX11_areParts : MethodName := ⟨RX11, "areParts", "(III)Z"⟩
abbrev cX11_weigh : ByteArray := prog_1_method_47_code
def yX11_weigh : MethodName := ⟨RX11, "weigh", "(III)I"⟩
abbrev cX11_cutUp : ByteArray := prog_1_method_48_code
def yX11_cutUp : MethodName := ⟨RX11, "cutUp", "(II)I"⟩
abbrev cX11_pupilAt : ByteArray := prog_1_method_49_code
def yX11_pupilAt : MethodName := ⟨RX11, "pupilAt", "(I)LLetterSchool$Pupil;"⟩
abbrev cX11_tutorAt : ByteArray := prog_1_method_50_code
def yX11_tutorAt : MethodName := ⟨RX11, "tutorAt", "(I)LLetterSchool$Tutor;"⟩
abbrev cX11_thingAt : ByteArray := prog_1_method_51_code
def yX11_thingAt : MethodName := ⟨RX11, "thingAt", "(I)LLetterSchool$Thing;"⟩
abbrev cX11_editionAt : ByteArray := prog_1_method_52_code
def yX11_editionAt : MethodName := ⟨RX11, "editionAt", "(II)LLetterSchool$Edition;"⟩
abbrev cX11_latestFrom : ByteArray := prog_1_method_53_code
def yX11_latestFrom : MethodName := ⟨RX11, "latestFrom", "(I)I"⟩
abbrev cX11_inForce : ByteArray := prog_1_method_54_code
def yX11_inForce : MethodName := ⟨RX11, "inForce", "(II)I"⟩
abbrev cX11_bestByName : ByteArray := prog_1_method_55_code
def yX11_bestByName : MethodName := ⟨RX11, "bestByName", "(III)I"⟩
abbrev cX11_fillBests : ByteArray := prog_1_method_56_code
def yX11_fillBests : MethodName := ⟨RX11, "fillBests", "(ILLetterSchool$Edition;)V"⟩
abbrev cX11_carry : ByteArray := prog_1_method_57_code
def yX11_carry : MethodName := ⟨RX11, "carry", "(LLetterSchool$Thing;LLetterSchool$Pupil;I)I"⟩
abbrev cX11_unload : ByteArray := prog_1_method_58_code
def yX11_unload : MethodName := ⟨RX11, "unload", "(LLetterSchool$Thing;)V"⟩
abbrev cX11_knownOn : ByteArray := prog_1_method_59_code
def yX11_knownOn : MethodName := ⟨RX11, "knownOn", "(LLetterSchool$Thing;)I"⟩
abbrev cX11_shareBy : ByteArray := prog_1_method_60_code
def yX11_shareBy : MethodName := ⟨RX11, "shareBy", "(I)V"⟩
abbrev cX11_tutorsFor : ByteArray := prog_1_method_61_code
def yX11_tutorsFor : MethodName := ⟨RX11, "tutorsFor", "(LLetterSchool$Thing;)I"⟩
abbrev cX11_areComparable : ByteArray := prog_1_method_62_code
def yX11_areComparable : MethodName := ⟨RX11, "areComparable", "(LLetterSchool$Thing;LLetterSchool$Thing;)Z"⟩
abbrev cX11_likeness : ByteArray := prog_1_method_63_code
def yX11_likeness : MethodName := ⟨RX11, "likeness", "(LLetterSchool$Thing;LLetterSchool$Thing;)I"⟩
abbrev cX11_isDoubted : ByteArray := prog_1_method_64_code
def yX11_isDoubted : MethodName := ⟨RX11, "isDoubted", "(LLetterSchool$Thing;LLetterSchool$Thing;)Z"⟩
def RX12 : String := "LetterSchoolModel"
def TX12 : u_T := fun k => match k with
  | 0 => ("LetterSchoolModel", "tape", "[I", true)
  | 1 => ("LetterSchoolModel", "taped", "I", false)
  | 2 => ("LetterSchoolModel", "at", "I", false)
  | 3 => ("LetterSchoolModel", "wrong", "Z", false)
  | 4 => ("LetterSchoolModel", "readNames", "[I", true)
  | 5 => ("LetterSchoolModel", "readMarks", "[I", true)
  | 6 => ("LetterSchoolModel", "readFrom", "[I", true)
  | 7 => ("LetterSchoolModel", "readTo", "[I", true)
  | 8 => ("LetterSchoolModel", "codes", "[I", true)
  | 9 => ("LetterSchoolModel", "codeMany", "I", false)
  | 10 => ("LetterSchoolModel", "readLessons", "I", false)
  | 11 => ("LetterSchoolModel", "readUsed", "I", false)
  | 12 => ("LetterSchoolModel", "readMany", "I", false)
  | 13 => ("LetterSchoolModel", "waiting", "[I", true)
  | 14 => ("LetterSchoolModel", "waits", "I", false)
  | 15 => ("LetterSchoolModel", "editionMany", "[I", true)
  | 16 => ("LetterSchoolModel", "editionFrom", "[I", true)
  | 17 => ("LetterSchoolModel", "editionLessons", "[I", true)
  | 18 => ("LetterSchoolModel", "names", "[I", true)
  | 19 => ("LetterSchoolModel", "passes", "[I", true)
  | 20 => ("LetterSchoolModel", "rowFrom", "[I", true)
  | 21 => ("LetterSchoolModel", "rowTo", "[I", true)
  | 22 => ("LetterSchoolModel", "rows", "[I", true)
  | 23 => ("LetterSchoolModel", "pupils", "I", false)
  | 24 => ("LetterSchoolModel", "places", "[I", true)
  | 25 => ("LetterSchoolModel", "editions", "[I", true)
  | 26 => ("LetterSchoolModel", "begins", "[I", true)
  | 27 => ("LetterSchoolModel", "habits", "[I", true)
  | 28 => ("LetterSchoolModel", "left", "[I", true)
  | 29 => ("LetterSchoolModel", "paidAll", "[I", true)
  | 30 => ("LetterSchoolModel", "paidOn", "[I", true)
  | 31 => ("LetterSchoolModel", "bests", "[I", true)
  | 32 => ("LetterSchoolModel", "stack", "[Z", true)
  | 33 => ("LetterSchoolModel", "far", "[I", true)
  | 34 => ("LetterSchoolModel", "wave", "[I", true)
  | 35 => ("LetterSchoolModel", "postDays", "[I", true)
  | 36 => ("LetterSchoolModel", "postEach", "[I", true)
  | 37 => ("LetterSchoolModel", "postMany", "[I", true)
  | 38 => ("LetterSchoolModel", "things", "I", false)
  | 39 => ("LetterSchoolModel", "kinds", "[I", true)
  | 40 => ("LetterSchoolModel", "whose", "[I", true)
  | 41 => ("LetterSchoolModel", "named", "[I", true)
  | 42 => ("LetterSchoolModel", "lessons", "[I", true)
  | 43 => ("LetterSchoolModel", "firstSent", "[I", true)
  | 44 => ("LetterSchoolModel", "sent", "[I", true)
  | 45 => ("LetterSchoolModel", "comes", "[I", true)
  | 46 => ("LetterSchoolModel", "tutorOf", "[I", true)
  | 47 => ("LetterSchoolModel", "givenOn", "[I", true)
  | 48 => ("LetterSchoolModel", "agains", "[I", true)
  | 49 => ("LetterSchoolModel", "marks", "[I", true)
  | 50 => ("LetterSchoolModel", "markedOn", "[I", true)
  | 51 => ("LetterSchoolModel", "secondTutor", "[I", true)
  | 52 => ("LetterSchoolModel", "secondMarks", "[I", true)
  | 53 => ("LetterSchoolModel", "rowsOf", "[I", true)
  | 54 => ("LetterSchoolModel", "tutors", "I", false)
  | 55 => ("LetterSchoolModel", "teaches", "[I", true)
  | 56 => ("LetterSchoolModel", "paces", "[I", true)
  | 57 => ("LetterSchoolModel", "kin", "[I", true)
  | 58 => ("LetterSchoolModel", "loads", "[I", true)
  | 59 => ("LetterSchoolModel", "shared", "I", false)
  | 60 => ("LetterSchoolModel", "sharedThings", "[I", true)
  | 61 => ("LetterSchoolModel", "tried", "[I", true)
  | 62 => ("LetterSchoolModel", "bestTutors", "[I", true)
  | 63 => ("LetterSchoolModel", "more", "[I", true)
  | 64 => ("LetterSchoolModel", "bestMany", "I", false)
  | 65 => ("LetterSchoolModel", "bestSum", "I", false)
  | 66 => ("LetterSchoolModel", "triedMany", "I", false)
  | 67 => ("LetterSchoolModel", "triedSum", "I", false)
  | 68 => ("LetterSchoolModel", "keys", "[I", true)
  | 69 => ("LetterSchoolModel", "limit", "I", false)
  | 70 => ("LetterSchoolModel", "partMany", "[I", true)
  | 71 => ("LetterSchoolModel", "partDays", "[I", true)
  | 72 => ("LetterSchoolModel", "partPence", "[I", true)
  | 73 => ("LetterSchoolModel", "backMany", "[I", true)
  | 74 => ("LetterSchoolModel", "backDays", "[I", true)
  | 75 => ("LetterSchoolModel", "backParts", "[I", true)
  | 76 => ("LetterSchoolModel", "feeKinds", "[I", true)
  | 77 => ("LetterSchoolModel", "feeDays", "[I", true)
  | 78 => ("LetterSchoolModel", "feeNumbers", "[I", true)
  | 79 => ("LetterSchoolModel", "lanes", "[I", true)
  | 80 => ("LetterSchoolModel", "sizes", "[I", true)
  | _ => ("LetterSchoolModel", "items", "[I", true)
def tyX12 : Nat → FieldType := fun k => match k with
  | 0 => .array .int
  | 1 => .int
  | 2 => .int
  | 3 => .boolean
  | 4 => .array .int
  | 5 => .array .int
  | 6 => .array .int
  | 7 => .array .int
  | 8 => .array .int
  | 9 => .int
  | 10 => .int
  | 11 => .int
  | 12 => .int
  | 13 => .array .int
  | 14 => .int
  | 15 => .array .int
  | 16 => .array .int
  | 17 => .array .int
  | 18 => .array .int
  | 19 => .array .int
  | 20 => .array .int
  | 21 => .array .int
  | 22 => .array .int
  | 23 => .int
  | 24 => .array .int
  | 25 => .array .int
  | 26 => .array .int
  | 27 => .array .int
  | 28 => .array .int
  | 29 => .array .int
  | 30 => .array .int
  | 31 => .array .int
  | 32 => .array .boolean
  | 33 => .array .int
  | 34 => .array .int
  | 35 => .array .int
  | 36 => .array .int
  | 37 => .array .int
  | 38 => .int
  | 39 => .array .int
  | 40 => .array .int
  | 41 => .array .int
  | 42 => .array .int
  | 43 => .array .int
  | 44 => .array .int
  | 45 => .array .int
  | 46 => .array .int
  | 47 => .array .int
  | 48 => .array .int
  | 49 => .array .int
  | 50 => .array .int
  | 51 => .array .int
  | 52 => .array .int
  | 53 => .array .int
  | 54 => .int
  | 55 => .array .int
  | 56 => .array .int
  | 57 => .array .int
  | 58 => .array .int
  | 59 => .int
  | 60 => .array .int
  | 61 => .array .int
  | 62 => .array .int
  | 63 => .array .int
  | 64 => .int
  | 65 => .int
  | 66 => .int
  | 67 => .int
  | 68 => .array .int
  | 69 => .int
  | 70 => .array .int
  | 71 => .array .int
  | 72 => .array .int
  | 73 => .array .int
  | 74 => .array .int
  | 75 => .array .int
  | 76 => .array .int
  | 77 => .array .int
  | 78 => .array .int
  | 79 => .array .int
  | 80 => .array .int
  | _ => .array .int
theorem nmX12 : ∀ a, a < 82 → ∀ b, b < 82 → a ≠ b → (TX12 a).2.1 ≠ (TX12 b).2.1 := by decide +kernel
theorem tyX12_ok : ∀ k, k < 82 → parseFieldDescriptor (TX12 k).2.2.1 = some (tyX12 k) := by decide +kernel
abbrev cX12_in : ByteArray := prog_14_method_1_code
def yX12_in : MethodName := ⟨RX12, "in", "(JJJ)Z"⟩
abbrev cX12_init : ByteArray := prog_14_method_2_code
def yX12_init : MethodName := ⟨RX12, "<init>", "()V"⟩
abbrev cX12_isDay : ByteArray := prog_14_method_3_code
def yX12_isDay : MethodName := ⟨RX12, "isDay", "(I)Z"⟩
abbrev cX12_type : ByteArray := prog_14_method_4_code
def yX12_type : MethodName := ⟨RX12, "type", "(JI)I"⟩
abbrev cX12_next : ByteArray := prog_14_method_5_code
def yX12_next : MethodName := ⟨RX12, "next", "()I"⟩
abbrev cX12_fail : ByteArray := prog_14_method_6_code
def yX12_fail : MethodName := ⟨RX12, "fail", "(I)V"⟩
abbrev cX12_takes : ByteArray := prog_14_method_7_code
def yX12_takes : MethodName := ⟨RX12, "takes", "(I)Z"⟩
abbrev cX12_need : ByteArray := prog_14_method_8_code
def yX12_need : MethodName := ⟨RX12, "need", "(I)V"⟩
abbrev cX12_number : ByteArray := prog_14_method_9_code
def yX12_number : MethodName := ⟨RX12, "number", "(I)I"⟩
abbrev cX12_emit : ByteArray := prog_14_method_10_code
def yX12_emit : MethodName := ⟨RX12, "emit", "(I)V"⟩
abbrev cX12_turnIfTold : ByteArray := prog_14_method_11_code
def yX12_turnIfTold : MethodName := ⟨RX12, "turnIfTold", "()V"⟩
abbrev cX12_comeOut : ByteArray := prog_14_method_12_code
def yX12_comeOut : MethodName := ⟨RX12, "comeOut", "(I)V"⟩
abbrev cX12_readClaim : ByteArray := prog_14_method_13_code
def yX12_readClaim : MethodName := ⟨RX12, "readClaim", "(I)I"⟩
abbrev cX12_readLeans : ByteArray := prog_14_method_14_code
def yX12_readLeans : MethodName := ⟨RX12, "readLeans", "()V"⟩
abbrev cX12_readLesson : ByteArray := prog_14_method_15_code
def yX12_readLesson : MethodName := ⟨RX12, "readLesson", "()V"⟩
abbrev cX12_readEdition : ByteArray := prog_14_method_16_code
def yX12_readEdition : MethodName := ⟨RX12, "readEdition", "()V"⟩
abbrev cX12_isCourse : ByteArray := prog_14_method_17_code
def yX12_isCourse : MethodName := ⟨RX12, "isCourse", "(I)Z"⟩
abbrev cX12_edition : ByteArray := prog_14_method_18_code
def yX12_edition : MethodName := ⟨RX12, "edition", "(II)I"⟩
abbrev cX12_ones : ByteArray := prog_14_method_19_code
def yX12_ones : MethodName := ⟨RX12, "ones", "(I)I"⟩
abbrev cX12_isEdition : ByteArray := prog_14_method_20_code
def yX12_isEdition : MethodName := ⟨RX12, "isEdition", "(II)Z"⟩
abbrev cX12_told : ByteArray := prog_14_method_21_code
def yX12_told : MethodName := ⟨RX12, "told", "(III)I"⟩
abbrev cX12_hasLesson : ByteArray := prog_14_method_22_code
def yX12_hasLesson : MethodName := ⟨RX12, "hasLesson", "(II)Z"⟩
abbrev cX12_lesson : ByteArray := prog_14_method_23_code
def yX12_lesson : MethodName := ⟨RX12, "lesson", "(IIII)I"⟩
abbrev cX12_forceOn : ByteArray := prog_14_method_24_code
def yX12_forceOn : MethodName := ⟨RX12, "forceOn", "(II)I"⟩
abbrev cX12_pupil : ByteArray := prog_14_method_25_code
def yX12_pupil : MethodName := ⟨RX12, "pupil", "(III)I"⟩
abbrev cX12_isPupil : ByteArray := prog_14_method_26_code
def yX12_isPupil : MethodName := ⟨RX12, "isPupil", "(I)Z"⟩
abbrev cX12_hasLeft : ByteArray := prog_14_method_27_code
def yX12_hasLeft : MethodName := ⟨RX12, "hasLeft", "(II)Z"⟩
abbrev cX12_who : ByteArray := prog_14_method_28_code
def yX12_who : MethodName := ⟨RX12, "who", "(II)I"⟩
abbrev cX12_habit : ByteArray := prog_14_method_29_code
def yX12_habit : MethodName := ⟨RX12, "habit", "(II)I"⟩
abbrev cX12_findBests : ByteArray := prog_14_method_30_code
def yX12_findBests : MethodName := ⟨RX12, "findBests", "(II)V"⟩
abbrev cX12_bestOf : ByteArray := prog_14_method_31_code
def yX12_bestOf : MethodName := ⟨RX12, "bestOf", "(II)I"⟩
abbrev cX12_isPassed : ByteArray := prog_14_method_32_code
def yX12_isPassed : MethodName := ⟨RX12, "isPassed", "(II)Z"⟩
abbrev cX12_holds : ByteArray := prog_14_method_33_code
def yX12_holds : MethodName := ⟨RX12, "holds", "(II)Z"⟩
abbrev cX12_bitsOf : ByteArray := prog_14_method_34_code
def yX12_bitsOf : MethodName := ⟨RX12, "bitsOf", "(II)I"⟩
abbrev cX12_best : ByteArray := prog_14_method_35_code
def yX12_best : MethodName := ⟨RX12, "best", "(III)I"⟩
abbrev cX12_may : ByteArray := prog_14_method_36_code
def yX12_may : MethodName := ⟨RX12, "may", "(II)I"⟩
abbrev cX12_findWith : ByteArray := prog_14_method_37_code
def yX12_findWith : MethodName := ⟨RX12, "findWith", "(II)V"⟩
abbrev cX12_lean : ByteArray := prog_14_method_38_code
def yX12_lean : MethodName := ⟨RX12, "lean", "(II)I"⟩
abbrev cX12_post : ByteArray := prog_14_method_39_code
def yX12_post : MethodName := ⟨RX12, "post", "(III)I"⟩
abbrev cX12_goes : ByteArray := prog_14_method_40_code
def yX12_goes : MethodName := ⟨RX12, "goes", "(III)V"⟩
abbrev cX12_send : ByteArray := prog_14_method_41_code
def yX12_send : MethodName := ⟨RX12, "send", "(III)I"⟩
abbrev cX12_isThing : ByteArray := prog_14_method_42_code
def yX12_isThing : MethodName := ⟨RX12, "isThing", "(I)Z"⟩
abbrev cX12_answer : ByteArray := prog_14_method_43_code
def yX12_answer : MethodName := ⟨RX12, "answer", "(II)I"⟩
abbrev cX12_isAnswer : ByteArray := prog_14_method_44_code
def yX12_isAnswer : MethodName := ⟨RX12, "isAnswer", "(I)Z"⟩
abbrev cX12_suits : ByteArray := prog_14_method_45_code
def yX12_suits : MethodName := ⟨RX12, "suits", "(II)Z"⟩
abbrev cX12_give : ByteArray := prog_14_method_46_code
def yX12_give : MethodName := ⟨RX12, "give", "(III)I"⟩
abbrev cX12_isParts : ByteArray := prog_14_method_47_code
def yX12_isParts : MethodName := ⟨RX12, "isParts", "(III)Z"⟩
abbrev cX12_isGiven : ByteArray := prog_14_method_48_code
def yX12_isGiven : MethodName := ⟨RX12, "isGiven", "(II)Z"⟩
abbrev cX12_mark : ByteArray := prog_14_method_49_code
def yX12_mark : MethodName := ⟨RX12, "mark", "(IIIII)I"⟩
abbrev cX12_again : ByteArray := prog_14_method_50_code
def yX12_again : MethodName := ⟨RX12, "again", "(II)I"⟩
abbrev cX12_second : ByteArray := prog_14_method_51_code
def yX12_second : MethodName := ⟨RX12, "second", "(IIIII)I"⟩
abbrev cX12_thing : ByteArray := prog_14_method_52_code
def yX12_thing : MethodName := ⟨RX12, "thing", "(II)I"⟩
abbrev cX12_knownOn : ByteArray := prog_14_method_53_code
def yX12_knownOn : MethodName := ⟨RX12, "knownOn", "(I)I"⟩
abbrev cX12_marks : ByteArray := prog_14_method_54_code
def yX12_marks : MethodName := ⟨RX12, "marks", "(II)I"⟩
abbrev cX12_count : ByteArray := prog_14_method_55_code
def yX12_count : MethodName := ⟨RX12, "count", "(I)I"⟩
abbrev cX12_tutor : ByteArray := prog_14_method_56_code
def yX12_tutor : MethodName := ⟨RX12, "tutor", "(II)I"⟩
abbrev cX12_isTutor : ByteArray := prog_14_method_57_code
def yX12_isTutor : MethodName := ⟨RX12, "isTutor", "(I)Z"⟩
abbrev cX12_kin : ByteArray := prog_14_method_58_code
def yX12_kin : MethodName := ⟨RX12, "kin", "(II)I"⟩
abbrev cX12_load : ByteArray := prog_14_method_59_code
def yX12_load : MethodName := ⟨RX12, "load", "(I)I"⟩
abbrev cX12_daysFor : ByteArray := prog_14_method_60_code
def yX12_daysFor : MethodName := ⟨RX12, "daysFor", "(II)I"⟩
abbrev cX12_wait : ByteArray := prog_14_method_61_code
def yX12_wait : MethodName := ⟨RX12, "wait", "(II)I"⟩
abbrev cX12_took : ByteArray := prog_14_method_62_code
def yX12_took : MethodName := ⟨RX12, "took", "(I)I"⟩
abbrev cX12_look : ByteArray := prog_14_method_63_code
def yX12_look : MethodName := ⟨RX12, "look", "()V"⟩
abbrev cX12_step : ByteArray := prog_14_method_64_code
def yX12_step : MethodName := ⟨RX12, "step", "()Z"⟩
abbrev cX12_findShare : ByteArray := prog_14_method_65_code
def yX12_findShare : MethodName := ⟨RX12, "findShare", "(I)V"⟩
abbrev cX12_share : ByteArray := prog_14_method_66_code
def yX12_share : MethodName := ⟨RX12, "share", "(II)I"⟩
abbrev cX12_shareOf : ByteArray := prog_14_method_67_code
def yX12_shareOf : MethodName := ⟨RX12, "shareOf", "(II)I"⟩
abbrev cX12_offset : ByteArray := prog_14_method_68_code
def yX12_offset : MethodName := ⟨RX12, "offset", "(III)I"⟩
abbrev cX12_key : ByteArray := prog_14_method_69_code
def yX12_key : MethodName := ⟨RX12, "key", "(III)I"⟩
abbrev cX12_choose : ByteArray := prog_14_method_70_code
def yX12_choose : MethodName := ⟨RX12, "choose", "(III)I"⟩
abbrev cX12_likeOf : ByteArray := prog_14_method_71_code
def yX12_likeOf : MethodName := ⟨RX12, "likeOf", "(II)I"⟩
abbrev cX12_like : ByteArray := prog_14_method_72_code
def yX12_like : MethodName := ⟨RX12, "like", "(II)I"⟩
abbrev cX12_limit : ByteArray := prog_14_method_73_code
def yX12_limit : MethodName := ⟨RX12, "limit", "(I)I"⟩
abbrev cX12_doubted : ByteArray := prog_14_method_74_code
def yX12_doubted : MethodName := ⟨RX12, "doubted", "(I)I"⟩
abbrev cX12_readFees : ByteArray := prog_14_method_75_code
def yX12_readFees : MethodName := ⟨RX12, "readFees", "()I"⟩
abbrev cX12_fees : ByteArray := prog_14_method_76_code
def yX12_fees : MethodName := ⟨RX12, "fees", "(I)I"⟩
abbrev cX12_pay : ByteArray := prog_14_method_77_code
def yX12_pay : MethodName := ⟨RX12, "pay", "(III)I"⟩
abbrev cX12_paidBy : ByteArray := prog_14_method_78_code
def yX12_paidBy : MethodName := ⟨RX12, "paidBy", "(II)J"⟩
abbrev cX12_due : ByteArray := prog_14_method_79_code
def yX12_due : MethodName := ⟨RX12, "due", "(II)I"⟩
abbrev cX12_leave : ByteArray := prog_14_method_80_code
def yX12_leave : MethodName := ⟨RX12, "leave", "(II)I"⟩
abbrev cX12_move : ByteArray := prog_14_method_81_code
def yX12_move : MethodName := ⟨RX12, "move", "(III)I"⟩
abbrev cX12_isSheet : ByteArray := prog_14_method_82_code
def yX12_isSheet : MethodName := ⟨RX12, "isSheet", "(II)Z"⟩
abbrev cX12_sheet : ByteArray := prog_14_method_83_code
def yX12_sheet : MethodName := ⟨RX12, "sheet", "(III)I"⟩
abbrev cX12_drop : ByteArray := prog_14_method_84_code
def yX12_drop : MethodName := ⟨RX12, "drop", "(I)I"⟩
abbrev cX12_against : ByteArray := prog_14_method_85_code
def yX12_against : MethodName := ⟨RX12, "against", "(IIII)I"⟩
abbrev cX12_item : ByteArray := prog_14_method_86_code
def yX12_item : MethodName := ⟨RX12, "item", "(IIII)I"⟩
abbrev cX12_choices : ByteArray := prog_14_method_87_code
def yX12_choices : MethodName := ⟨RX12, "choices", "(IIIII)I"⟩
def RJ6 : String := "java/lang/Integer"
abbrev cJ6_bitCount_0f7a4 : ByteArray := prog_15_method_49_code
def yJ6_bitCount_0f7a4 : MethodName := ⟨RJ6, "bitCount", "(I)I"⟩
def RJ9 : String := "java/lang/Math"
abbrev cJ9_max_7cf53 : ByteArray := prog_16_method_65_code
def yJ9_max_7cf53 : MethodName := ⟨RJ9, "max", "(II)I"⟩
abbrev cJ9_min_7cf53 : ByteArray := prog_16_method_69_code
def yJ9_min_7cf53 : MethodName := ⟨RJ9, "min", "(II)I"⟩
def RJ10 : String := "java/lang/System"
def RJ7 : String := "java/util/Arrays"
abbrev cJ7_fill_53178 : ByteArray := prog_18_method_103_code
def yJ7_fill_53178 : MethodName := ⟨RJ7, "fill", "([II)V"⟩
def RL : String := "LetterSchoolLaw"
abbrev cL_law : ByteArray := code
def yL_law : MethodName := ⟨RL, "law", "([I)Z"⟩
abbrev vwCl : List vw_C := [(RX0, TX0, 9), (RX1, TX1, 4), (RX2, TX2, 4), (RX3, TX3, 3), (RX4, TX4, 7), (RX5, TX5, 12), (RX6, TX6, 3), (RX7, TX7, 3), (RX8, TX8, 15), (RX9, TX9, 4), (RX10, TX10, 3), (RX11, TX11, 20), (RX12, TX12, 82)]
def gW : List Cond := lw_tbl.filter goodWord
theorem tin_0 {w : Cond} (h : w ∈ k2_sels lw_privs) (hg : goodWord w = true) : w ∈ gW := List.mem_filter.mpr ⟨List.mem_append_left _ h, hg⟩
theorem tbl_1 {w : Cond} (h : w ∈ tables_1_1) : w ∈ lw_tbl := List.mem_append_right _ (List.mem_append_left _ h)
theorem tin_1 {w : Cond} (h : w ∈ tables_1_1) (hg : goodWord w = true) : w ∈ gW := List.mem_filter.mpr ⟨tbl_1 h, hg⟩
theorem tbl_2 {w : Cond} (h : w ∈ tables_1_2) : w ∈ lw_tbl := List.mem_append_right _ (List.mem_append_right _ (List.mem_append_left _ h))
theorem tin_2 {w : Cond} (h : w ∈ tables_1_2) (hg : goodWord w = true) : w ∈ gW := List.mem_filter.mpr ⟨tbl_2 h, hg⟩
theorem tbl_3 {w : Cond} (h : w ∈ tables_1_3) : w ∈ lw_tbl := List.mem_append_right _ (List.mem_append_right _ (List.mem_append_right _ (List.mem_append_left _ h)))
theorem tin_3 {w : Cond} (h : w ∈ tables_1_3) (hg : goodWord w = true) : w ∈ gW := List.mem_filter.mpr ⟨tbl_3 h, hg⟩
theorem tbl_4 {w : Cond} (h : w ∈ tables_1_4) : w ∈ lw_tbl := List.mem_append_right _ (List.mem_append_right _ (List.mem_append_right _ (List.mem_append_right _ (List.mem_append_left _ h))))
theorem tin_4 {w : Cond} (h : w ∈ tables_1_4) (hg : goodWord w = true) : w ∈ gW := List.mem_filter.mpr ⟨tbl_4 h, hg⟩
theorem tbl_5 {w : Cond} (h : w ∈ tables_1_5) : w ∈ lw_tbl := List.mem_append_right _ (List.mem_append_right _ (List.mem_append_right _ (List.mem_append_right _ (List.mem_append_right _ (List.mem_append_left _ h)))))
theorem tin_5 {w : Cond} (h : w ∈ tables_1_5) (hg : goodWord w = true) : w ∈ gW := List.mem_filter.mpr ⟨tbl_5 h, hg⟩
theorem tbl_6 {w : Cond} (h : w ∈ tables_1_6) : w ∈ lw_tbl := List.mem_append_right _ (List.mem_append_right _ (List.mem_append_right _ (List.mem_append_right _ (List.mem_append_right _ (List.mem_append_right _ (List.mem_append_left _ h))))))
theorem tin_6 {w : Cond} (h : w ∈ tables_1_6) (hg : goodWord w = true) : w ∈ gW := List.mem_filter.mpr ⟨tbl_6 h, hg⟩
theorem tbl_7 {w : Cond} (h : w ∈ tables_1_7) : w ∈ lw_tbl := List.mem_append_right _ (List.mem_append_right _ (List.mem_append_right _ (List.mem_append_right _ (List.mem_append_right _ (List.mem_append_right _ (List.mem_append_right _ (h)))))))
theorem tin_7 {w : Cond} (h : w ∈ tables_1_7) (hg : goodWord w = true) : w ∈ gW := List.mem_filter.mpr ⟨tbl_7 h, hg⟩
theorem gm_0 : (Cond.selects "LetterSchool" ⟨"LetterSchool", "latestFrom", "(I)I"⟩ ⟨"LetterSchool", "latestFrom", "(I)I"⟩) ∈ gW := tin_0 (List.mem_of_getElem? (i := 0) rfl) rfl
theorem gm_1 : (Cond.selects "LetterSchool" ⟨"LetterSchool", "editionAt", "(II)LLetterSchool$Edition;"⟩ ⟨"LetterSchool", "editionAt", "(II)LLetterSchool$Edition;"⟩) ∈ gW := tin_0 (List.mem_of_getElem? (i := 1) rfl) rfl
theorem gm_2 : (Cond.selects "LetterSchool$Tape" ⟨"LetterSchool$Tape", "readLesson", "(LLetterSchool$Edition;)Z"⟩ ⟨"LetterSchool$Tape", "readLesson", "(LLetterSchool$Edition;)Z"⟩) ∈ gW := tin_0 (List.mem_of_getElem? (i := 2) rfl) rfl
theorem gm_3 : (Cond.selects "LetterSchool$Tape" ⟨"LetterSchool$Tape", "next", "()I"⟩ ⟨"LetterSchool$Tape", "next", "()I"⟩) ∈ gW := tin_0 (List.mem_of_getElem? (i := 3) rfl) rfl
theorem gm_4 : (Cond.selects "LetterSchool$Tape" ⟨"LetterSchool$Tape", "takes", "(I)Z"⟩ ⟨"LetterSchool$Tape", "takes", "(I)Z"⟩) ∈ gW := tin_0 (List.mem_of_getElem? (i := 4) rfl) rfl
theorem gm_5 : (Cond.selects "LetterSchool$Tape" ⟨"LetterSchool$Tape", "takeNumber", "(I)I"⟩ ⟨"LetterSchool$Tape", "takeNumber", "(I)I"⟩) ∈ gW := tin_0 (List.mem_of_getElem? (i := 5) rfl) rfl
theorem gm_6 : (Cond.selects "LetterSchool$Tape" ⟨"LetterSchool$Tape", "readCases", "(LLetterSchool$Edition;II)Z"⟩ ⟨"LetterSchool$Tape", "readCases", "(LLetterSchool$Edition;II)Z"⟩) ∈ gW := tin_0 (List.mem_of_getElem? (i := 6) rfl) rfl
theorem gm_7 : (Cond.selects "LetterSchool$Tape" ⟨"LetterSchool$Tape", "readClaim", "(LLetterSchool$Edition;II)Z"⟩ ⟨"LetterSchool$Tape", "readClaim", "(LLetterSchool$Edition;II)Z"⟩) ∈ gW := tin_0 (List.mem_of_getElem? (i := 7) rfl) rfl
theorem gm_8 : (Cond.selects "LetterSchool$Tape" ⟨"LetterSchool$Tape", "readLeaning", "(LLetterSchool$Edition;I)Z"⟩ ⟨"LetterSchool$Tape", "readLeaning", "(LLetterSchool$Edition;I)Z"⟩) ∈ gW := tin_0 (List.mem_of_getElem? (i := 8) rfl) rfl
theorem gm_9 : (Cond.selects "LetterSchool" ⟨"LetterSchool", "inForce", "(II)I"⟩ ⟨"LetterSchool", "inForce", "(II)I"⟩) ∈ gW := tin_0 (List.mem_of_getElem? (i := 9) rfl) rfl
theorem gm_10 : (Cond.selects "LetterSchool" ⟨"LetterSchool", "pupilAt", "(I)LLetterSchool$Pupil;"⟩ ⟨"LetterSchool", "pupilAt", "(I)LLetterSchool$Pupil;"⟩) ∈ gW := tin_0 (List.mem_of_getElem? (i := 10) rfl) rfl
theorem gm_11 : (Cond.selects "LetterSchool" ⟨"LetterSchool", "bestByName", "(III)I"⟩ ⟨"LetterSchool", "bestByName", "(III)I"⟩) ∈ gW := tin_0 (List.mem_of_getElem? (i := 11) rfl) rfl
theorem gm_12 : (Cond.selects "LetterSchool" ⟨"LetterSchool", "fillBests", "(ILLetterSchool$Edition;)V"⟩ ⟨"LetterSchool", "fillBests", "(ILLetterSchool$Edition;)V"⟩) ∈ gW := tin_0 (List.mem_of_getElem? (i := 12) rfl) rfl
theorem gm_13 : (Cond.selects "LetterSchool$Edition" ⟨"LetterSchool$Edition", "isPassed", "(I[I)Z"⟩ ⟨"LetterSchool$Edition", "isPassed", "(I[I)Z"⟩) ∈ gW := tin_0 (List.mem_of_getElem? (i := 13) rfl) rfl
theorem gm_14 : (Cond.selects "LetterSchool$Edition" ⟨"LetterSchool$Edition", "holds", "(I[I)Z"⟩ ⟨"LetterSchool$Edition", "holds", "(I[I)Z"⟩) ∈ gW := tin_0 (List.mem_of_getElem? (i := 14) rfl) rfl
theorem gm_15 : (Cond.selects "LetterSchool$Edition" ⟨"LetterSchool$Edition", "claimHolds", "(I[I)Z"⟩ ⟨"LetterSchool$Edition", "claimHolds", "(I[I)Z"⟩) ∈ gW := tin_0 (List.mem_of_getElem? (i := 15) rfl) rfl
theorem gm_16 : (Cond.selects "LetterSchool$Way" ⟨"LetterSchool$Way", "raise", "([II)V"⟩ ⟨"LetterSchool$Way", "raise", "([II)V"⟩) ∈ gW := tin_0 (List.mem_of_getElem? (i := 16) rfl) rfl
theorem gm_17 : (Cond.selects "LetterSchool$Way" ⟨"LetterSchool$Way", "reach", "(LLetterSchool$Edition;II)I"⟩ ⟨"LetterSchool$Way", "reach", "(LLetterSchool$Edition;II)I"⟩) ∈ gW := tin_0 (List.mem_of_getElem? (i := 17) rfl) rfl
theorem gm_18 : (Cond.selects "LetterSchool" ⟨"LetterSchool", "carry", "(LLetterSchool$Thing;LLetterSchool$Pupil;I)I"⟩ ⟨"LetterSchool", "carry", "(LLetterSchool$Thing;LLetterSchool$Pupil;I)I"⟩) ∈ gW := tin_0 (List.mem_of_getElem? (i := 18) rfl) rfl
theorem gm_19 : (Cond.selects "LetterSchool" ⟨"LetterSchool", "thingAt", "(I)LLetterSchool$Thing;"⟩ ⟨"LetterSchool", "thingAt", "(I)LLetterSchool$Thing;"⟩) ∈ gW := tin_0 (List.mem_of_getElem? (i := 19) rfl) rfl
theorem gm_20 : (Cond.selects "LetterSchool" ⟨"LetterSchool", "tutorAt", "(I)LLetterSchool$Tutor;"⟩ ⟨"LetterSchool", "tutorAt", "(I)LLetterSchool$Tutor;"⟩) ∈ gW := tin_0 (List.mem_of_getElem? (i := 20) rfl) rfl
theorem gm_21 : (Cond.selects "LetterSchool" ⟨"LetterSchool", "unload", "(LLetterSchool$Thing;)V"⟩ ⟨"LetterSchool", "unload", "(LLetterSchool$Thing;)V"⟩) ∈ gW := tin_0 (List.mem_of_getElem? (i := 21) rfl) rfl
theorem gm_22 : (Cond.selects "LetterSchool" ⟨"LetterSchool", "knownOn", "(LLetterSchool$Thing;)I"⟩ ⟨"LetterSchool", "knownOn", "(LLetterSchool$Thing;)I"⟩) ∈ gW := tin_0 (List.mem_of_getElem? (i := 22) rfl) rfl
theorem gm_23 : (Cond.selects "LetterSchool" ⟨"LetterSchool", "shareBy", "(I)V"⟩ ⟨"LetterSchool", "shareBy", "(I)V"⟩) ∈ gW := tin_0 (List.mem_of_getElem? (i := 23) rfl) rfl
theorem gm_24 : (Cond.selects "LetterSchool" ⟨"LetterSchool", "tutorsFor", "(LLetterSchool$Thing;)I"⟩ ⟨"LetterSchool", "tutorsFor", "(LLetterSchool$Thing;)I"⟩) ∈ gW := tin_0 (List.mem_of_getElem? (i := 24) rfl) rfl
theorem gm_25 : (Cond.selects "LetterSchool$Sharing" ⟨"LetterSchool$Sharing", "lookAhead", "()V"⟩ ⟨"LetterSchool$Sharing", "lookAhead", "()V"⟩) ∈ gW := tin_0 (List.mem_of_getElem? (i := 25) rfl) rfl
theorem gm_26 : (Cond.selects "LetterSchool$Sharing" ⟨"LetterSchool$Sharing", "fewestDays", "(I)I"⟩ ⟨"LetterSchool$Sharing", "fewestDays", "(I)I"⟩) ∈ gW := tin_0 (List.mem_of_getElem? (i := 26) rfl) rfl
theorem gm_27 : (Cond.selects "LetterSchool$Sharing" ⟨"LetterSchool$Sharing", "canTake", "(II)Z"⟩ ⟨"LetterSchool$Sharing", "canTake", "(II)Z"⟩) ∈ gW := tin_0 (List.mem_of_getElem? (i := 27) rfl) rfl
theorem gm_28 : (Cond.selects "LetterSchool$Sharing" ⟨"LetterSchool$Sharing", "seek", "(III)V"⟩ ⟨"LetterSchool$Sharing", "seek", "(III)V"⟩) ∈ gW := tin_0 (List.mem_of_getElem? (i := 28) rfl) rfl
theorem gm_29 : (Cond.selects "LetterSchool$Sharing" ⟨"LetterSchool$Sharing", "canBeBetter", "(III)Z"⟩ ⟨"LetterSchool$Sharing", "canBeBetter", "(III)Z"⟩) ∈ gW := tin_0 (List.mem_of_getElem? (i := 29) rfl) rfl
theorem gm_30 : (Cond.selects "LetterSchool" ⟨"LetterSchool", "likeness", "(LLetterSchool$Thing;LLetterSchool$Thing;)I"⟩ ⟨"LetterSchool", "likeness", "(LLetterSchool$Thing;LLetterSchool$Thing;)I"⟩) ∈ gW := tin_0 (List.mem_of_getElem? (i := 30) rfl) rfl
theorem gm_31 : (Cond.selects "LetterSchool" ⟨"LetterSchool", "isDoubted", "(LLetterSchool$Thing;LLetterSchool$Thing;)Z"⟩ ⟨"LetterSchool", "isDoubted", "(LLetterSchool$Thing;LLetterSchool$Thing;)Z"⟩) ∈ gW := tin_0 (List.mem_of_getElem? (i := 31) rfl) rfl
theorem gm_32 : (Cond.selects "LetterSchool$Tape" ⟨"LetterSchool$Tape", "readFee", "(LLetterSchool$Fees;)Z"⟩ ⟨"LetterSchool$Tape", "readFee", "(LLetterSchool$Fees;)Z"⟩) ∈ gW := tin_0 (List.mem_of_getElem? (i := 32) rfl) rfl
theorem gm_33 : (Cond.selects "LetterSchoolModel" ⟨"LetterSchoolModel", "readEdition", "()V"⟩ ⟨"LetterSchoolModel", "readEdition", "()V"⟩) ∈ gW := tin_0 (List.mem_of_getElem? (i := 33) rfl) rfl
theorem gm_34 : (Cond.selects "LetterSchoolModel" ⟨"LetterSchoolModel", "readLesson", "()V"⟩ ⟨"LetterSchoolModel", "readLesson", "()V"⟩) ∈ gW := tin_0 (List.mem_of_getElem? (i := 34) rfl) rfl
theorem gm_35 : (Cond.selects "LetterSchoolModel" ⟨"LetterSchoolModel", "next", "()I"⟩ ⟨"LetterSchoolModel", "next", "()I"⟩) ∈ gW := tin_0 (List.mem_of_getElem? (i := 35) rfl) rfl
theorem gm_36 : (Cond.selects "LetterSchoolModel" ⟨"LetterSchoolModel", "fail", "(I)V"⟩ ⟨"LetterSchoolModel", "fail", "(I)V"⟩) ∈ gW := tin_0 (List.mem_of_getElem? (i := 36) rfl) rfl
theorem gm_37 : (Cond.selects "LetterSchoolModel" ⟨"LetterSchoolModel", "need", "(I)V"⟩ ⟨"LetterSchoolModel", "need", "(I)V"⟩) ∈ gW := tin_0 (List.mem_of_getElem? (i := 37) rfl) rfl
theorem gm_38 : (Cond.selects "LetterSchoolModel" ⟨"LetterSchoolModel", "takes", "(I)Z"⟩ ⟨"LetterSchoolModel", "takes", "(I)Z"⟩) ∈ gW := tin_0 (List.mem_of_getElem? (i := 38) rfl) rfl
theorem gm_39 : (Cond.selects "LetterSchoolModel" ⟨"LetterSchoolModel", "number", "(I)I"⟩ ⟨"LetterSchoolModel", "number", "(I)I"⟩) ∈ gW := tin_0 (List.mem_of_getElem? (i := 39) rfl) rfl
theorem gm_40 : (Cond.selects "LetterSchoolModel" ⟨"LetterSchoolModel", "readLeans", "()V"⟩ ⟨"LetterSchoolModel", "readLeans", "()V"⟩) ∈ gW := tin_0 (List.mem_of_getElem? (i := 40) rfl) rfl
theorem gm_41 : (Cond.selects "LetterSchoolModel" ⟨"LetterSchoolModel", "readClaim", "(I)I"⟩ ⟨"LetterSchoolModel", "readClaim", "(I)I"⟩) ∈ gW := tin_0 (List.mem_of_getElem? (i := 41) rfl) rfl
theorem gm_42 : (Cond.selects "LetterSchoolModel" ⟨"LetterSchoolModel", "emit", "(I)V"⟩ ⟨"LetterSchoolModel", "emit", "(I)V"⟩) ∈ gW := tin_0 (List.mem_of_getElem? (i := 42) rfl) rfl
theorem gm_43 : (Cond.selects "LetterSchoolModel" ⟨"LetterSchoolModel", "turnIfTold", "()V"⟩ ⟨"LetterSchoolModel", "turnIfTold", "()V"⟩) ∈ gW := tin_0 (List.mem_of_getElem? (i := 43) rfl) rfl
theorem gm_44 : (Cond.selects "LetterSchoolModel" ⟨"LetterSchoolModel", "comeOut", "(I)V"⟩ ⟨"LetterSchoolModel", "comeOut", "(I)V"⟩) ∈ gW := tin_0 (List.mem_of_getElem? (i := 44) rfl) rfl
theorem gm_45 : (Cond.selects "LetterSchoolModel" ⟨"LetterSchoolModel", "isEdition", "(II)Z"⟩ ⟨"LetterSchoolModel", "isEdition", "(II)Z"⟩) ∈ gW := tin_0 (List.mem_of_getElem? (i := 45) rfl) rfl
theorem gm_46 : (Cond.selects "LetterSchoolModel" ⟨"LetterSchoolModel", "hasLesson", "(II)Z"⟩ ⟨"LetterSchoolModel", "hasLesson", "(II)Z"⟩) ∈ gW := tin_0 (List.mem_of_getElem? (i := 46) rfl) rfl
theorem gm_47 : (Cond.selects "LetterSchoolModel" ⟨"LetterSchoolModel", "forceOn", "(II)I"⟩ ⟨"LetterSchoolModel", "forceOn", "(II)I"⟩) ∈ gW := tin_0 (List.mem_of_getElem? (i := 47) rfl) rfl
theorem gm_48 : (Cond.selects "LetterSchoolModel" ⟨"LetterSchoolModel", "isPupil", "(I)Z"⟩ ⟨"LetterSchoolModel", "isPupil", "(I)Z"⟩) ∈ gW := tin_0 (List.mem_of_getElem? (i := 48) rfl) rfl
theorem gm_49 : (Cond.selects "LetterSchoolModel" ⟨"LetterSchoolModel", "findBests", "(II)V"⟩ ⟨"LetterSchoolModel", "findBests", "(II)V"⟩) ∈ gW := tin_0 (List.mem_of_getElem? (i := 49) rfl) rfl
theorem gm_50 : (Cond.selects "LetterSchoolModel" ⟨"LetterSchoolModel", "bestOf", "(II)I"⟩ ⟨"LetterSchoolModel", "bestOf", "(II)I"⟩) ∈ gW := tin_0 (List.mem_of_getElem? (i := 50) rfl) rfl
theorem gm_51 : (Cond.selects "LetterSchoolModel" ⟨"LetterSchoolModel", "bitsOf", "(II)I"⟩ ⟨"LetterSchoolModel", "bitsOf", "(II)I"⟩) ∈ gW := tin_0 (List.mem_of_getElem? (i := 51) rfl) rfl
theorem gm_52 : (Cond.selects "LetterSchoolModel" ⟨"LetterSchoolModel", "isPassed", "(II)Z"⟩ ⟨"LetterSchoolModel", "isPassed", "(II)Z"⟩) ∈ gW := tin_0 (List.mem_of_getElem? (i := 52) rfl) rfl
theorem gm_53 : (Cond.selects "LetterSchoolModel" ⟨"LetterSchoolModel", "holds", "(II)Z"⟩ ⟨"LetterSchoolModel", "holds", "(II)Z"⟩) ∈ gW := tin_0 (List.mem_of_getElem? (i := 53) rfl) rfl
theorem gm_54 : (Cond.selects "LetterSchoolModel" ⟨"LetterSchoolModel", "findWith", "(II)V"⟩ ⟨"LetterSchoolModel", "findWith", "(II)V"⟩) ∈ gW := tin_0 (List.mem_of_getElem? (i := 54) rfl) rfl
theorem gm_55 : (Cond.selects "LetterSchoolModel" ⟨"LetterSchoolModel", "hasLeft", "(II)Z"⟩ ⟨"LetterSchoolModel", "hasLeft", "(II)Z"⟩) ∈ gW := tin_0 (List.mem_of_getElem? (i := 55) rfl) rfl
theorem gm_56 : (Cond.selects "LetterSchoolModel" ⟨"LetterSchoolModel", "goes", "(III)V"⟩ ⟨"LetterSchoolModel", "goes", "(III)V"⟩) ∈ gW := tin_0 (List.mem_of_getElem? (i := 56) rfl) rfl
theorem gm_57 : (Cond.selects "LetterSchoolModel" ⟨"LetterSchoolModel", "isThing", "(I)Z"⟩ ⟨"LetterSchoolModel", "isThing", "(I)Z"⟩) ∈ gW := tin_0 (List.mem_of_getElem? (i := 57) rfl) rfl
theorem gm_58 : (Cond.selects "LetterSchoolModel" ⟨"LetterSchoolModel", "isTutor", "(I)Z"⟩ ⟨"LetterSchoolModel", "isTutor", "(I)Z"⟩) ∈ gW := tin_0 (List.mem_of_getElem? (i := 58) rfl) rfl
theorem gm_59 : (Cond.selects "LetterSchoolModel" ⟨"LetterSchoolModel", "isAnswer", "(I)Z"⟩ ⟨"LetterSchoolModel", "isAnswer", "(I)Z"⟩) ∈ gW := tin_0 (List.mem_of_getElem? (i := 59) rfl) rfl
theorem gm_60 : (Cond.selects "LetterSchoolModel" ⟨"LetterSchoolModel", "suits", "(II)Z"⟩ ⟨"LetterSchoolModel", "suits", "(II)Z"⟩) ∈ gW := tin_0 (List.mem_of_getElem? (i := 60) rfl) rfl
theorem gm_61 : (Cond.selects "LetterSchoolModel" ⟨"LetterSchoolModel", "isGiven", "(II)Z"⟩ ⟨"LetterSchoolModel", "isGiven", "(II)Z"⟩) ∈ gW := tin_0 (List.mem_of_getElem? (i := 61) rfl) rfl
theorem gm_62 : (Cond.selects "LetterSchoolModel" ⟨"LetterSchoolModel", "knownOn", "(I)I"⟩ ⟨"LetterSchoolModel", "knownOn", "(I)I"⟩) ∈ gW := tin_0 (List.mem_of_getElem? (i := 62) rfl) rfl
theorem gm_63 : (Cond.selects "LetterSchoolModel" ⟨"LetterSchoolModel", "daysFor", "(II)I"⟩ ⟨"LetterSchoolModel", "daysFor", "(II)I"⟩) ∈ gW := tin_0 (List.mem_of_getElem? (i := 63) rfl) rfl
theorem gm_64 : (Cond.selects "LetterSchoolModel" ⟨"LetterSchoolModel", "findShare", "(I)V"⟩ ⟨"LetterSchoolModel", "findShare", "(I)V"⟩) ∈ gW := tin_0 (List.mem_of_getElem? (i := 64) rfl) rfl
theorem gm_65 : (Cond.selects "LetterSchoolModel" ⟨"LetterSchoolModel", "look", "()V"⟩ ⟨"LetterSchoolModel", "look", "()V"⟩) ∈ gW := tin_0 (List.mem_of_getElem? (i := 65) rfl) rfl
theorem gm_66 : (Cond.selects "LetterSchoolModel" ⟨"LetterSchoolModel", "step", "()Z"⟩ ⟨"LetterSchoolModel", "step", "()Z"⟩) ∈ gW := tin_0 (List.mem_of_getElem? (i := 66) rfl) rfl
theorem gm_67 : (Cond.selects "LetterSchoolModel" ⟨"LetterSchoolModel", "likeOf", "(II)I"⟩ ⟨"LetterSchoolModel", "likeOf", "(II)I"⟩) ∈ gW := tin_0 (List.mem_of_getElem? (i := 67) rfl) rfl
theorem gm_68 : (Cond.selects "LetterSchoolModel" ⟨"LetterSchoolModel", "readFees", "()I"⟩ ⟨"LetterSchoolModel", "readFees", "()I"⟩) ∈ gW := tin_0 (List.mem_of_getElem? (i := 68) rfl) rfl
theorem gm_69 : (Cond.selects "LetterSchoolModel" ⟨"LetterSchoolModel", "paidBy", "(II)J"⟩ ⟨"LetterSchoolModel", "paidBy", "(II)J"⟩) ∈ gW := tin_0 (List.mem_of_getElem? (i := 69) rfl) rfl
theorem gm_70 : (Cond.selects "LetterSchoolModel" ⟨"LetterSchoolModel", "against", "(IIII)I"⟩ ⟨"LetterSchoolModel", "against", "(IIII)I"⟩) ∈ gW := tin_0 (List.mem_of_getElem? (i := 70) rfl) rfl
theorem gm_71 : (Cond.initialized "LetterSchoolLaw") ∈ gW := tin_1 (List.mem_of_getElem? (i := 0) rfl) rfl
theorem gm_72 : (Cond.initialized "LetterSchool") ∈ gW := tin_1 (List.mem_of_getElem? (i := 1) rfl) rfl
theorem gm_73 : (Cond.initialized "LetterSchool$Tape") ∈ gW := tin_1 (List.mem_of_getElem? (i := 2) rfl) rfl
theorem gm_74 : (Cond.initialized "LetterSchool$Edition") ∈ gW := tin_1 (List.mem_of_getElem? (i := 3) rfl) rfl
theorem gm_75 : (Cond.initialized "LetterSchool$Fees") ∈ gW := tin_1 (List.mem_of_getElem? (i := 4) rfl) rfl
theorem gm_76 : (Cond.initialized "LetterSchool$Ledger") ∈ gW := tin_1 (List.mem_of_getElem? (i := 5) rfl) rfl
theorem gm_77 : (Cond.initialized "LetterSchool$Sharing") ∈ gW := tin_1 (List.mem_of_getElem? (i := 6) rfl) rfl
theorem gm_78 : (Cond.initialized "LetterSchool$Way") ∈ gW := tin_1 (List.mem_of_getElem? (i := 7) rfl) rfl
theorem gm_79 : (Cond.initialized "LetterSchool$Post") ∈ gW := tin_1 (List.mem_of_getElem? (i := 8) rfl) rfl
theorem gm_80 : (Cond.initialized "LetterSchool$Sheet") ∈ gW := tin_1 (List.mem_of_getElem? (i := 9) rfl) rfl
theorem gm_81 : (Cond.initialized "LetterSchoolModel") ∈ gW := tin_1 (List.mem_of_getElem? (i := 10) rfl) rfl
theorem gm_82 : (Cond.initialized "java/lang/Math") ∈ gW := tin_1 (List.mem_of_getElem? (i := 11) rfl) rfl
theorem gm_83 : (Cond.initialized "java/lang/Integer") ∈ gW := tin_1 (List.mem_of_getElem? (i := 12) rfl) rfl
theorem gm_84 : (Cond.initialized "LetterSchool$Pupil") ∈ gW := tin_1 (List.mem_of_getElem? (i := 13) rfl) rfl
theorem gm_85 : (Cond.initialized "java/util/Arrays") ∈ gW := tin_1 (List.mem_of_getElem? (i := 14) rfl) rfl
theorem gm_86 : (Cond.initialized "LetterSchool$Thing") ∈ gW := tin_1 (List.mem_of_getElem? (i := 15) rfl) rfl
theorem gm_87 : (Cond.initialized "LetterSchool$Tutor") ∈ gW := tin_1 (List.mem_of_getElem? (i := 16) rfl) rfl
theorem gm_88 : (Cond.initialized "java/lang/System") ∈ gW := tin_1 (List.mem_of_getElem? (i := 17) rfl) rfl
theorem gm_89 : (Cond.classLink "LetterSchoolLaw" 7 "LetterSchool") ∈ gW := tin_1 (List.mem_of_getElem? (i := 18) rfl) rfl
theorem gm_90 : (Cond.instantiable "LetterSchool" 20) ∈ gW := tin_1 (List.mem_of_getElem? (i := 19) rfl) rfl
theorem gm_91 : (Cond.methodLink "LetterSchoolLaw" 9 ⟨"LetterSchool", "<init>", "()V"⟩) ∈ gW := tin_1 (List.mem_of_getElem? (i := 20) rfl) rfl
theorem gm_92 : (Cond.instanceMethod ⟨"LetterSchool", "<init>", "()V"⟩) ∈ gW := tin_1 (List.mem_of_getElem? (i := 21) rfl) rfl
theorem gm_93 : (Cond.code ⟨"LetterSchool", "<init>", "()V"⟩ prog_1_method_1_code 2 (Option.none : Option FieldType)) ∈ gW := tin_1 (List.mem_of_getElem? (i := 22) rfl) rfl
theorem gm_94 : (Cond.methodLink "LetterSchool" 1 ⟨"java/lang/Object", "<init>", "()V"⟩) ∈ gW := tin_1 (List.mem_of_getElem? (i := 23) rfl) rfl
theorem gm_95 : (Cond.instanceMethod ⟨"java/lang/Object", "<init>", "()V"⟩) ∈ gW := tin_1 (List.mem_of_getElem? (i := 24) rfl) rfl
theorem gm_96 : (Cond.code ⟨"java/lang/Object", "<init>", "()V"⟩ object_method_1_code 1 (Option.none : Option FieldType)) ∈ gW := tin_1 (List.mem_of_getElem? (i := 25) rfl) rfl
theorem gm_97 : (Cond.classLink "LetterSchool" 7 "LetterSchool$Tape") ∈ gW := tin_1 (List.mem_of_getElem? (i := 26) rfl) rfl
theorem gm_98 : (Cond.instantiable "LetterSchool$Tape" 3) ∈ gW := tin_1 (List.mem_of_getElem? (i := 27) rfl) rfl
theorem gm_100 : (Cond.instanceMethod ⟨"LetterSchool$Tape", "<init>", "()V"⟩) ∈ gW := tin_1 (List.mem_of_getElem? (i := 29) rfl) rfl
theorem gm_101 : (Cond.code ⟨"LetterSchool$Tape", "<init>", "()V"⟩ prog_9_method_1_code 1 (Option.none : Option FieldType)) ∈ gW := tin_1 (List.mem_of_getElem? (i := 30) rfl) rfl
theorem gm_102 : (Cond.methodLink "LetterSchool$Tape" 3 ⟨"java/lang/Object", "<init>", "()V"⟩) ∈ gW := tin_1 (List.mem_of_getElem? (i := 31) rfl) rfl
theorem gm_103 : (Cond.fieldLink "LetterSchool$Tape" 11 "LetterSchool$Tape" "signs" "[B") ∈ gW := tin_1 (List.mem_of_getElem? (i := 32) rfl) rfl
theorem gm_104 : (Cond.fieldLink "LetterSchool$Tape" 15 "LetterSchool$Tape" "length" "I") ∈ gW := tin_1 (List.mem_of_getElem? (i := 33) rfl) rfl
theorem gm_106 : (Cond.fieldLink "LetterSchool$Tape" 19 "LetterSchool$Tape" "place" "I") ∈ gW := tin_1 (List.mem_of_getElem? (i := 35) rfl) rfl
theorem gm_108 : (Cond.laysFinal "LetterSchool$Tape" "LetterSchool$Tape" "signs" "[B") ∈ gW := tin_1 (List.mem_of_getElem? (i := 37) rfl) rfl
theorem gm_110 : (Cond.lays "LetterSchool$Tape" "LetterSchool$Tape" "length" "I") ∈ gW := tin_1 (List.mem_of_getElem? (i := 39) rfl) rfl
theorem gm_112 : (Cond.lays "LetterSchool$Tape" "LetterSchool$Tape" "place" "I") ∈ gW := tin_1 (List.mem_of_getElem? (i := 41) rfl) rfl
theorem gm_115 : (Cond.arrayClass FieldType.byte) ∈ gW := tin_1 (List.mem_of_getElem? (i := 44) rfl) rfl
theorem gm_116 : (Cond.classLink "LetterSchool" 16 "LetterSchool$Edition") ∈ gW := tin_1 (List.mem_of_getElem? (i := 45) rfl) rfl
theorem gm_118 : (Cond.classLink "LetterSchool" 26 "LetterSchool$Fees") ∈ gW := tin_1 (List.mem_of_getElem? (i := 47) rfl) rfl
theorem gm_120 : (Cond.instantiable "LetterSchool$Edition" 9) ∈ gW := tin_1 (List.mem_of_getElem? (i := 49) rfl) rfl
theorem gm_122 : (Cond.instanceMethod ⟨"LetterSchool$Edition", "<init>", "()V"⟩) ∈ gW := tin_1 (List.mem_of_getElem? (i := 51) rfl) rfl
theorem gm_123 : (Cond.code ⟨"LetterSchool$Edition", "<init>", "()V"⟩ prog_2_method_1_code 1 (Option.none : Option FieldType)) ∈ gW := tin_1 (List.mem_of_getElem? (i := 52) rfl) rfl
theorem gm_124 : (Cond.methodLink "LetterSchool$Edition" 3 ⟨"java/lang/Object", "<init>", "()V"⟩) ∈ gW := tin_1 (List.mem_of_getElem? (i := 53) rfl) rfl
theorem gm_125 : (Cond.fieldLink "LetterSchool$Edition" 9 "LetterSchool$Edition" "from" "I") ∈ gW := tin_1 (List.mem_of_getElem? (i := 54) rfl) rfl
theorem gm_127 : (Cond.fieldLink "LetterSchool$Edition" 15 "LetterSchool$Edition" "lessons" "I") ∈ gW := tin_1 (List.mem_of_getElem? (i := 56) rfl) rfl
theorem gm_129 : (Cond.fieldLink "LetterSchool$Edition" 18 "LetterSchool$Edition" "name" "[I") ∈ gW := tin_1 (List.mem_of_getElem? (i := 58) rfl) rfl
theorem gm_131 : (Cond.fieldLink "LetterSchool$Edition" 22 "LetterSchool$Edition" "pass" "[I") ∈ gW := tin_1 (List.mem_of_getElem? (i := 60) rfl) rfl
theorem gm_133 : (Cond.fieldLink "LetterSchool$Edition" 25 "LetterSchool$Edition" "stands" "[I") ∈ gW := tin_1 (List.mem_of_getElem? (i := 62) rfl) rfl
theorem gm_135 : (Cond.fieldLink "LetterSchool$Edition" 28 "LetterSchool$Edition" "start" "[I") ∈ gW := tin_1 (List.mem_of_getElem? (i := 64) rfl) rfl
theorem gm_136 : (Cond.fieldLink "LetterSchool$Edition" 31 "LetterSchool$Edition" "end" "[I") ∈ gW := tin_1 (List.mem_of_getElem? (i := 65) rfl) rfl
theorem gm_137 : (Cond.fieldLink "LetterSchool$Edition" 36 "LetterSchool$Edition" "code" "[S") ∈ gW := tin_1 (List.mem_of_getElem? (i := 66) rfl) rfl
theorem gm_138 : (Cond.fieldLink "LetterSchool$Edition" 40 "LetterSchool$Edition" "codeLength" "I") ∈ gW := tin_1 (List.mem_of_getElem? (i := 67) rfl) rfl
theorem gm_139 : (Cond.lays "LetterSchool$Edition" "LetterSchool$Edition" "from" "I") ∈ gW := tin_1 (List.mem_of_getElem? (i := 68) rfl) rfl
theorem gm_141 : (Cond.lays "LetterSchool$Edition" "LetterSchool$Edition" "lessons" "I") ∈ gW := tin_1 (List.mem_of_getElem? (i := 70) rfl) rfl
theorem gm_143 : (Cond.laysFinal "LetterSchool$Edition" "LetterSchool$Edition" "name" "[I") ∈ gW := tin_1 (List.mem_of_getElem? (i := 72) rfl) rfl
theorem gm_145 : (Cond.laysFinal "LetterSchool$Edition" "LetterSchool$Edition" "pass" "[I") ∈ gW := tin_1 (List.mem_of_getElem? (i := 74) rfl) rfl
theorem gm_147 : (Cond.laysFinal "LetterSchool$Edition" "LetterSchool$Edition" "stands" "[I") ∈ gW := tin_1 (List.mem_of_getElem? (i := 76) rfl) rfl
theorem gm_149 : (Cond.laysFinal "LetterSchool$Edition" "LetterSchool$Edition" "start" "[I") ∈ gW := tin_1 (List.mem_of_getElem? (i := 78) rfl) rfl
theorem gm_151 : (Cond.laysFinal "LetterSchool$Edition" "LetterSchool$Edition" "end" "[I") ∈ gW := tin_1 (List.mem_of_getElem? (i := 80) rfl) rfl
theorem gm_153 : (Cond.laysFinal "LetterSchool$Edition" "LetterSchool$Edition" "code" "[S") ∈ gW := tin_1 (List.mem_of_getElem? (i := 82) rfl) rfl
theorem gm_155 : (Cond.lays "LetterSchool$Edition" "LetterSchool$Edition" "codeLength" "I") ∈ gW := tin_1 (List.mem_of_getElem? (i := 84) rfl) rfl
theorem gm_158 : (Cond.arrayClass FieldType.int) ∈ gW := tin_1 (List.mem_of_getElem? (i := 87) rfl) rfl
theorem gm_159 : (Cond.arrayClass FieldType.short) ∈ gW := tin_1 (List.mem_of_getElem? (i := 88) rfl) rfl
theorem gm_160 : (Cond.instantiable "LetterSchool$Fees" 4) ∈ gW := tin_1 (List.mem_of_getElem? (i := 89) rfl) rfl
theorem gm_162 : (Cond.instanceMethod ⟨"LetterSchool$Fees", "<init>", "()V"⟩) ∈ gW := tin_1 (List.mem_of_getElem? (i := 91) rfl) rfl
theorem gm_163 : (Cond.code ⟨"LetterSchool$Fees", "<init>", "()V"⟩ prog_3_method_1_code 1 (Option.none : Option FieldType)) ∈ gW := tin_1 (List.mem_of_getElem? (i := 92) rfl) rfl
theorem gm_164 : (Cond.methodLink "LetterSchool$Fees" 1 ⟨"java/lang/Object", "<init>", "()V"⟩) ∈ gW := tin_1 (List.mem_of_getElem? (i := 93) rfl) rfl
theorem gm_165 : (Cond.fieldLink "LetterSchool$Fees" 7 "LetterSchool$Fees" "count" "I") ∈ gW := tin_1 (List.mem_of_getElem? (i := 94) rfl) rfl
theorem gm_168 : (Cond.fieldLink "LetterSchool$Fees" 13 "LetterSchool$Fees" "part" "[Z") ∈ gW := tin_1 (List.mem_of_getElem? (i := 97) rfl) rfl
theorem gm_169 : (Cond.fieldLink "LetterSchool$Fees" 17 "LetterSchool$Fees" "days" "[I") ∈ gW := tin_1 (List.mem_of_getElem? (i := 98) rfl) rfl
theorem gm_170 : (Cond.fieldLink "LetterSchool$Fees" 21 "LetterSchool$Fees" "amount" "[I") ∈ gW := tin_1 (List.mem_of_getElem? (i := 99) rfl) rfl
theorem gm_171 : (Cond.lays "LetterSchool$Fees" "LetterSchool$Fees" "count" "I") ∈ gW := tin_1 (List.mem_of_getElem? (i := 100) rfl) rfl
theorem gm_173 : (Cond.laysFinal "LetterSchool$Fees" "LetterSchool$Fees" "part" "[Z") ∈ gW := tin_1 (List.mem_of_getElem? (i := 102) rfl) rfl
theorem gm_175 : (Cond.laysFinal "LetterSchool$Fees" "LetterSchool$Fees" "days" "[I") ∈ gW := tin_1 (List.mem_of_getElem? (i := 104) rfl) rfl
theorem gm_177 : (Cond.laysFinal "LetterSchool$Fees" "LetterSchool$Fees" "amount" "[I") ∈ gW := tin_1 (List.mem_of_getElem? (i := 106) rfl) rfl
theorem gm_180 : (Cond.arrayClass FieldType.boolean) ∈ gW := tin_1 (List.mem_of_getElem? (i := 109) rfl) rfl
theorem gm_181 : (Cond.classLink "LetterSchool" 42 "LetterSchool$Pupil") ∈ gW := tin_1 (List.mem_of_getElem? (i := 110) rfl) rfl
theorem gm_183 : (Cond.classLink "LetterSchool" 52 "LetterSchool$Tutor") ∈ gW := tin_1 (List.mem_of_getElem? (i := 112) rfl) rfl
theorem gm_185 : (Cond.classLink "LetterSchool" 61 "LetterSchool$Thing") ∈ gW := tin_1 (List.mem_of_getElem? (i := 114) rfl) rfl
theorem gm_187 : (Cond.classLink "LetterSchool" 70 "LetterSchool$Post") ∈ gW := tin_1 (List.mem_of_getElem? (i := 116) rfl) rfl
theorem gm_189 : (Cond.classLink "LetterSchool" 76 "LetterSchool$Ledger") ∈ gW := tin_1 (List.mem_of_getElem? (i := 118) rfl) rfl
theorem gm_190 : (Cond.instantiable "LetterSchool$Ledger" 4) ∈ gW := tin_1 (List.mem_of_getElem? (i := 119) rfl) rfl
theorem gm_192 : (Cond.instanceMethod ⟨"LetterSchool$Ledger", "<init>", "()V"⟩) ∈ gW := tin_1 (List.mem_of_getElem? (i := 121) rfl) rfl
theorem gm_193 : (Cond.code ⟨"LetterSchool$Ledger", "<init>", "()V"⟩ prog_4_method_1_code 1 (Option.none : Option FieldType)) ∈ gW := tin_1 (List.mem_of_getElem? (i := 122) rfl) rfl
theorem gm_194 : (Cond.methodLink "LetterSchool$Ledger" 3 ⟨"java/lang/Object", "<init>", "()V"⟩) ∈ gW := tin_1 (List.mem_of_getElem? (i := 123) rfl) rfl
theorem gm_195 : (Cond.fieldLink "LetterSchool$Ledger" 9 "LetterSchool$Ledger" "payer" "[B") ∈ gW := tin_1 (List.mem_of_getElem? (i := 124) rfl) rfl
theorem gm_196 : (Cond.fieldLink "LetterSchool$Ledger" 15 "LetterSchool$Ledger" "pence" "[I") ∈ gW := tin_1 (List.mem_of_getElem? (i := 125) rfl) rfl
theorem gm_197 : (Cond.fieldLink "LetterSchool$Ledger" 19 "LetterSchool$Ledger" "paidOn" "[S") ∈ gW := tin_1 (List.mem_of_getElem? (i := 126) rfl) rfl
theorem gm_198 : (Cond.fieldLink "LetterSchool$Ledger" 23 "LetterSchool$Ledger" "count" "I") ∈ gW := tin_1 (List.mem_of_getElem? (i := 127) rfl) rfl
theorem gm_199 : (Cond.laysFinal "LetterSchool$Ledger" "LetterSchool$Ledger" "payer" "[B") ∈ gW := tin_1 (List.mem_of_getElem? (i := 128) rfl) rfl
theorem gm_201 : (Cond.laysFinal "LetterSchool$Ledger" "LetterSchool$Ledger" "pence" "[I") ∈ gW := tin_1 (List.mem_of_getElem? (i := 130) rfl) rfl
theorem gm_203 : (Cond.laysFinal "LetterSchool$Ledger" "LetterSchool$Ledger" "paidOn" "[S") ∈ gW := tin_1 (List.mem_of_getElem? (i := 132) rfl) rfl
theorem gm_205 : (Cond.lays "LetterSchool$Ledger" "LetterSchool$Ledger" "count" "I") ∈ gW := tin_1 (List.mem_of_getElem? (i := 134) rfl) rfl
theorem gm_208 : (Cond.classLink "LetterSchool" 90 "LetterSchool$Sheet") ∈ gW := tin_1 (List.mem_of_getElem? (i := 137) rfl) rfl
theorem gm_210 : (Cond.classLink "LetterSchool" 96 "LetterSchool$Sharing") ∈ gW := tin_1 (List.mem_of_getElem? (i := 139) rfl) rfl
theorem gm_211 : (Cond.instantiable "LetterSchool$Sharing" 12) ∈ gW := tin_1 (List.mem_of_getElem? (i := 140) rfl) rfl
theorem gm_213 : (Cond.instanceMethod ⟨"LetterSchool$Sharing", "<init>", "()V"⟩) ∈ gW := tin_1 (List.mem_of_getElem? (i := 142) rfl) rfl
theorem gm_214 : (Cond.code ⟨"LetterSchool$Sharing", "<init>", "()V"⟩ prog_7_method_1_code 1 (Option.none : Option FieldType)) ∈ gW := tin_1 (List.mem_of_getElem? (i := 143) rfl) rfl
theorem gm_215 : (Cond.methodLink "LetterSchool$Sharing" 3 ⟨"java/lang/Object", "<init>", "()V"⟩) ∈ gW := tin_1 (List.mem_of_getElem? (i := 144) rfl) rfl
theorem gm_216 : (Cond.fieldLink "LetterSchool$Sharing" 9 "LetterSchool$Sharing" "thing" "[I") ∈ gW := tin_1 (List.mem_of_getElem? (i := 145) rfl) rfl
theorem gm_217 : (Cond.fieldLink "LetterSchool$Sharing" 15 "LetterSchool$Sharing" "fit" "[I") ∈ gW := tin_1 (List.mem_of_getElem? (i := 146) rfl) rfl
theorem gm_218 : (Cond.fieldLink "LetterSchool$Sharing" 18 "LetterSchool$Sharing" "now" "[I") ∈ gW := tin_1 (List.mem_of_getElem? (i := 147) rfl) rfl
theorem gm_219 : (Cond.fieldLink "LetterSchool$Sharing" 21 "LetterSchool$Sharing" "chosen" "[I") ∈ gW := tin_1 (List.mem_of_getElem? (i := 148) rfl) rfl
theorem gm_220 : (Cond.fieldLink "LetterSchool$Sharing" 24 "LetterSchool$Sharing" "mostLater" "[I") ∈ gW := tin_1 (List.mem_of_getElem? (i := 149) rfl) rfl
theorem gm_221 : (Cond.fieldLink "LetterSchool$Sharing" 27 "LetterSchool$Sharing" "daysLater" "[I") ∈ gW := tin_1 (List.mem_of_getElem? (i := 150) rfl) rfl
theorem gm_222 : (Cond.fieldLink "LetterSchool$Sharing" 30 "LetterSchool$Sharing" "load" "[I") ∈ gW := tin_1 (List.mem_of_getElem? (i := 151) rfl) rfl
theorem gm_223 : (Cond.fieldLink "LetterSchool$Sharing" 33 "LetterSchool$Sharing" "pace" "[I") ∈ gW := tin_1 (List.mem_of_getElem? (i := 152) rfl) rfl
theorem gm_224 : (Cond.fieldLink "LetterSchool$Sharing" 36 "LetterSchool$Sharing" "count" "I") ∈ gW := tin_1 (List.mem_of_getElem? (i := 153) rfl) rfl
theorem gm_225 : (Cond.fieldLink "LetterSchool$Sharing" 40 "LetterSchool$Sharing" "tutors" "I") ∈ gW := tin_1 (List.mem_of_getElem? (i := 154) rfl) rfl
theorem gm_226 : (Cond.fieldLink "LetterSchool$Sharing" 43 "LetterSchool$Sharing" "mostGiven" "I") ∈ gW := tin_1 (List.mem_of_getElem? (i := 155) rfl) rfl
theorem gm_228 : (Cond.fieldLink "LetterSchool$Sharing" 46 "LetterSchool$Sharing" "leastDays" "I") ∈ gW := tin_1 (List.mem_of_getElem? (i := 157) rfl) rfl
theorem gm_230 : (Cond.laysFinal "LetterSchool$Sharing" "LetterSchool$Sharing" "thing" "[I") ∈ gW := tin_1 (List.mem_of_getElem? (i := 159) rfl) rfl
theorem gm_232 : (Cond.laysFinal "LetterSchool$Sharing" "LetterSchool$Sharing" "fit" "[I") ∈ gW := tin_1 (List.mem_of_getElem? (i := 161) rfl) rfl
theorem gm_234 : (Cond.laysFinal "LetterSchool$Sharing" "LetterSchool$Sharing" "now" "[I") ∈ gW := tin_1 (List.mem_of_getElem? (i := 163) rfl) rfl
theorem gm_236 : (Cond.laysFinal "LetterSchool$Sharing" "LetterSchool$Sharing" "chosen" "[I") ∈ gW := tin_1 (List.mem_of_getElem? (i := 165) rfl) rfl
theorem gm_238 : (Cond.laysFinal "LetterSchool$Sharing" "LetterSchool$Sharing" "mostLater" "[I") ∈ gW := tin_1 (List.mem_of_getElem? (i := 167) rfl) rfl
theorem gm_240 : (Cond.laysFinal "LetterSchool$Sharing" "LetterSchool$Sharing" "daysLater" "[I") ∈ gW := tin_1 (List.mem_of_getElem? (i := 169) rfl) rfl
theorem gm_242 : (Cond.laysFinal "LetterSchool$Sharing" "LetterSchool$Sharing" "load" "[I") ∈ gW := tin_1 (List.mem_of_getElem? (i := 171) rfl) rfl
theorem gm_244 : (Cond.laysFinal "LetterSchool$Sharing" "LetterSchool$Sharing" "pace" "[I") ∈ gW := tin_1 (List.mem_of_getElem? (i := 173) rfl) rfl
theorem gm_246 : (Cond.lays "LetterSchool$Sharing" "LetterSchool$Sharing" "count" "I") ∈ gW := tin_1 (List.mem_of_getElem? (i := 175) rfl) rfl
theorem gm_248 : (Cond.lays "LetterSchool$Sharing" "LetterSchool$Sharing" "tutors" "I") ∈ gW := tin_1 (List.mem_of_getElem? (i := 177) rfl) rfl
theorem gm_250 : (Cond.lays "LetterSchool$Sharing" "LetterSchool$Sharing" "mostGiven" "I") ∈ gW := tin_1 (List.mem_of_getElem? (i := 179) rfl) rfl
theorem gm_252 : (Cond.lays "LetterSchool$Sharing" "LetterSchool$Sharing" "leastDays" "I") ∈ gW := tin_1 (List.mem_of_getElem? (i := 181) rfl) rfl
theorem gm_255 : (Cond.classLink "LetterSchool" 103 "LetterSchool$Way") ∈ gW := tin_1 (List.mem_of_getElem? (i := 184) rfl) rfl
theorem gm_256 : (Cond.instantiable "LetterSchool$Way" 3) ∈ gW := tin_1 (List.mem_of_getElem? (i := 185) rfl) rfl
theorem gm_258 : (Cond.instanceMethod ⟨"LetterSchool$Way", "<init>", "()V"⟩) ∈ gW := tin_1 (List.mem_of_getElem? (i := 187) rfl) rfl
theorem gm_259 : (Cond.code ⟨"LetterSchool$Way", "<init>", "()V"⟩ prog_12_method_1_code 1 (Option.none : Option FieldType)) ∈ gW := tin_1 (List.mem_of_getElem? (i := 188) rfl) rfl
theorem gm_260 : (Cond.methodLink "LetterSchool$Way" 3 ⟨"java/lang/Object", "<init>", "()V"⟩) ∈ gW := tin_1 (List.mem_of_getElem? (i := 189) rfl) rfl
theorem gm_261 : (Cond.fieldLink "LetterSchool$Way" 11 "LetterSchool$Way" "steps" "[I") ∈ gW := tin_1 (List.mem_of_getElem? (i := 190) rfl) rfl
theorem gm_262 : (Cond.fieldLink "LetterSchool$Way" 15 "LetterSchool$Way" "queue" "[I") ∈ gW := tin_1 (List.mem_of_getElem? (i := 191) rfl) rfl
theorem gm_263 : (Cond.fieldLink "LetterSchool$Way" 18 "LetterSchool$Way" "then" "[I") ∈ gW := tin_1 (List.mem_of_getElem? (i := 192) rfl) rfl
theorem gm_264 : (Cond.laysFinal "LetterSchool$Way" "LetterSchool$Way" "steps" "[I") ∈ gW := tin_1 (List.mem_of_getElem? (i := 193) rfl) rfl
theorem gm_266 : (Cond.laysFinal "LetterSchool$Way" "LetterSchool$Way" "queue" "[I") ∈ gW := tin_1 (List.mem_of_getElem? (i := 195) rfl) rfl
theorem gm_268 : (Cond.laysFinal "LetterSchool$Way" "LetterSchool$Way" "then" "[I") ∈ gW := tin_1 (List.mem_of_getElem? (i := 197) rfl) rfl
theorem gm_271 : (Cond.instantiable "LetterSchool$Post" 3) ∈ gW := tin_1 (List.mem_of_getElem? (i := 200) rfl) rfl
theorem gm_273 : (Cond.instanceMethod ⟨"LetterSchool$Post", "<init>", "()V"⟩) ∈ gW := tin_1 (List.mem_of_getElem? (i := 202) rfl) rfl
theorem gm_274 : (Cond.code ⟨"LetterSchool$Post", "<init>", "()V"⟩ prog_5_method_1_code 1 (Option.none : Option FieldType)) ∈ gW := tin_1 (List.mem_of_getElem? (i := 203) rfl) rfl
theorem gm_275 : (Cond.methodLink "LetterSchool$Post" 1 ⟨"java/lang/Object", "<init>", "()V"⟩) ∈ gW := tin_1 (List.mem_of_getElem? (i := 204) rfl) rfl
theorem gm_276 : (Cond.fieldLink "LetterSchool$Post" 7 "LetterSchool$Post" "days" "I") ∈ gW := tin_1 (List.mem_of_getElem? (i := 205) rfl) rfl
theorem gm_278 : (Cond.fieldLink "LetterSchool$Post" 13 "LetterSchool$Post" "each" "I") ∈ gW := tin_1 (List.mem_of_getElem? (i := 207) rfl) rfl
theorem gm_280 : (Cond.fieldLink "LetterSchool$Post" 16 "LetterSchool$Post" "carried" "I") ∈ gW := tin_1 (List.mem_of_getElem? (i := 209) rfl) rfl
theorem gm_282 : (Cond.lays "LetterSchool$Post" "LetterSchool$Post" "days" "I") ∈ gW := tin_1 (List.mem_of_getElem? (i := 211) rfl) rfl
theorem gm_284 : (Cond.lays "LetterSchool$Post" "LetterSchool$Post" "each" "I") ∈ gW := tin_1 (List.mem_of_getElem? (i := 213) rfl) rfl
theorem gm_286 : (Cond.lays "LetterSchool$Post" "LetterSchool$Post" "carried" "I") ∈ gW := tin_1 (List.mem_of_getElem? (i := 215) rfl) rfl
theorem gm_289 : (Cond.instantiable "LetterSchool$Sheet" 3) ∈ gW := tin_1 (List.mem_of_getElem? (i := 218) rfl) rfl
theorem gm_291 : (Cond.instanceMethod ⟨"LetterSchool$Sheet", "<init>", "()V"⟩) ∈ gW := tin_1 (List.mem_of_getElem? (i := 220) rfl) rfl
theorem gm_292 : (Cond.code ⟨"LetterSchool$Sheet", "<init>", "()V"⟩ prog_8_method_1_code 1 (Option.none : Option FieldType)) ∈ gW := tin_1 (List.mem_of_getElem? (i := 221) rfl) rfl
theorem gm_293 : (Cond.methodLink "LetterSchool$Sheet" 3 ⟨"java/lang/Object", "<init>", "()V"⟩) ∈ gW := tin_1 (List.mem_of_getElem? (i := 222) rfl) rfl
theorem gm_294 : (Cond.fieldLink "LetterSchool$Sheet" 11 "LetterSchool$Sheet" "lane" "I") ∈ gW := tin_1 (List.mem_of_getElem? (i := 223) rfl) rfl
theorem gm_296 : (Cond.fieldLink "LetterSchool$Sheet" 15 "LetterSchool$Sheet" "size" "I") ∈ gW := tin_1 (List.mem_of_getElem? (i := 225) rfl) rfl
theorem gm_298 : (Cond.fieldLink "LetterSchool$Sheet" 18 "LetterSchool$Sheet" "items" "[I") ∈ gW := tin_1 (List.mem_of_getElem? (i := 227) rfl) rfl
theorem gm_300 : (Cond.lays "LetterSchool$Sheet" "LetterSchool$Sheet" "lane" "I") ∈ gW := tin_1 (List.mem_of_getElem? (i := 229) rfl) rfl
theorem gm_302 : (Cond.lays "LetterSchool$Sheet" "LetterSchool$Sheet" "size" "I") ∈ gW := tin_1 (List.mem_of_getElem? (i := 231) rfl) rfl
theorem gm_304 : (Cond.laysFinal "LetterSchool$Sheet" "LetterSchool$Sheet" "items" "[I") ∈ gW := tin_1 (List.mem_of_getElem? (i := 233) rfl) rfl
theorem gm_307 : (Cond.fieldLink "LetterSchool" 10 "LetterSchool" "tape" "LLetterSchool$Tape;") ∈ gW := tin_1 (List.mem_of_getElem? (i := 236) rfl) rfl
theorem gm_308 : (Cond.fieldLink "LetterSchool" 18 "LetterSchool" "editions" "[LLetterSchool$Edition;") ∈ gW := tin_1 (List.mem_of_getElem? (i := 237) rfl) rfl
theorem gm_309 : (Cond.fieldLink "LetterSchool" 22 "LetterSchool" "editionCount" "[I") ∈ gW := tin_1 (List.mem_of_getElem? (i := 238) rfl) rfl
theorem gm_310 : (Cond.fieldLink "LetterSchool" 28 "LetterSchool" "feesOf" "[LLetterSchool$Fees;") ∈ gW := tin_1 (List.mem_of_getElem? (i := 239) rfl) rfl
theorem gm_311 : (Cond.fieldLink "LetterSchool" 33 "LetterSchool" "draftEdition" "LLetterSchool$Edition;") ∈ gW := tin_2 (List.mem_of_getElem? (i := 0) rfl) rfl
theorem gm_312 : (Cond.fieldLink "LetterSchool" 38 "LetterSchool" "draftFees" "LLetterSchool$Fees;") ∈ gW := tin_2 (List.mem_of_getElem? (i := 1) rfl) rfl
theorem gm_313 : (Cond.fieldLink "LetterSchool" 44 "LetterSchool" "pupils" "[LLetterSchool$Pupil;") ∈ gW := tin_2 (List.mem_of_getElem? (i := 2) rfl) rfl
theorem gm_314 : (Cond.fieldLink "LetterSchool" 48 "LetterSchool" "pupilCount" "I") ∈ gW := tin_2 (List.mem_of_getElem? (i := 3) rfl) rfl
theorem gm_315 : (Cond.fieldLink "LetterSchool" 54 "LetterSchool" "tutors" "[LLetterSchool$Tutor;") ∈ gW := tin_2 (List.mem_of_getElem? (i := 4) rfl) rfl
theorem gm_316 : (Cond.fieldLink "LetterSchool" 58 "LetterSchool" "tutorCount" "I") ∈ gW := tin_2 (List.mem_of_getElem? (i := 5) rfl) rfl
theorem gm_317 : (Cond.fieldLink "LetterSchool" 63 "LetterSchool" "things" "[LLetterSchool$Thing;") ∈ gW := tin_2 (List.mem_of_getElem? (i := 6) rfl) rfl
theorem gm_318 : (Cond.fieldLink "LetterSchool" 67 "LetterSchool" "thingCount" "I") ∈ gW := tin_2 (List.mem_of_getElem? (i := 7) rfl) rfl
theorem gm_319 : (Cond.fieldLink "LetterSchool" 72 "LetterSchool" "posts" "[LLetterSchool$Post;") ∈ gW := tin_2 (List.mem_of_getElem? (i := 8) rfl) rfl
theorem gm_320 : (Cond.fieldLink "LetterSchool" 79 "LetterSchool" "ledger" "LLetterSchool$Ledger;") ∈ gW := tin_2 (List.mem_of_getElem? (i := 9) rfl) rfl
theorem gm_321 : (Cond.fieldLink "LetterSchool" 83 "LetterSchool" "keys" "[B") ∈ gW := tin_2 (List.mem_of_getElem? (i := 10) rfl) rfl
theorem gm_322 : (Cond.fieldLink "LetterSchool" 87 "LetterSchool" "doubtLimit" "I") ∈ gW := tin_2 (List.mem_of_getElem? (i := 11) rfl) rfl
theorem gm_323 : (Cond.fieldLink "LetterSchool" 92 "LetterSchool" "sheets" "[LLetterSchool$Sheet;") ∈ gW := tin_2 (List.mem_of_getElem? (i := 12) rfl) rfl
theorem gm_324 : (Cond.fieldLink "LetterSchool" 99 "LetterSchool" "sharing" "LLetterSchool$Sharing;") ∈ gW := tin_2 (List.mem_of_getElem? (i := 13) rfl) rfl
theorem gm_325 : (Cond.fieldLink "LetterSchool" 106 "LetterSchool" "way" "LLetterSchool$Way;") ∈ gW := tin_2 (List.mem_of_getElem? (i := 14) rfl) rfl
theorem gm_326 : (Cond.fieldLink "LetterSchool" 110 "LetterSchool" "bests" "[I") ∈ gW := tin_2 (List.mem_of_getElem? (i := 15) rfl) rfl
theorem gm_327 : (Cond.laysFinal "LetterSchool" "LetterSchool" "tape" "LLetterSchool$Tape;") ∈ gW := tin_2 (List.mem_of_getElem? (i := 16) rfl) rfl
theorem gm_329 : (Cond.laysFinal "LetterSchool" "LetterSchool" "editions" "[LLetterSchool$Edition;") ∈ gW := tin_2 (List.mem_of_getElem? (i := 18) rfl) rfl
theorem gm_331 : (Cond.laysFinal "LetterSchool" "LetterSchool" "editionCount" "[I") ∈ gW := tin_2 (List.mem_of_getElem? (i := 20) rfl) rfl
theorem gm_333 : (Cond.laysFinal "LetterSchool" "LetterSchool" "feesOf" "[LLetterSchool$Fees;") ∈ gW := tin_2 (List.mem_of_getElem? (i := 22) rfl) rfl
theorem gm_335 : (Cond.lays "LetterSchool" "LetterSchool" "draftEdition" "LLetterSchool$Edition;") ∈ gW := tin_2 (List.mem_of_getElem? (i := 24) rfl) rfl
theorem gm_337 : (Cond.lays "LetterSchool" "LetterSchool" "draftFees" "LLetterSchool$Fees;") ∈ gW := tin_2 (List.mem_of_getElem? (i := 26) rfl) rfl
theorem gm_339 : (Cond.laysFinal "LetterSchool" "LetterSchool" "pupils" "[LLetterSchool$Pupil;") ∈ gW := tin_2 (List.mem_of_getElem? (i := 28) rfl) rfl
theorem gm_341 : (Cond.lays "LetterSchool" "LetterSchool" "pupilCount" "I") ∈ gW := tin_2 (List.mem_of_getElem? (i := 30) rfl) rfl
theorem gm_343 : (Cond.laysFinal "LetterSchool" "LetterSchool" "tutors" "[LLetterSchool$Tutor;") ∈ gW := tin_2 (List.mem_of_getElem? (i := 32) rfl) rfl
theorem gm_345 : (Cond.lays "LetterSchool" "LetterSchool" "tutorCount" "I") ∈ gW := tin_2 (List.mem_of_getElem? (i := 34) rfl) rfl
theorem gm_347 : (Cond.laysFinal "LetterSchool" "LetterSchool" "things" "[LLetterSchool$Thing;") ∈ gW := tin_2 (List.mem_of_getElem? (i := 36) rfl) rfl
theorem gm_349 : (Cond.lays "LetterSchool" "LetterSchool" "thingCount" "I") ∈ gW := tin_2 (List.mem_of_getElem? (i := 38) rfl) rfl
theorem gm_351 : (Cond.laysFinal "LetterSchool" "LetterSchool" "posts" "[LLetterSchool$Post;") ∈ gW := tin_2 (List.mem_of_getElem? (i := 40) rfl) rfl
theorem gm_353 : (Cond.laysFinal "LetterSchool" "LetterSchool" "ledger" "LLetterSchool$Ledger;") ∈ gW := tin_2 (List.mem_of_getElem? (i := 42) rfl) rfl
theorem gm_355 : (Cond.laysFinal "LetterSchool" "LetterSchool" "keys" "[B") ∈ gW := tin_2 (List.mem_of_getElem? (i := 44) rfl) rfl
theorem gm_357 : (Cond.lays "LetterSchool" "LetterSchool" "doubtLimit" "I") ∈ gW := tin_2 (List.mem_of_getElem? (i := 46) rfl) rfl
theorem gm_359 : (Cond.laysFinal "LetterSchool" "LetterSchool" "sheets" "[LLetterSchool$Sheet;") ∈ gW := tin_2 (List.mem_of_getElem? (i := 48) rfl) rfl
theorem gm_361 : (Cond.laysFinal "LetterSchool" "LetterSchool" "sharing" "LLetterSchool$Sharing;") ∈ gW := tin_2 (List.mem_of_getElem? (i := 50) rfl) rfl
theorem gm_363 : (Cond.laysFinal "LetterSchool" "LetterSchool" "way" "LLetterSchool$Way;") ∈ gW := tin_2 (List.mem_of_getElem? (i := 52) rfl) rfl
theorem gm_365 : (Cond.laysFinal "LetterSchool" "LetterSchool" "bests" "[I") ∈ gW := tin_2 (List.mem_of_getElem? (i := 54) rfl) rfl
theorem gm_368 : (Cond.methodLink "LetterSchoolLaw" 15 ⟨"LetterSchool", "type", "(JI)I"⟩) ∈ gW := tin_2 (List.mem_of_getElem? (i := 57) rfl) rfl
theorem gm_369 : (Cond.instanceMethod ⟨"LetterSchool", "type", "(JI)I"⟩) ∈ gW := tin_2 (List.mem_of_getElem? (i := 58) rfl) rfl
theorem gm_370 : (Cond.selects "LetterSchool" ⟨"LetterSchool", "type", "(JI)I"⟩ ⟨"LetterSchool", "type", "(JI)I"⟩) ∈ gW := tin_2 (List.mem_of_getElem? (i := 59) rfl) rfl
theorem gm_371 : (Cond.code ⟨"LetterSchool", "type", "(JI)I"⟩ prog_1_method_2_code 6 (Option.some FieldType.int)) ∈ gW := tin_2 (List.mem_of_getElem? (i := 60) rfl) rfl
theorem gm_372 : (Cond.methodLink "LetterSchool" 118 ⟨"LetterSchool$Tape", "append", "(I)V"⟩) ∈ gW := tin_2 (List.mem_of_getElem? (i := 61) rfl) rfl
theorem gm_373 : (Cond.instanceMethod ⟨"LetterSchool$Tape", "append", "(I)V"⟩) ∈ gW := tin_2 (List.mem_of_getElem? (i := 62) rfl) rfl
theorem gm_374 : (Cond.selects "LetterSchool$Tape" ⟨"LetterSchool$Tape", "append", "(I)V"⟩ ⟨"LetterSchool$Tape", "append", "(I)V"⟩) ∈ gW := tin_2 (List.mem_of_getElem? (i := 63) rfl) rfl
theorem gm_375 : (Cond.code ⟨"LetterSchool$Tape", "append", "(I)V"⟩ prog_9_method_2_code 2 (Option.none : Option FieldType)) ∈ gW := tin_2 (List.mem_of_getElem? (i := 64) rfl) rfl
theorem gm_376 : (Cond.methodLink "LetterSchoolLaw" 20 ⟨"LetterSchool", "edition", "(II)I"⟩) ∈ gW := tin_2 (List.mem_of_getElem? (i := 65) rfl) rfl
theorem gm_377 : (Cond.instanceMethod ⟨"LetterSchool", "edition", "(II)I"⟩) ∈ gW := tin_2 (List.mem_of_getElem? (i := 66) rfl) rfl
theorem gm_378 : (Cond.selects "LetterSchool" ⟨"LetterSchool", "edition", "(II)I"⟩ ⟨"LetterSchool", "edition", "(II)I"⟩) ∈ gW := tin_2 (List.mem_of_getElem? (i := 67) rfl) rfl
theorem gm_379 : (Cond.code ⟨"LetterSchool", "edition", "(II)I"⟩ prog_1_method_3_code 5 (Option.some FieldType.int)) ∈ gW := tin_2 (List.mem_of_getElem? (i := 68) rfl) rfl
theorem gm_380 : (Cond.methodLink "LetterSchool" 122 ⟨"LetterSchool", "isIn", "(II)Z"⟩) ∈ gW := tin_2 (List.mem_of_getElem? (i := 69) rfl) rfl
theorem gm_381 : (Cond.static ⟨"LetterSchool", "isIn", "(II)Z"⟩) ∈ gW := tin_2 (List.mem_of_getElem? (i := 70) rfl) rfl
theorem gm_382 : (Cond.code ⟨"LetterSchool", "isIn", "(II)Z"⟩ prog_1_method_44_code 2 (Option.some FieldType.boolean)) ∈ gW := tin_2 (List.mem_of_getElem? (i := 71) rfl) rfl
theorem gm_383 : (Cond.methodLink "LetterSchool" 126 ⟨"LetterSchool", "isDay", "(I)Z"⟩) ∈ gW := tin_2 (List.mem_of_getElem? (i := 72) rfl) rfl
theorem gm_384 : (Cond.static ⟨"LetterSchool", "isDay", "(I)Z"⟩) ∈ gW := tin_2 (List.mem_of_getElem? (i := 73) rfl) rfl
theorem gm_385 : (Cond.code ⟨"LetterSchool", "isDay", "(I)Z"⟩ prog_1_method_45_code 1 (Option.some FieldType.boolean)) ∈ gW := tin_2 (List.mem_of_getElem? (i := 74) rfl) rfl
theorem gm_386 : (Cond.methodLink "LetterSchool" 130 ⟨"LetterSchool", "latestFrom", "(I)I"⟩) ∈ gW := tin_2 (List.mem_of_getElem? (i := 75) rfl) rfl
theorem gm_388 : (Cond.instanceMethod ⟨"LetterSchool", "latestFrom", "(I)I"⟩) ∈ gW := tin_2 (List.mem_of_getElem? (i := 77) rfl) rfl
theorem gm_389 : (Cond.code ⟨"LetterSchool", "latestFrom", "(I)I"⟩ prog_1_method_53_code 3 (Option.some FieldType.int)) ∈ gW := tin_2 (List.mem_of_getElem? (i := 78) rfl) rfl
theorem gm_390 : (Cond.methodLink "LetterSchool" 144 ⟨"LetterSchool", "editionAt", "(II)LLetterSchool$Edition;"⟩) ∈ gW := tin_2 (List.mem_of_getElem? (i := 79) rfl) rfl
theorem gm_392 : (Cond.instanceMethod ⟨"LetterSchool", "editionAt", "(II)LLetterSchool$Edition;"⟩) ∈ gW := tin_2 (List.mem_of_getElem? (i := 81) rfl) rfl
theorem gm_393 : (Cond.code ⟨"LetterSchool", "editionAt", "(II)LLetterSchool$Edition;"⟩ prog_1_method_52_code 3 (Option.some (FieldType.object "LetterSchool$Edition"))) ∈ gW := tin_2 (List.mem_of_getElem? (i := 82) rfl) rfl
theorem gm_394 : (Cond.methodLink "LetterSchool" 134 ⟨"LetterSchool$Tape", "readEdition", "(LLetterSchool$Edition;)Z"⟩) ∈ gW := tin_2 (List.mem_of_getElem? (i := 83) rfl) rfl
theorem gm_395 : (Cond.instanceMethod ⟨"LetterSchool$Tape", "readEdition", "(LLetterSchool$Edition;)Z"⟩) ∈ gW := tin_2 (List.mem_of_getElem? (i := 84) rfl) rfl
theorem gm_396 : (Cond.selects "LetterSchool$Tape" ⟨"LetterSchool$Tape", "readEdition", "(LLetterSchool$Edition;)Z"⟩ ⟨"LetterSchool$Tape", "readEdition", "(LLetterSchool$Edition;)Z"⟩) ∈ gW := tin_2 (List.mem_of_getElem? (i := 85) rfl) rfl
theorem gm_397 : (Cond.code ⟨"LetterSchool$Tape", "readEdition", "(LLetterSchool$Edition;)Z"⟩ prog_9_method_7_code 3 (Option.some FieldType.boolean)) ∈ gW := tin_2 (List.mem_of_getElem? (i := 86) rfl) rfl
theorem gm_398 : (Cond.methodLink "LetterSchool$Tape" 36 ⟨"LetterSchool$Edition", "clear", "()V"⟩) ∈ gW := tin_2 (List.mem_of_getElem? (i := 87) rfl) rfl
theorem gm_399 : (Cond.instanceMethod ⟨"LetterSchool$Edition", "clear", "()V"⟩) ∈ gW := tin_2 (List.mem_of_getElem? (i := 88) rfl) rfl
theorem gm_400 : (Cond.selects "LetterSchool$Edition" ⟨"LetterSchool$Edition", "clear", "()V"⟩ ⟨"LetterSchool$Edition", "clear", "()V"⟩) ∈ gW := tin_2 (List.mem_of_getElem? (i := 89) rfl) rfl
theorem gm_401 : (Cond.code ⟨"LetterSchool$Edition", "clear", "()V"⟩ prog_2_method_2_code 1 (Option.none : Option FieldType)) ∈ gW := tin_2 (List.mem_of_getElem? (i := 90) rfl) rfl
theorem gm_402 : (Cond.methodLink "LetterSchool$Tape" 41 ⟨"LetterSchool$Tape", "readLesson", "(LLetterSchool$Edition;)Z"⟩) ∈ gW := tin_2 (List.mem_of_getElem? (i := 91) rfl) rfl
theorem gm_404 : (Cond.instanceMethod ⟨"LetterSchool$Tape", "readLesson", "(LLetterSchool$Edition;)Z"⟩) ∈ gW := tin_2 (List.mem_of_getElem? (i := 93) rfl) rfl
theorem gm_405 : (Cond.code ⟨"LetterSchool$Tape", "readLesson", "(LLetterSchool$Edition;)Z"⟩ prog_9_method_8_code 5 (Option.some FieldType.boolean)) ∈ gW := tin_2 (List.mem_of_getElem? (i := 94) rfl) rfl
theorem gm_406 : (Cond.methodLink "LetterSchool$Tape" 22 ⟨"LetterSchool$Tape", "next", "()I"⟩) ∈ gW := tin_2 (List.mem_of_getElem? (i := 95) rfl) rfl
theorem gm_408 : (Cond.instanceMethod ⟨"LetterSchool$Tape", "next", "()I"⟩) ∈ gW := tin_2 (List.mem_of_getElem? (i := 97) rfl) rfl
theorem gm_409 : (Cond.code ⟨"LetterSchool$Tape", "next", "()I"⟩ prog_9_method_3_code 2 (Option.some FieldType.int)) ∈ gW := tin_2 (List.mem_of_getElem? (i := 98) rfl) rfl
theorem gm_411 : (Cond.methodLink "LetterSchool$Tape" 56 ⟨"LetterSchool$Edition", "tells", "(I)Z"⟩) ∈ gW := tin_2 (List.mem_of_getElem? (i := 100) rfl) rfl
theorem gm_412 : (Cond.instanceMethod ⟨"LetterSchool$Edition", "tells", "(I)Z"⟩) ∈ gW := tin_2 (List.mem_of_getElem? (i := 101) rfl) rfl
theorem gm_413 : (Cond.selects "LetterSchool$Edition" ⟨"LetterSchool$Edition", "tells", "(I)Z"⟩ ⟨"LetterSchool$Edition", "tells", "(I)Z"⟩) ∈ gW := tin_2 (List.mem_of_getElem? (i := 102) rfl) rfl
theorem gm_414 : (Cond.code ⟨"LetterSchool$Edition", "tells", "(I)Z"⟩ prog_2_method_3_code 2 (Option.some FieldType.boolean)) ∈ gW := tin_2 (List.mem_of_getElem? (i := 103) rfl) rfl
theorem gm_416 : (Cond.methodLink "LetterSchool$Tape" 49 ⟨"LetterSchool$Tape", "takes", "(I)Z"⟩) ∈ gW := tin_2 (List.mem_of_getElem? (i := 105) rfl) rfl
theorem gm_418 : (Cond.instanceMethod ⟨"LetterSchool$Tape", "takes", "(I)Z"⟩) ∈ gW := tin_2 (List.mem_of_getElem? (i := 107) rfl) rfl
theorem gm_419 : (Cond.code ⟨"LetterSchool$Tape", "takes", "(I)Z"⟩ prog_9_method_4_code 2 (Option.some FieldType.boolean)) ∈ gW := tin_2 (List.mem_of_getElem? (i := 108) rfl) rfl
theorem gm_420 : (Cond.methodLink "LetterSchool$Tape" 59 ⟨"LetterSchool$Tape", "takeNumber", "(I)I"⟩) ∈ gW := tin_2 (List.mem_of_getElem? (i := 109) rfl) rfl
theorem gm_422 : (Cond.instanceMethod ⟨"LetterSchool$Tape", "takeNumber", "(I)I"⟩) ∈ gW := tin_2 (List.mem_of_getElem? (i := 111) rfl) rfl
theorem gm_423 : (Cond.code ⟨"LetterSchool$Tape", "takeNumber", "(I)I"⟩ prog_9_method_6_code 5 (Option.some FieldType.int)) ∈ gW := tin_2 (List.mem_of_getElem? (i := 112) rfl) rfl
theorem gm_424 : (Cond.methodLink "LetterSchool$Tape" 26 ⟨"LetterSchool$Tape", "isDigit", "(I)Z"⟩) ∈ gW := tin_2 (List.mem_of_getElem? (i := 113) rfl) rfl
theorem gm_425 : (Cond.static ⟨"LetterSchool$Tape", "isDigit", "(I)Z"⟩) ∈ gW := tin_2 (List.mem_of_getElem? (i := 114) rfl) rfl
theorem gm_426 : (Cond.code ⟨"LetterSchool$Tape", "isDigit", "(I)Z"⟩ prog_9_method_5_code 1 (Option.some FieldType.boolean)) ∈ gW := tin_2 (List.mem_of_getElem? (i := 115) rfl) rfl
theorem gm_427 : (Cond.methodLink "LetterSchool$Tape" 30 ⟨"java/lang/Math", "min", "(II)I"⟩) ∈ gW := tin_2 (List.mem_of_getElem? (i := 116) rfl) rfl
theorem gm_428 : (Cond.static ⟨"java/lang/Math", "min", "(II)I"⟩) ∈ gW := tin_2 (List.mem_of_getElem? (i := 117) rfl) rfl
theorem gm_429 : (Cond.code ⟨"java/lang/Math", "min", "(II)I"⟩ prog_16_method_69_code 2 (Option.some FieldType.int)) ∈ gW := tin_2 (List.mem_of_getElem? (i := 118) rfl) rfl
theorem gm_430 : (Cond.methodLink "LetterSchool$Tape" 63 ⟨"LetterSchool$Edition", "tell", "(III)V"⟩) ∈ gW := tin_2 (List.mem_of_getElem? (i := 119) rfl) rfl
theorem gm_431 : (Cond.instanceMethod ⟨"LetterSchool$Edition", "tell", "(III)V"⟩) ∈ gW := tin_2 (List.mem_of_getElem? (i := 120) rfl) rfl
theorem gm_432 : (Cond.selects "LetterSchool$Edition" ⟨"LetterSchool$Edition", "tell", "(III)V"⟩ ⟨"LetterSchool$Edition", "tell", "(III)V"⟩) ∈ gW := tin_2 (List.mem_of_getElem? (i := 121) rfl) rfl
theorem gm_433 : (Cond.code ⟨"LetterSchool$Edition", "tell", "(III)V"⟩ prog_2_method_4_code 4 (Option.none : Option FieldType)) ∈ gW := tin_2 (List.mem_of_getElem? (i := 122) rfl) rfl
theorem gm_434 : (Cond.methodLink "LetterSchool$Tape" 67 ⟨"LetterSchool$Tape", "readCases", "(LLetterSchool$Edition;II)Z"⟩) ∈ gW := tin_2 (List.mem_of_getElem? (i := 123) rfl) rfl
theorem gm_436 : (Cond.instanceMethod ⟨"LetterSchool$Tape", "readCases", "(LLetterSchool$Edition;II)Z"⟩) ∈ gW := tin_2 (List.mem_of_getElem? (i := 125) rfl) rfl
theorem gm_437 : (Cond.code ⟨"LetterSchool$Tape", "readCases", "(LLetterSchool$Edition;II)Z"⟩ prog_9_method_9_code 6 (Option.some FieldType.boolean)) ∈ gW := tin_2 (List.mem_of_getElem? (i := 126) rfl) rfl
theorem gm_438 : (Cond.methodLink "LetterSchool$Tape" 71 ⟨"LetterSchool$Tape", "readClaim", "(LLetterSchool$Edition;II)Z"⟩) ∈ gW := tin_2 (List.mem_of_getElem? (i := 127) rfl) rfl
theorem gm_440 : (Cond.instanceMethod ⟨"LetterSchool$Tape", "readClaim", "(LLetterSchool$Edition;II)Z"⟩) ∈ gW := tin_2 (List.mem_of_getElem? (i := 129) rfl) rfl
theorem gm_441 : (Cond.code ⟨"LetterSchool$Tape", "readClaim", "(LLetterSchool$Edition;II)Z"⟩ prog_9_method_10_code 5 (Option.some FieldType.boolean)) ∈ gW := tin_2 (List.mem_of_getElem? (i := 130) rfl) rfl
theorem gm_442 : (Cond.methodLink "LetterSchool$Tape" 78 ⟨"LetterSchool$Tape", "readLeaning", "(LLetterSchool$Edition;I)Z"⟩) ∈ gW := tin_2 (List.mem_of_getElem? (i := 131) rfl) rfl
theorem gm_444 : (Cond.instanceMethod ⟨"LetterSchool$Tape", "readLeaning", "(LLetterSchool$Edition;I)Z"⟩) ∈ gW := tin_2 (List.mem_of_getElem? (i := 133) rfl) rfl
theorem gm_445 : (Cond.code ⟨"LetterSchool$Tape", "readLeaning", "(LLetterSchool$Edition;I)Z"⟩ prog_9_method_11_code 5 (Option.some FieldType.boolean)) ∈ gW := tin_2 (List.mem_of_getElem? (i := 134) rfl) rfl
theorem gm_446 : (Cond.methodLink "LetterSchool$Tape" 82 ⟨"LetterSchool$Edition", "addPassed", "(II)V"⟩) ∈ gW := tin_2 (List.mem_of_getElem? (i := 135) rfl) rfl
theorem gm_447 : (Cond.instanceMethod ⟨"LetterSchool$Edition", "addPassed", "(II)V"⟩) ∈ gW := tin_2 (List.mem_of_getElem? (i := 136) rfl) rfl
theorem gm_448 : (Cond.selects "LetterSchool$Edition" ⟨"LetterSchool$Edition", "addPassed", "(II)V"⟩ ⟨"LetterSchool$Edition", "addPassed", "(II)V"⟩) ∈ gW := tin_2 (List.mem_of_getElem? (i := 137) rfl) rfl
theorem gm_449 : (Cond.code ⟨"LetterSchool$Edition", "addPassed", "(II)V"⟩ prog_2_method_5_code 3 (Option.none : Option FieldType)) ∈ gW := tin_2 (List.mem_of_getElem? (i := 138) rfl) rfl
theorem gm_450 : (Cond.methodLink "LetterSchool$Edition" 47 ⟨"LetterSchool$Edition", "add", "(II)V"⟩) ∈ gW := tin_2 (List.mem_of_getElem? (i := 139) rfl) rfl
theorem gm_451 : (Cond.instanceMethod ⟨"LetterSchool$Edition", "add", "(II)V"⟩) ∈ gW := tin_2 (List.mem_of_getElem? (i := 140) rfl) rfl
theorem gm_452 : (Cond.selects "LetterSchool$Edition" ⟨"LetterSchool$Edition", "add", "(II)V"⟩ ⟨"LetterSchool$Edition", "add", "(II)V"⟩) ∈ gW := tin_2 (List.mem_of_getElem? (i := 141) rfl) rfl
theorem gm_453 : (Cond.code ⟨"LetterSchool$Edition", "add", "(II)V"⟩ prog_2_method_7_code 3 (Option.none : Option FieldType)) ∈ gW := tin_2 (List.mem_of_getElem? (i := 142) rfl) rfl
theorem gm_454 : (Cond.methodLink "LetterSchool$Tape" 85 ⟨"LetterSchool$Edition", "addAbove", "(III)V"⟩) ∈ gW := tin_2 (List.mem_of_getElem? (i := 143) rfl) rfl
theorem gm_455 : (Cond.instanceMethod ⟨"LetterSchool$Edition", "addAbove", "(III)V"⟩) ∈ gW := tin_2 (List.mem_of_getElem? (i := 144) rfl) rfl
theorem gm_456 : (Cond.selects "LetterSchool$Edition" ⟨"LetterSchool$Edition", "addAbove", "(III)V"⟩ ⟨"LetterSchool$Edition", "addAbove", "(III)V"⟩) ∈ gW := tin_2 (List.mem_of_getElem? (i := 145) rfl) rfl
theorem gm_457 : (Cond.code ⟨"LetterSchool$Edition", "addAbove", "(III)V"⟩ prog_2_method_6_code 4 (Option.none : Option FieldType)) ∈ gW := tin_2 (List.mem_of_getElem? (i := 146) rfl) rfl
theorem gm_458 : (Cond.methodLink "LetterSchool$Tape" 74 ⟨"LetterSchool$Edition", "add", "(II)V"⟩) ∈ gW := tin_2 (List.mem_of_getElem? (i := 147) rfl) rfl
theorem gm_459 : (Cond.methodLink "LetterSchool$Tape" 45 ⟨"LetterSchool$Edition", "leansOnToldAlone", "()Z"⟩) ∈ gW := tin_2 (List.mem_of_getElem? (i := 148) rfl) rfl
theorem gm_460 : (Cond.instanceMethod ⟨"LetterSchool$Edition", "leansOnToldAlone", "()Z"⟩) ∈ gW := tin_2 (List.mem_of_getElem? (i := 149) rfl) rfl
theorem gm_461 : (Cond.selects "LetterSchool$Edition" ⟨"LetterSchool$Edition", "leansOnToldAlone", "()Z"⟩ ⟨"LetterSchool$Edition", "leansOnToldAlone", "()Z"⟩) ∈ gW := tin_2 (List.mem_of_getElem? (i := 150) rfl) rfl
theorem gm_462 : (Cond.code ⟨"LetterSchool$Edition", "leansOnToldAlone", "()Z"⟩ prog_2_method_8_code 3 (Option.some FieldType.boolean)) ∈ gW := tin_2 (List.mem_of_getElem? (i := 151) rfl) rfl
theorem gm_463 : (Cond.methodLink "LetterSchool$Edition" 51 ⟨"LetterSchool$Edition", "tells", "(I)Z"⟩) ∈ gW := tin_2 (List.mem_of_getElem? (i := 152) rfl) rfl
theorem gm_464 : (Cond.methodLink "LetterSchoolLaw" 25 ⟨"LetterSchool", "told", "(III)I"⟩) ∈ gW := tin_2 (List.mem_of_getElem? (i := 153) rfl) rfl
theorem gm_465 : (Cond.instanceMethod ⟨"LetterSchool", "told", "(III)I"⟩) ∈ gW := tin_2 (List.mem_of_getElem? (i := 154) rfl) rfl
theorem gm_466 : (Cond.selects "LetterSchool" ⟨"LetterSchool", "told", "(III)I"⟩ ⟨"LetterSchool", "told", "(III)I"⟩) ∈ gW := tin_2 (List.mem_of_getElem? (i := 155) rfl) rfl
theorem gm_467 : (Cond.code ⟨"LetterSchool", "told", "(III)I"⟩ prog_1_method_4_code 5 (Option.some FieldType.int)) ∈ gW := tin_2 (List.mem_of_getElem? (i := 156) rfl) rfl
theorem gm_468 : (Cond.methodLink "LetterSchool" 151 ⟨"java/lang/Integer", "bitCount", "(I)I"⟩) ∈ gW := tin_2 (List.mem_of_getElem? (i := 157) rfl) rfl
theorem gm_469 : (Cond.static ⟨"java/lang/Integer", "bitCount", "(I)I"⟩) ∈ gW := tin_2 (List.mem_of_getElem? (i := 158) rfl) rfl
theorem gm_470 : (Cond.code ⟨"java/lang/Integer", "bitCount", "(I)I"⟩ prog_15_method_49_code 1 (Option.some FieldType.int)) ∈ gW := tin_2 (List.mem_of_getElem? (i := 159) rfl) rfl
theorem gm_471 : (Cond.constant "java/lang/Integer" 265 1431655765) ∈ gW := tin_2 (List.mem_of_getElem? (i := 160) rfl) rfl
theorem gm_472 : (Cond.constant "java/lang/Integer" 266 858993459) ∈ gW := tin_2 (List.mem_of_getElem? (i := 161) rfl) rfl
theorem gm_473 : (Cond.constant "java/lang/Integer" 267 252645135) ∈ gW := tin_2 (List.mem_of_getElem? (i := 162) rfl) rfl
theorem gm_474 : (Cond.methodLink "LetterSchoolLaw" 30 ⟨"LetterSchool", "lesson", "(IIII)I"⟩) ∈ gW := tin_2 (List.mem_of_getElem? (i := 163) rfl) rfl
theorem gm_475 : (Cond.instanceMethod ⟨"LetterSchool", "lesson", "(IIII)I"⟩) ∈ gW := tin_2 (List.mem_of_getElem? (i := 164) rfl) rfl
theorem gm_476 : (Cond.selects "LetterSchool" ⟨"LetterSchool", "lesson", "(IIII)I"⟩ ⟨"LetterSchool", "lesson", "(IIII)I"⟩) ∈ gW := tin_2 (List.mem_of_getElem? (i := 165) rfl) rfl
theorem gm_477 : (Cond.code ⟨"LetterSchool", "lesson", "(IIII)I"⟩ prog_1_method_5_code 6 (Option.some FieldType.int)) ∈ gW := tin_2 (List.mem_of_getElem? (i := 166) rfl) rfl
theorem gm_478 : (Cond.methodLink "LetterSchool" 156 ⟨"LetterSchool$Edition", "tells", "(I)Z"⟩) ∈ gW := tin_2 (List.mem_of_getElem? (i := 167) rfl) rfl
theorem gm_479 : (Cond.methodLink "LetterSchoolLaw" 35 ⟨"LetterSchool", "pupil", "(III)I"⟩) ∈ gW := tin_2 (List.mem_of_getElem? (i := 168) rfl) rfl
theorem gm_480 : (Cond.instanceMethod ⟨"LetterSchool", "pupil", "(III)I"⟩) ∈ gW := tin_2 (List.mem_of_getElem? (i := 169) rfl) rfl
theorem gm_481 : (Cond.selects "LetterSchool" ⟨"LetterSchool", "pupil", "(III)I"⟩ ⟨"LetterSchool", "pupil", "(III)I"⟩) ∈ gW := tin_2 (List.mem_of_getElem? (i := 170) rfl) rfl
theorem gm_482 : (Cond.code ⟨"LetterSchool", "pupil", "(III)I"⟩ prog_1_method_6_code 6 (Option.some FieldType.int)) ∈ gW := tin_2 (List.mem_of_getElem? (i := 171) rfl) rfl
theorem gm_483 : (Cond.methodLink "LetterSchool" 168 ⟨"LetterSchool", "inForce", "(II)I"⟩) ∈ gW := tin_2 (List.mem_of_getElem? (i := 172) rfl) rfl
theorem gm_485 : (Cond.instanceMethod ⟨"LetterSchool", "inForce", "(II)I"⟩) ∈ gW := tin_2 (List.mem_of_getElem? (i := 174) rfl) rfl
theorem gm_486 : (Cond.code ⟨"LetterSchool", "inForce", "(II)I"⟩ prog_1_method_54_code 4 (Option.some FieldType.int)) ∈ gW := tin_2 (List.mem_of_getElem? (i := 175) rfl) rfl
theorem gm_487 : (Cond.instantiable "LetterSchool$Pupil" 7) ∈ gW := tin_2 (List.mem_of_getElem? (i := 176) rfl) rfl
theorem gm_488 : (Cond.methodLink "LetterSchool" 172 ⟨"LetterSchool$Pupil", "<init>", "(IIIILLetterSchool$Edition;)V"⟩) ∈ gW := tin_2 (List.mem_of_getElem? (i := 177) rfl) rfl
theorem gm_489 : (Cond.instanceMethod ⟨"LetterSchool$Pupil", "<init>", "(IIIILLetterSchool$Edition;)V"⟩) ∈ gW := tin_2 (List.mem_of_getElem? (i := 178) rfl) rfl
theorem gm_490 : (Cond.code ⟨"LetterSchool$Pupil", "<init>", "(IIIILLetterSchool$Edition;)V"⟩ prog_6_method_1_code 6 (Option.none : Option FieldType)) ∈ gW := tin_2 (List.mem_of_getElem? (i := 179) rfl) rfl
theorem gm_491 : (Cond.methodLink "LetterSchool$Pupil" 3 ⟨"java/lang/Object", "<init>", "()V"⟩) ∈ gW := tin_2 (List.mem_of_getElem? (i := 180) rfl) rfl
theorem gm_492 : (Cond.fieldLink "LetterSchool$Pupil" 18 "LetterSchool$Pupil" "place" "I") ∈ gW := tin_2 (List.mem_of_getElem? (i := 181) rfl) rfl
theorem gm_494 : (Cond.fieldLink "LetterSchool$Pupil" 21 "LetterSchool$Pupil" "begin" "I") ∈ gW := tin_2 (List.mem_of_getElem? (i := 183) rfl) rfl
theorem gm_496 : (Cond.fieldLink "LetterSchool$Pupil" 24 "LetterSchool$Pupil" "course" "I") ∈ gW := tin_2 (List.mem_of_getElem? (i := 185) rfl) rfl
theorem gm_498 : (Cond.fieldLink "LetterSchool$Pupil" 27 "LetterSchool$Pupil" "edition" "I") ∈ gW := tin_2 (List.mem_of_getElem? (i := 187) rfl) rfl
theorem gm_500 : (Cond.fieldLink "LetterSchool$Pupil" 30 "LetterSchool$Pupil" "taught" "LLetterSchool$Edition;") ∈ gW := tin_2 (List.mem_of_getElem? (i := 189) rfl) rfl
theorem gm_502 : (Cond.fieldLink "LetterSchool$Pupil" 9 "LetterSchool$Pupil" "habit" "I") ∈ gW := tin_2 (List.mem_of_getElem? (i := 191) rfl) rfl
theorem gm_504 : (Cond.fieldLink "LetterSchool$Pupil" 15 "LetterSchool$Pupil" "left" "I") ∈ gW := tin_2 (List.mem_of_getElem? (i := 193) rfl) rfl
theorem gm_506 : (Cond.laysFinal "LetterSchool$Pupil" "LetterSchool$Pupil" "place" "I") ∈ gW := tin_2 (List.mem_of_getElem? (i := 195) rfl) rfl
theorem gm_508 : (Cond.laysFinal "LetterSchool$Pupil" "LetterSchool$Pupil" "begin" "I") ∈ gW := tin_2 (List.mem_of_getElem? (i := 197) rfl) rfl
theorem gm_510 : (Cond.lays "LetterSchool$Pupil" "LetterSchool$Pupil" "course" "I") ∈ gW := tin_2 (List.mem_of_getElem? (i := 199) rfl) rfl
theorem gm_512 : (Cond.lays "LetterSchool$Pupil" "LetterSchool$Pupil" "edition" "I") ∈ gW := tin_2 (List.mem_of_getElem? (i := 201) rfl) rfl
theorem gm_514 : (Cond.lays "LetterSchool$Pupil" "LetterSchool$Pupil" "taught" "LLetterSchool$Edition;") ∈ gW := tin_2 (List.mem_of_getElem? (i := 203) rfl) rfl
theorem gm_516 : (Cond.lays "LetterSchool$Pupil" "LetterSchool$Pupil" "habit" "I") ∈ gW := tin_2 (List.mem_of_getElem? (i := 205) rfl) rfl
theorem gm_518 : (Cond.lays "LetterSchool$Pupil" "LetterSchool$Pupil" "left" "I") ∈ gW := tin_2 (List.mem_of_getElem? (i := 207) rfl) rfl
theorem gm_521 : (Cond.methodLink "LetterSchoolLaw" 39 ⟨"LetterSchool", "who", "(II)I"⟩) ∈ gW := tin_2 (List.mem_of_getElem? (i := 210) rfl) rfl
theorem gm_522 : (Cond.instanceMethod ⟨"LetterSchool", "who", "(II)I"⟩) ∈ gW := tin_2 (List.mem_of_getElem? (i := 211) rfl) rfl
theorem gm_523 : (Cond.selects "LetterSchool" ⟨"LetterSchool", "who", "(II)I"⟩ ⟨"LetterSchool", "who", "(II)I"⟩) ∈ gW := tin_2 (List.mem_of_getElem? (i := 212) rfl) rfl
theorem gm_524 : (Cond.code ⟨"LetterSchool", "who", "(II)I"⟩ prog_1_method_7_code 4 (Option.some FieldType.int)) ∈ gW := tin_2 (List.mem_of_getElem? (i := 213) rfl) rfl
theorem gm_525 : (Cond.methodLink "LetterSchool" 175 ⟨"LetterSchool", "pupilAt", "(I)LLetterSchool$Pupil;"⟩) ∈ gW := tin_2 (List.mem_of_getElem? (i := 214) rfl) rfl
theorem gm_527 : (Cond.instanceMethod ⟨"LetterSchool", "pupilAt", "(I)LLetterSchool$Pupil;"⟩) ∈ gW := tin_2 (List.mem_of_getElem? (i := 216) rfl) rfl
theorem gm_528 : (Cond.code ⟨"LetterSchool", "pupilAt", "(I)LLetterSchool$Pupil;"⟩ prog_1_method_49_code 2 (Option.some (FieldType.object "LetterSchool$Pupil"))) ∈ gW := tin_2 (List.mem_of_getElem? (i := 217) rfl) rfl
theorem gm_529 : (Cond.methodLink "LetterSchool" 195 ⟨"LetterSchool$Ledger", "paidBy", "(II)I"⟩) ∈ gW := tin_2 (List.mem_of_getElem? (i := 218) rfl) rfl
theorem gm_530 : (Cond.instanceMethod ⟨"LetterSchool$Ledger", "paidBy", "(II)I"⟩) ∈ gW := tin_2 (List.mem_of_getElem? (i := 219) rfl) rfl
theorem gm_531 : (Cond.selects "LetterSchool$Ledger" ⟨"LetterSchool$Ledger", "paidBy", "(II)I"⟩ ⟨"LetterSchool$Ledger", "paidBy", "(II)I"⟩) ∈ gW := tin_2 (List.mem_of_getElem? (i := 220) rfl) rfl
theorem gm_532 : (Cond.code ⟨"LetterSchool$Ledger", "paidBy", "(II)I"⟩ prog_4_method_3_code 5 (Option.some FieldType.int)) ∈ gW := tin_2 (List.mem_of_getElem? (i := 221) rfl) rfl
theorem gm_533 : (Cond.methodLink "LetterSchoolLaw" 43 ⟨"LetterSchool", "habit", "(II)I"⟩) ∈ gW := tin_2 (List.mem_of_getElem? (i := 222) rfl) rfl
theorem gm_534 : (Cond.instanceMethod ⟨"LetterSchool", "habit", "(II)I"⟩) ∈ gW := tin_2 (List.mem_of_getElem? (i := 223) rfl) rfl
theorem gm_535 : (Cond.selects "LetterSchool" ⟨"LetterSchool", "habit", "(II)I"⟩ ⟨"LetterSchool", "habit", "(II)I"⟩) ∈ gW := tin_2 (List.mem_of_getElem? (i := 224) rfl) rfl
theorem gm_536 : (Cond.code ⟨"LetterSchool", "habit", "(II)I"⟩ prog_1_method_8_code 5 (Option.some FieldType.int)) ∈ gW := tin_2 (List.mem_of_getElem? (i := 225) rfl) rfl
theorem gm_537 : (Cond.methodLink "LetterSchoolLaw" 47 ⟨"LetterSchool", "best", "(III)I"⟩) ∈ gW := tin_2 (List.mem_of_getElem? (i := 226) rfl) rfl
theorem gm_538 : (Cond.instanceMethod ⟨"LetterSchool", "best", "(III)I"⟩) ∈ gW := tin_2 (List.mem_of_getElem? (i := 227) rfl) rfl
theorem gm_539 : (Cond.selects "LetterSchool" ⟨"LetterSchool", "best", "(III)I"⟩ ⟨"LetterSchool", "best", "(III)I"⟩) ∈ gW := tin_2 (List.mem_of_getElem? (i := 228) rfl) rfl
theorem gm_540 : (Cond.code ⟨"LetterSchool", "best", "(III)I"⟩ prog_1_method_9_code 6 (Option.some FieldType.int)) ∈ gW := tin_2 (List.mem_of_getElem? (i := 229) rfl) rfl
theorem gm_541 : (Cond.methodLink "LetterSchool" 201 ⟨"LetterSchool", "bestByName", "(III)I"⟩) ∈ gW := tin_2 (List.mem_of_getElem? (i := 230) rfl) rfl
theorem gm_543 : (Cond.instanceMethod ⟨"LetterSchool", "bestByName", "(III)I"⟩) ∈ gW := tin_2 (List.mem_of_getElem? (i := 232) rfl) rfl
theorem gm_544 : (Cond.code ⟨"LetterSchool", "bestByName", "(III)I"⟩ prog_1_method_55_code 7 (Option.some FieldType.int)) ∈ gW := tin_2 (List.mem_of_getElem? (i := 233) rfl) rfl
theorem gm_545 : (Cond.methodLink "LetterSchool" 352 ⟨"java/lang/Math", "max", "(II)I"⟩) ∈ gW := tin_2 (List.mem_of_getElem? (i := 234) rfl) rfl
theorem gm_546 : (Cond.static ⟨"java/lang/Math", "max", "(II)I"⟩) ∈ gW := tin_2 (List.mem_of_getElem? (i := 235) rfl) rfl
theorem gm_547 : (Cond.code ⟨"java/lang/Math", "max", "(II)I"⟩ prog_16_method_65_code 2 (Option.some FieldType.int)) ∈ gW := tin_2 (List.mem_of_getElem? (i := 236) rfl) rfl
theorem gm_548 : (Cond.methodLink "LetterSchoolLaw" 51 ⟨"LetterSchool", "may", "(II)I"⟩) ∈ gW := tin_2 (List.mem_of_getElem? (i := 237) rfl) rfl
theorem gm_549 : (Cond.instanceMethod ⟨"LetterSchool", "may", "(II)I"⟩) ∈ gW := tin_2 (List.mem_of_getElem? (i := 238) rfl) rfl
theorem gm_550 : (Cond.selects "LetterSchool" ⟨"LetterSchool", "may", "(II)I"⟩ ⟨"LetterSchool", "may", "(II)I"⟩) ∈ gW := tin_2 (List.mem_of_getElem? (i := 239) rfl) rfl
theorem gm_551 : (Cond.code ⟨"LetterSchool", "may", "(II)I"⟩ prog_1_method_10_code 5 (Option.some FieldType.int)) ∈ gW := tin_3 (List.mem_of_getElem? (i := 0) rfl) rfl
theorem gm_552 : (Cond.methodLink "LetterSchool" 205 ⟨"LetterSchool", "fillBests", "(ILLetterSchool$Edition;)V"⟩) ∈ gW := tin_3 (List.mem_of_getElem? (i := 1) rfl) rfl
theorem gm_554 : (Cond.instanceMethod ⟨"LetterSchool", "fillBests", "(ILLetterSchool$Edition;)V"⟩) ∈ gW := tin_3 (List.mem_of_getElem? (i := 3) rfl) rfl
theorem gm_555 : (Cond.code ⟨"LetterSchool", "fillBests", "(ILLetterSchool$Edition;)V"⟩ prog_1_method_56_code 4 (Option.none : Option FieldType)) ∈ gW := tin_3 (List.mem_of_getElem? (i := 4) rfl) rfl
theorem gm_556 : (Cond.methodLink "LetterSchool" 209 ⟨"LetterSchool$Edition", "open", "([I)I"⟩) ∈ gW := tin_3 (List.mem_of_getElem? (i := 5) rfl) rfl
theorem gm_557 : (Cond.instanceMethod ⟨"LetterSchool$Edition", "open", "([I)I"⟩) ∈ gW := tin_3 (List.mem_of_getElem? (i := 6) rfl) rfl
theorem gm_558 : (Cond.selects "LetterSchool$Edition" ⟨"LetterSchool$Edition", "open", "([I)I"⟩ ⟨"LetterSchool$Edition", "open", "([I)I"⟩) ∈ gW := tin_3 (List.mem_of_getElem? (i := 7) rfl) rfl
theorem gm_559 : (Cond.code ⟨"LetterSchool$Edition", "open", "([I)I"⟩ prog_2_method_13_code 4 (Option.some FieldType.int)) ∈ gW := tin_3 (List.mem_of_getElem? (i := 8) rfl) rfl
theorem gm_560 : (Cond.methodLink "LetterSchool$Edition" 55 ⟨"LetterSchool$Edition", "isPassed", "(I[I)Z"⟩) ∈ gW := tin_3 (List.mem_of_getElem? (i := 9) rfl) rfl
theorem gm_562 : (Cond.instanceMethod ⟨"LetterSchool$Edition", "isPassed", "(I[I)Z"⟩) ∈ gW := tin_3 (List.mem_of_getElem? (i := 11) rfl) rfl
theorem gm_563 : (Cond.code ⟨"LetterSchool$Edition", "isPassed", "(I[I)Z"⟩ prog_2_method_9_code 3 (Option.some FieldType.boolean)) ∈ gW := tin_3 (List.mem_of_getElem? (i := 12) rfl) rfl
theorem gm_564 : (Cond.methodLink "LetterSchool$Edition" 62 ⟨"LetterSchool$Edition", "holds", "(I[I)Z"⟩) ∈ gW := tin_3 (List.mem_of_getElem? (i := 13) rfl) rfl
theorem gm_566 : (Cond.instanceMethod ⟨"LetterSchool$Edition", "holds", "(I[I)Z"⟩) ∈ gW := tin_3 (List.mem_of_getElem? (i := 15) rfl) rfl
theorem gm_567 : (Cond.code ⟨"LetterSchool$Edition", "holds", "(I[I)Z"⟩ prog_2_method_11_code 6 (Option.some FieldType.boolean)) ∈ gW := tin_3 (List.mem_of_getElem? (i := 16) rfl) rfl
theorem gm_568 : (Cond.methodLink "LetterSchool$Edition" 59 ⟨"LetterSchool$Edition", "claimHolds", "(I[I)Z"⟩) ∈ gW := tin_3 (List.mem_of_getElem? (i := 17) rfl) rfl
theorem gm_570 : (Cond.instanceMethod ⟨"LetterSchool$Edition", "claimHolds", "(I[I)Z"⟩) ∈ gW := tin_3 (List.mem_of_getElem? (i := 19) rfl) rfl
theorem gm_571 : (Cond.code ⟨"LetterSchool$Edition", "claimHolds", "(I[I)Z"⟩ prog_2_method_10_code 4 (Option.some FieldType.boolean)) ∈ gW := tin_3 (List.mem_of_getElem? (i := 20) rfl) rfl
theorem gm_572 : (Cond.methodLink "LetterSchool" 213 ⟨"LetterSchool$Edition", "passed", "([I)I"⟩) ∈ gW := tin_3 (List.mem_of_getElem? (i := 21) rfl) rfl
theorem gm_573 : (Cond.instanceMethod ⟨"LetterSchool$Edition", "passed", "([I)I"⟩) ∈ gW := tin_3 (List.mem_of_getElem? (i := 22) rfl) rfl
theorem gm_574 : (Cond.selects "LetterSchool$Edition" ⟨"LetterSchool$Edition", "passed", "([I)I"⟩ ⟨"LetterSchool$Edition", "passed", "([I)I"⟩) ∈ gW := tin_3 (List.mem_of_getElem? (i := 23) rfl) rfl
theorem gm_575 : (Cond.code ⟨"LetterSchool$Edition", "passed", "([I)I"⟩ prog_2_method_12_code 4 (Option.some FieldType.int)) ∈ gW := tin_3 (List.mem_of_getElem? (i := 24) rfl) rfl
theorem gm_576 : (Cond.methodLink "LetterSchoolLaw" 55 ⟨"LetterSchool", "lean", "(II)I"⟩) ∈ gW := tin_3 (List.mem_of_getElem? (i := 25) rfl) rfl
theorem gm_577 : (Cond.instanceMethod ⟨"LetterSchool", "lean", "(II)I"⟩) ∈ gW := tin_3 (List.mem_of_getElem? (i := 26) rfl) rfl
theorem gm_578 : (Cond.selects "LetterSchool" ⟨"LetterSchool", "lean", "(II)I"⟩ ⟨"LetterSchool", "lean", "(II)I"⟩) ∈ gW := tin_3 (List.mem_of_getElem? (i := 27) rfl) rfl
theorem gm_579 : (Cond.code ⟨"LetterSchool", "lean", "(II)I"⟩ prog_1_method_11_code 4 (Option.some FieldType.int)) ∈ gW := tin_3 (List.mem_of_getElem? (i := 28) rfl) rfl
theorem gm_580 : (Cond.methodLink "LetterSchool" 216 ⟨"LetterSchool$Way", "shortest", "(LLetterSchool$Edition;[II)I"⟩) ∈ gW := tin_3 (List.mem_of_getElem? (i := 29) rfl) rfl
theorem gm_581 : (Cond.instanceMethod ⟨"LetterSchool$Way", "shortest", "(LLetterSchool$Edition;[II)I"⟩) ∈ gW := tin_3 (List.mem_of_getElem? (i := 30) rfl) rfl
theorem gm_582 : (Cond.selects "LetterSchool$Way" ⟨"LetterSchool$Way", "shortest", "(LLetterSchool$Edition;[II)I"⟩ ⟨"LetterSchool$Way", "shortest", "(LLetterSchool$Edition;[II)I"⟩) ∈ gW := tin_3 (List.mem_of_getElem? (i := 31) rfl) rfl
theorem gm_583 : (Cond.code ⟨"LetterSchool$Way", "shortest", "(LLetterSchool$Edition;[II)I"⟩ prog_12_method_2_code 7 (Option.some FieldType.int)) ∈ gW := tin_3 (List.mem_of_getElem? (i := 32) rfl) rfl
theorem gm_584 : (Cond.methodLink "LetterSchool$Way" 21 ⟨"java/util/Arrays", "fill", "([II)V"⟩) ∈ gW := tin_3 (List.mem_of_getElem? (i := 33) rfl) rfl
theorem gm_585 : (Cond.static ⟨"java/util/Arrays", "fill", "([II)V"⟩) ∈ gW := tin_3 (List.mem_of_getElem? (i := 34) rfl) rfl
theorem gm_586 : (Cond.code ⟨"java/util/Arrays", "fill", "([II)V"⟩ prog_18_method_103_code 4 (Option.none : Option FieldType)) ∈ gW := tin_3 (List.mem_of_getElem? (i := 35) rfl) rfl
theorem gm_587 : (Cond.methodLink "LetterSchool$Way" 27 ⟨"LetterSchool$Way", "raise", "([II)V"⟩) ∈ gW := tin_3 (List.mem_of_getElem? (i := 36) rfl) rfl
theorem gm_589 : (Cond.instanceMethod ⟨"LetterSchool$Way", "raise", "([II)V"⟩) ∈ gW := tin_3 (List.mem_of_getElem? (i := 38) rfl) rfl
theorem gm_590 : (Cond.code ⟨"LetterSchool$Way", "raise", "([II)V"⟩ prog_12_method_3_code 4 (Option.none : Option FieldType)) ∈ gW := tin_3 (List.mem_of_getElem? (i := 39) rfl) rfl
theorem gm_591 : (Cond.methodLink "LetterSchool$Way" 30 ⟨"LetterSchool$Edition", "passed", "([I)I"⟩) ∈ gW := tin_3 (List.mem_of_getElem? (i := 40) rfl) rfl
theorem gm_592 : (Cond.methodLink "LetterSchool$Way" 36 ⟨"LetterSchool$Way", "reach", "(LLetterSchool$Edition;II)I"⟩) ∈ gW := tin_3 (List.mem_of_getElem? (i := 41) rfl) rfl
theorem gm_594 : (Cond.instanceMethod ⟨"LetterSchool$Way", "reach", "(LLetterSchool$Edition;II)I"⟩) ∈ gW := tin_3 (List.mem_of_getElem? (i := 43) rfl) rfl
theorem gm_595 : (Cond.code ⟨"LetterSchool$Way", "reach", "(LLetterSchool$Edition;II)I"⟩ prog_12_method_4_code 8 (Option.some FieldType.int)) ∈ gW := tin_3 (List.mem_of_getElem? (i := 44) rfl) rfl
theorem gm_596 : (Cond.methodLink "LetterSchool$Way" 40 ⟨"LetterSchool$Edition", "open", "([I)I"⟩) ∈ gW := tin_3 (List.mem_of_getElem? (i := 45) rfl) rfl
theorem gm_597 : (Cond.methodLink "LetterSchool$Way" 43 ⟨"LetterSchool$Edition", "namedLike", "(I)I"⟩) ∈ gW := tin_3 (List.mem_of_getElem? (i := 46) rfl) rfl
theorem gm_598 : (Cond.instanceMethod ⟨"LetterSchool$Edition", "namedLike", "(I)I"⟩) ∈ gW := tin_3 (List.mem_of_getElem? (i := 47) rfl) rfl
theorem gm_599 : (Cond.selects "LetterSchool$Edition" ⟨"LetterSchool$Edition", "namedLike", "(I)I"⟩ ⟨"LetterSchool$Edition", "namedLike", "(I)I"⟩) ∈ gW := tin_3 (List.mem_of_getElem? (i := 48) rfl) rfl
theorem gm_600 : (Cond.code ⟨"LetterSchool$Edition", "namedLike", "(I)I"⟩ prog_2_method_14_code 4 (Option.some FieldType.int)) ∈ gW := tin_3 (List.mem_of_getElem? (i := 49) rfl) rfl
theorem gm_601 : (Cond.methodLink "LetterSchoolLaw" 59 ⟨"LetterSchool", "post", "(III)I"⟩) ∈ gW := tin_3 (List.mem_of_getElem? (i := 50) rfl) rfl
theorem gm_602 : (Cond.instanceMethod ⟨"LetterSchool", "post", "(III)I"⟩) ∈ gW := tin_3 (List.mem_of_getElem? (i := 51) rfl) rfl
theorem gm_603 : (Cond.selects "LetterSchool" ⟨"LetterSchool", "post", "(III)I"⟩ ⟨"LetterSchool", "post", "(III)I"⟩) ∈ gW := tin_3 (List.mem_of_getElem? (i := 52) rfl) rfl
theorem gm_604 : (Cond.code ⟨"LetterSchool", "post", "(III)I"⟩ prog_1_method_12_code 4 (Option.some FieldType.int)) ∈ gW := tin_3 (List.mem_of_getElem? (i := 53) rfl) rfl
theorem gm_605 : (Cond.methodLink "LetterSchoolLaw" 63 ⟨"LetterSchool", "send", "(III)I"⟩) ∈ gW := tin_3 (List.mem_of_getElem? (i := 54) rfl) rfl
theorem gm_606 : (Cond.instanceMethod ⟨"LetterSchool", "send", "(III)I"⟩) ∈ gW := tin_3 (List.mem_of_getElem? (i := 55) rfl) rfl
theorem gm_607 : (Cond.selects "LetterSchool" ⟨"LetterSchool", "send", "(III)I"⟩ ⟨"LetterSchool", "send", "(III)I"⟩) ∈ gW := tin_3 (List.mem_of_getElem? (i := 56) rfl) rfl
theorem gm_608 : (Cond.code ⟨"LetterSchool", "send", "(III)I"⟩ prog_1_method_13_code 6 (Option.some FieldType.int)) ∈ gW := tin_3 (List.mem_of_getElem? (i := 57) rfl) rfl
theorem gm_609 : (Cond.methodLink "LetterSchool" 229 ⟨"LetterSchool$Pupil", "hasLeftBy", "(I)Z"⟩) ∈ gW := tin_3 (List.mem_of_getElem? (i := 58) rfl) rfl
theorem gm_610 : (Cond.instanceMethod ⟨"LetterSchool$Pupil", "hasLeftBy", "(I)Z"⟩) ∈ gW := tin_3 (List.mem_of_getElem? (i := 59) rfl) rfl
theorem gm_611 : (Cond.selects "LetterSchool$Pupil" ⟨"LetterSchool$Pupil", "hasLeftBy", "(I)Z"⟩ ⟨"LetterSchool$Pupil", "hasLeftBy", "(I)Z"⟩) ∈ gW := tin_3 (List.mem_of_getElem? (i := 60) rfl) rfl
theorem gm_612 : (Cond.code ⟨"LetterSchool$Pupil", "hasLeftBy", "(I)Z"⟩ prog_6_method_3_code 2 (Option.some FieldType.boolean)) ∈ gW := tin_3 (List.mem_of_getElem? (i := 61) rfl) rfl
theorem gm_613 : (Cond.instantiable "LetterSchool$Thing" 15) ∈ gW := tin_3 (List.mem_of_getElem? (i := 62) rfl) rfl
theorem gm_614 : (Cond.methodLink "LetterSchool" 232 ⟨"LetterSchool$Thing", "<init>", "(IIII)V"⟩) ∈ gW := tin_3 (List.mem_of_getElem? (i := 63) rfl) rfl
theorem gm_615 : (Cond.instanceMethod ⟨"LetterSchool$Thing", "<init>", "(IIII)V"⟩) ∈ gW := tin_3 (List.mem_of_getElem? (i := 64) rfl) rfl
theorem gm_616 : (Cond.code ⟨"LetterSchool$Thing", "<init>", "(IIII)V"⟩ prog_10_method_1_code 5 (Option.none : Option FieldType)) ∈ gW := tin_3 (List.mem_of_getElem? (i := 65) rfl) rfl
theorem gm_617 : (Cond.methodLink "LetterSchool$Thing" 3 ⟨"java/lang/Object", "<init>", "()V"⟩) ∈ gW := tin_3 (List.mem_of_getElem? (i := 66) rfl) rfl
theorem gm_618 : (Cond.fieldLink "LetterSchool$Thing" 46 "LetterSchool$Thing" "pupil" "I") ∈ gW := tin_3 (List.mem_of_getElem? (i := 67) rfl) rfl
theorem gm_621 : (Cond.fieldLink "LetterSchool$Thing" 49 "LetterSchool$Thing" "name" "I") ∈ gW := tin_3 (List.mem_of_getElem? (i := 70) rfl) rfl
theorem gm_624 : (Cond.fieldLink "LetterSchool$Thing" 52 "LetterSchool$Thing" "lesson" "I") ∈ gW := tin_3 (List.mem_of_getElem? (i := 73) rfl) rfl
theorem gm_626 : (Cond.fieldLink "LetterSchool$Thing" 55 "LetterSchool$Thing" "firstSent" "I") ∈ gW := tin_3 (List.mem_of_getElem? (i := 75) rfl) rfl
theorem gm_628 : (Cond.fieldLink "LetterSchool$Thing" 9 "LetterSchool$Thing" "choices" "[B") ∈ gW := tin_3 (List.mem_of_getElem? (i := 77) rfl) rfl
theorem gm_630 : (Cond.fieldLink "LetterSchool$Thing" 15 "LetterSchool$Thing" "kind" "I") ∈ gW := tin_3 (List.mem_of_getElem? (i := 79) rfl) rfl
theorem gm_632 : (Cond.fieldLink "LetterSchool$Thing" 19 "LetterSchool$Thing" "sent" "I") ∈ gW := tin_3 (List.mem_of_getElem? (i := 81) rfl) rfl
theorem gm_634 : (Cond.fieldLink "LetterSchool$Thing" 22 "LetterSchool$Thing" "comes" "I") ∈ gW := tin_3 (List.mem_of_getElem? (i := 83) rfl) rfl
theorem gm_636 : (Cond.fieldLink "LetterSchool$Thing" 25 "LetterSchool$Thing" "tutor" "I") ∈ gW := tin_3 (List.mem_of_getElem? (i := 85) rfl) rfl
theorem gm_638 : (Cond.fieldLink "LetterSchool$Thing" 28 "LetterSchool$Thing" "given" "I") ∈ gW := tin_3 (List.mem_of_getElem? (i := 87) rfl) rfl
theorem gm_640 : (Cond.fieldLink "LetterSchool$Thing" 31 "LetterSchool$Thing" "again" "I") ∈ gW := tin_3 (List.mem_of_getElem? (i := 89) rfl) rfl
theorem gm_642 : (Cond.fieldLink "LetterSchool$Thing" 34 "LetterSchool$Thing" "marks" "I") ∈ gW := tin_3 (List.mem_of_getElem? (i := 91) rfl) rfl
theorem gm_644 : (Cond.fieldLink "LetterSchool$Thing" 37 "LetterSchool$Thing" "marked" "I") ∈ gW := tin_3 (List.mem_of_getElem? (i := 93) rfl) rfl
theorem gm_646 : (Cond.fieldLink "LetterSchool$Thing" 40 "LetterSchool$Thing" "secondTutor" "I") ∈ gW := tin_3 (List.mem_of_getElem? (i := 95) rfl) rfl
theorem gm_648 : (Cond.fieldLink "LetterSchool$Thing" 43 "LetterSchool$Thing" "secondMarks" "I") ∈ gW := tin_3 (List.mem_of_getElem? (i := 97) rfl) rfl
theorem gm_650 : (Cond.laysFinal "LetterSchool$Thing" "LetterSchool$Thing" "pupil" "I") ∈ gW := tin_3 (List.mem_of_getElem? (i := 99) rfl) rfl
theorem gm_652 : (Cond.laysFinal "LetterSchool$Thing" "LetterSchool$Thing" "name" "I") ∈ gW := tin_3 (List.mem_of_getElem? (i := 101) rfl) rfl
theorem gm_654 : (Cond.laysFinal "LetterSchool$Thing" "LetterSchool$Thing" "lesson" "I") ∈ gW := tin_3 (List.mem_of_getElem? (i := 103) rfl) rfl
theorem gm_656 : (Cond.laysFinal "LetterSchool$Thing" "LetterSchool$Thing" "firstSent" "I") ∈ gW := tin_3 (List.mem_of_getElem? (i := 105) rfl) rfl
theorem gm_658 : (Cond.laysFinal "LetterSchool$Thing" "LetterSchool$Thing" "choices" "[B") ∈ gW := tin_3 (List.mem_of_getElem? (i := 107) rfl) rfl
theorem gm_660 : (Cond.lays "LetterSchool$Thing" "LetterSchool$Thing" "kind" "I") ∈ gW := tin_3 (List.mem_of_getElem? (i := 109) rfl) rfl
theorem gm_662 : (Cond.lays "LetterSchool$Thing" "LetterSchool$Thing" "sent" "I") ∈ gW := tin_3 (List.mem_of_getElem? (i := 111) rfl) rfl
theorem gm_664 : (Cond.lays "LetterSchool$Thing" "LetterSchool$Thing" "comes" "I") ∈ gW := tin_3 (List.mem_of_getElem? (i := 113) rfl) rfl
theorem gm_666 : (Cond.lays "LetterSchool$Thing" "LetterSchool$Thing" "tutor" "I") ∈ gW := tin_3 (List.mem_of_getElem? (i := 115) rfl) rfl
theorem gm_668 : (Cond.lays "LetterSchool$Thing" "LetterSchool$Thing" "given" "I") ∈ gW := tin_3 (List.mem_of_getElem? (i := 117) rfl) rfl
theorem gm_670 : (Cond.lays "LetterSchool$Thing" "LetterSchool$Thing" "again" "I") ∈ gW := tin_3 (List.mem_of_getElem? (i := 119) rfl) rfl
theorem gm_672 : (Cond.lays "LetterSchool$Thing" "LetterSchool$Thing" "marks" "I") ∈ gW := tin_3 (List.mem_of_getElem? (i := 121) rfl) rfl
theorem gm_674 : (Cond.lays "LetterSchool$Thing" "LetterSchool$Thing" "marked" "I") ∈ gW := tin_3 (List.mem_of_getElem? (i := 123) rfl) rfl
theorem gm_676 : (Cond.lays "LetterSchool$Thing" "LetterSchool$Thing" "secondTutor" "I") ∈ gW := tin_3 (List.mem_of_getElem? (i := 125) rfl) rfl
theorem gm_678 : (Cond.lays "LetterSchool$Thing" "LetterSchool$Thing" "secondMarks" "I") ∈ gW := tin_3 (List.mem_of_getElem? (i := 127) rfl) rfl
theorem gm_681 : (Cond.methodLink "LetterSchool" 235 ⟨"LetterSchool", "carry", "(LLetterSchool$Thing;LLetterSchool$Pupil;I)I"⟩) ∈ gW := tin_3 (List.mem_of_getElem? (i := 130) rfl) rfl
theorem gm_683 : (Cond.instanceMethod ⟨"LetterSchool", "carry", "(LLetterSchool$Thing;LLetterSchool$Pupil;I)I"⟩) ∈ gW := tin_3 (List.mem_of_getElem? (i := 132) rfl) rfl
theorem gm_684 : (Cond.code ⟨"LetterSchool", "carry", "(LLetterSchool$Thing;LLetterSchool$Pupil;I)I"⟩ prog_1_method_57_code 5 (Option.some FieldType.int)) ∈ gW := tin_3 (List.mem_of_getElem? (i := 133) rfl) rfl
theorem gm_685 : (Cond.methodLink "LetterSchool" 409 ⟨"LetterSchool$Post", "losesNext", "()Z"⟩) ∈ gW := tin_3 (List.mem_of_getElem? (i := 134) rfl) rfl
theorem gm_686 : (Cond.instanceMethod ⟨"LetterSchool$Post", "losesNext", "()Z"⟩) ∈ gW := tin_3 (List.mem_of_getElem? (i := 135) rfl) rfl
theorem gm_687 : (Cond.selects "LetterSchool$Post" ⟨"LetterSchool$Post", "losesNext", "()Z"⟩ ⟨"LetterSchool$Post", "losesNext", "()Z"⟩) ∈ gW := tin_3 (List.mem_of_getElem? (i := 136) rfl) rfl
theorem gm_688 : (Cond.code ⟨"LetterSchool$Post", "losesNext", "()Z"⟩ prog_5_method_2_code 1 (Option.some FieldType.boolean)) ∈ gW := tin_3 (List.mem_of_getElem? (i := 137) rfl) rfl
theorem gm_689 : (Cond.methodLink "LetterSchoolLaw" 67 ⟨"LetterSchool", "answer", "(II)I"⟩) ∈ gW := tin_3 (List.mem_of_getElem? (i := 138) rfl) rfl
theorem gm_690 : (Cond.instanceMethod ⟨"LetterSchool", "answer", "(II)I"⟩) ∈ gW := tin_3 (List.mem_of_getElem? (i := 139) rfl) rfl
theorem gm_691 : (Cond.selects "LetterSchool" ⟨"LetterSchool", "answer", "(II)I"⟩ ⟨"LetterSchool", "answer", "(II)I"⟩) ∈ gW := tin_3 (List.mem_of_getElem? (i := 140) rfl) rfl
theorem gm_692 : (Cond.code ⟨"LetterSchool", "answer", "(II)I"⟩ prog_1_method_14_code 5 (Option.some FieldType.int)) ∈ gW := tin_3 (List.mem_of_getElem? (i := 141) rfl) rfl
theorem gm_693 : (Cond.methodLink "LetterSchool" 239 ⟨"LetterSchool", "thingAt", "(I)LLetterSchool$Thing;"⟩) ∈ gW := tin_3 (List.mem_of_getElem? (i := 142) rfl) rfl
theorem gm_695 : (Cond.instanceMethod ⟨"LetterSchool", "thingAt", "(I)LLetterSchool$Thing;"⟩) ∈ gW := tin_3 (List.mem_of_getElem? (i := 144) rfl) rfl
theorem gm_696 : (Cond.code ⟨"LetterSchool", "thingAt", "(I)LLetterSchool$Thing;"⟩ prog_1_method_51_code 2 (Option.some (FieldType.object "LetterSchool$Thing"))) ∈ gW := tin_3 (List.mem_of_getElem? (i := 145) rfl) rfl
theorem gm_697 : (Cond.methodLink "LetterSchoolLaw" 71 ⟨"LetterSchool", "give", "(III)I"⟩) ∈ gW := tin_3 (List.mem_of_getElem? (i := 146) rfl) rfl
theorem gm_698 : (Cond.instanceMethod ⟨"LetterSchool", "give", "(III)I"⟩) ∈ gW := tin_3 (List.mem_of_getElem? (i := 147) rfl) rfl
theorem gm_699 : (Cond.selects "LetterSchool" ⟨"LetterSchool", "give", "(III)I"⟩ ⟨"LetterSchool", "give", "(III)I"⟩) ∈ gW := tin_3 (List.mem_of_getElem? (i := 148) rfl) rfl
theorem gm_700 : (Cond.code ⟨"LetterSchool", "give", "(III)I"⟩ prog_1_method_15_code 6 (Option.some FieldType.int)) ∈ gW := tin_3 (List.mem_of_getElem? (i := 149) rfl) rfl
theorem gm_701 : (Cond.methodLink "LetterSchool" 252 ⟨"LetterSchool", "tutorAt", "(I)LLetterSchool$Tutor;"⟩) ∈ gW := tin_3 (List.mem_of_getElem? (i := 150) rfl) rfl
theorem gm_703 : (Cond.instanceMethod ⟨"LetterSchool", "tutorAt", "(I)LLetterSchool$Tutor;"⟩) ∈ gW := tin_3 (List.mem_of_getElem? (i := 152) rfl) rfl
theorem gm_704 : (Cond.code ⟨"LetterSchool", "tutorAt", "(I)LLetterSchool$Tutor;"⟩ prog_1_method_50_code 2 (Option.some (FieldType.object "LetterSchool$Tutor"))) ∈ gW := tin_3 (List.mem_of_getElem? (i := 153) rfl) rfl
theorem gm_705 : (Cond.methodLink "LetterSchool" 256 ⟨"LetterSchool$Thing", "isAnswer", "()Z"⟩) ∈ gW := tin_3 (List.mem_of_getElem? (i := 154) rfl) rfl
theorem gm_706 : (Cond.instanceMethod ⟨"LetterSchool$Thing", "isAnswer", "()Z"⟩) ∈ gW := tin_3 (List.mem_of_getElem? (i := 155) rfl) rfl
theorem gm_707 : (Cond.selects "LetterSchool$Thing" ⟨"LetterSchool$Thing", "isAnswer", "()Z"⟩ ⟨"LetterSchool$Thing", "isAnswer", "()Z"⟩) ∈ gW := tin_3 (List.mem_of_getElem? (i := 156) rfl) rfl
theorem gm_708 : (Cond.code ⟨"LetterSchool$Thing", "isAnswer", "()Z"⟩ prog_10_method_2_code 1 (Option.some FieldType.boolean)) ∈ gW := tin_3 (List.mem_of_getElem? (i := 157) rfl) rfl
theorem gm_709 : (Cond.methodLink "LetterSchool" 260 ⟨"LetterSchool$Thing", "isOpenBy", "(I)Z"⟩) ∈ gW := tin_3 (List.mem_of_getElem? (i := 158) rfl) rfl
theorem gm_710 : (Cond.instanceMethod ⟨"LetterSchool$Thing", "isOpenBy", "(I)Z"⟩) ∈ gW := tin_3 (List.mem_of_getElem? (i := 159) rfl) rfl
theorem gm_711 : (Cond.selects "LetterSchool$Thing" ⟨"LetterSchool$Thing", "isOpenBy", "(I)Z"⟩ ⟨"LetterSchool$Thing", "isOpenBy", "(I)Z"⟩) ∈ gW := tin_3 (List.mem_of_getElem? (i := 160) rfl) rfl
theorem gm_712 : (Cond.code ⟨"LetterSchool$Thing", "isOpenBy", "(I)Z"⟩ prog_10_method_3_code 2 (Option.some FieldType.boolean)) ∈ gW := tin_3 (List.mem_of_getElem? (i := 161) rfl) rfl
theorem gm_713 : (Cond.methodLink "LetterSchool" 263 ⟨"LetterSchool$Tutor", "mayMark", "(LLetterSchool$Thing;)Z"⟩) ∈ gW := tin_3 (List.mem_of_getElem? (i := 162) rfl) rfl
theorem gm_714 : (Cond.instanceMethod ⟨"LetterSchool$Tutor", "mayMark", "(LLetterSchool$Thing;)Z"⟩) ∈ gW := tin_3 (List.mem_of_getElem? (i := 163) rfl) rfl
theorem gm_715 : (Cond.selects "LetterSchool$Tutor" ⟨"LetterSchool$Tutor", "mayMark", "(LLetterSchool$Thing;)Z"⟩ ⟨"LetterSchool$Tutor", "mayMark", "(LLetterSchool$Thing;)Z"⟩) ∈ gW := tin_3 (List.mem_of_getElem? (i := 164) rfl) rfl
theorem gm_716 : (Cond.code ⟨"LetterSchool$Tutor", "mayMark", "(LLetterSchool$Thing;)Z"⟩ prog_11_method_2_code 2 (Option.some FieldType.boolean)) ∈ gW := tin_3 (List.mem_of_getElem? (i := 165) rfl) rfl
theorem gm_717 : (Cond.methodLink "LetterSchoolLaw" 75 ⟨"LetterSchool", "mark", "(IIIII)I"⟩) ∈ gW := tin_3 (List.mem_of_getElem? (i := 166) rfl) rfl
theorem gm_718 : (Cond.instanceMethod ⟨"LetterSchool", "mark", "(IIIII)I"⟩) ∈ gW := tin_3 (List.mem_of_getElem? (i := 167) rfl) rfl
theorem gm_719 : (Cond.selects "LetterSchool" ⟨"LetterSchool", "mark", "(IIIII)I"⟩ ⟨"LetterSchool", "mark", "(IIIII)I"⟩) ∈ gW := tin_3 (List.mem_of_getElem? (i := 168) rfl) rfl
theorem gm_720 : (Cond.code ⟨"LetterSchool", "mark", "(IIIII)I"⟩ prog_1_method_16_code 7 (Option.some FieldType.int)) ∈ gW := tin_3 (List.mem_of_getElem? (i := 169) rfl) rfl
theorem gm_721 : (Cond.methodLink "LetterSchool" 276 ⟨"LetterSchool", "areParts", "(III)Z"⟩) ∈ gW := tin_3 (List.mem_of_getElem? (i := 170) rfl) rfl
theorem gm_722 : (Cond.static ⟨"LetterSchool", "areParts", "(III)Z"⟩) ∈ gW := tin_3 (List.mem_of_getElem? (i := 171) rfl) rfl
theorem gm_723 : (Cond.code ⟨"LetterSchool", "areParts", "(III)Z"⟩ prog_1_method_46_code 3 (Option.some FieldType.boolean)) ∈ gW := tin_3 (List.mem_of_getElem? (i := 172) rfl) rfl
theorem gm_724 : (Cond.methodLink "LetterSchool" 280 ⟨"LetterSchool$Thing", "isGivenBy", "(I)Z"⟩) ∈ gW := tin_3 (List.mem_of_getElem? (i := 173) rfl) rfl
theorem gm_725 : (Cond.instanceMethod ⟨"LetterSchool$Thing", "isGivenBy", "(I)Z"⟩) ∈ gW := tin_3 (List.mem_of_getElem? (i := 174) rfl) rfl
theorem gm_726 : (Cond.selects "LetterSchool$Thing" ⟨"LetterSchool$Thing", "isGivenBy", "(I)Z"⟩ ⟨"LetterSchool$Thing", "isGivenBy", "(I)Z"⟩) ∈ gW := tin_3 (List.mem_of_getElem? (i := 175) rfl) rfl
theorem gm_727 : (Cond.code ⟨"LetterSchool$Thing", "isGivenBy", "(I)Z"⟩ prog_10_method_4_code 2 (Option.some FieldType.boolean)) ∈ gW := tin_3 (List.mem_of_getElem? (i := 176) rfl) rfl
theorem gm_728 : (Cond.methodLink "LetterSchool" 283 ⟨"LetterSchool", "unload", "(LLetterSchool$Thing;)V"⟩) ∈ gW := tin_3 (List.mem_of_getElem? (i := 177) rfl) rfl
theorem gm_730 : (Cond.instanceMethod ⟨"LetterSchool", "unload", "(LLetterSchool$Thing;)V"⟩) ∈ gW := tin_3 (List.mem_of_getElem? (i := 179) rfl) rfl
theorem gm_731 : (Cond.code ⟨"LetterSchool", "unload", "(LLetterSchool$Thing;)V"⟩ prog_1_method_58_code 3 (Option.none : Option FieldType)) ∈ gW := tin_3 (List.mem_of_getElem? (i := 180) rfl) rfl
theorem gm_732 : (Cond.methodLink "LetterSchool" 287 ⟨"LetterSchool", "weigh", "(III)I"⟩) ∈ gW := tin_3 (List.mem_of_getElem? (i := 181) rfl) rfl
theorem gm_733 : (Cond.static ⟨"LetterSchool", "weigh", "(III)I"⟩) ∈ gW := tin_3 (List.mem_of_getElem? (i := 182) rfl) rfl
theorem gm_734 : (Cond.code ⟨"LetterSchool", "weigh", "(III)I"⟩ prog_1_method_47_code 3 (Option.some FieldType.int)) ∈ gW := tin_3 (List.mem_of_getElem? (i := 183) rfl) rfl
theorem gm_735 : (Cond.methodLink "LetterSchoolLaw" 80 ⟨"LetterSchool", "again", "(II)I"⟩) ∈ gW := tin_3 (List.mem_of_getElem? (i := 184) rfl) rfl
theorem gm_736 : (Cond.instanceMethod ⟨"LetterSchool", "again", "(II)I"⟩) ∈ gW := tin_3 (List.mem_of_getElem? (i := 185) rfl) rfl
theorem gm_737 : (Cond.selects "LetterSchool" ⟨"LetterSchool", "again", "(II)I"⟩ ⟨"LetterSchool", "again", "(II)I"⟩) ∈ gW := tin_3 (List.mem_of_getElem? (i := 186) rfl) rfl
theorem gm_738 : (Cond.code ⟨"LetterSchool", "again", "(II)I"⟩ prog_1_method_17_code 5 (Option.some FieldType.int)) ∈ gW := tin_3 (List.mem_of_getElem? (i := 187) rfl) rfl
theorem gm_739 : (Cond.methodLink "LetterSchoolLaw" 84 ⟨"LetterSchool", "second", "(IIIII)I"⟩) ∈ gW := tin_3 (List.mem_of_getElem? (i := 188) rfl) rfl
theorem gm_740 : (Cond.instanceMethod ⟨"LetterSchool", "second", "(IIIII)I"⟩) ∈ gW := tin_3 (List.mem_of_getElem? (i := 189) rfl) rfl
theorem gm_741 : (Cond.selects "LetterSchool" ⟨"LetterSchool", "second", "(IIIII)I"⟩ ⟨"LetterSchool", "second", "(IIIII)I"⟩) ∈ gW := tin_3 (List.mem_of_getElem? (i := 190) rfl) rfl
theorem gm_742 : (Cond.code ⟨"LetterSchool", "second", "(IIIII)I"⟩ prog_1_method_18_code 7 (Option.some FieldType.int)) ∈ gW := tin_3 (List.mem_of_getElem? (i := 191) rfl) rfl
theorem gm_743 : (Cond.methodLink "LetterSchoolLaw" 88 ⟨"LetterSchool", "thing", "(II)I"⟩) ∈ gW := tin_3 (List.mem_of_getElem? (i := 192) rfl) rfl
theorem gm_744 : (Cond.instanceMethod ⟨"LetterSchool", "thing", "(II)I"⟩) ∈ gW := tin_3 (List.mem_of_getElem? (i := 193) rfl) rfl
theorem gm_745 : (Cond.selects "LetterSchool" ⟨"LetterSchool", "thing", "(II)I"⟩ ⟨"LetterSchool", "thing", "(II)I"⟩) ∈ gW := tin_3 (List.mem_of_getElem? (i := 194) rfl) rfl
theorem gm_746 : (Cond.code ⟨"LetterSchool", "thing", "(II)I"⟩ prog_1_method_19_code 4 (Option.some FieldType.int)) ∈ gW := tin_3 (List.mem_of_getElem? (i := 195) rfl) rfl
theorem gm_747 : (Cond.methodLink "LetterSchoolLaw" 92 ⟨"LetterSchool", "marks", "(II)I"⟩) ∈ gW := tin_3 (List.mem_of_getElem? (i := 196) rfl) rfl
theorem gm_748 : (Cond.instanceMethod ⟨"LetterSchool", "marks", "(II)I"⟩) ∈ gW := tin_3 (List.mem_of_getElem? (i := 197) rfl) rfl
theorem gm_749 : (Cond.selects "LetterSchool" ⟨"LetterSchool", "marks", "(II)I"⟩ ⟨"LetterSchool", "marks", "(II)I"⟩) ∈ gW := tin_3 (List.mem_of_getElem? (i := 198) rfl) rfl
theorem gm_750 : (Cond.code ⟨"LetterSchool", "marks", "(II)I"⟩ prog_1_method_20_code 4 (Option.some FieldType.int)) ∈ gW := tin_3 (List.mem_of_getElem? (i := 199) rfl) rfl
theorem gm_751 : (Cond.methodLink "LetterSchool" 313 ⟨"LetterSchool", "knownOn", "(LLetterSchool$Thing;)I"⟩) ∈ gW := tin_3 (List.mem_of_getElem? (i := 200) rfl) rfl
theorem gm_753 : (Cond.instanceMethod ⟨"LetterSchool", "knownOn", "(LLetterSchool$Thing;)I"⟩) ∈ gW := tin_3 (List.mem_of_getElem? (i := 202) rfl) rfl
theorem gm_754 : (Cond.code ⟨"LetterSchool", "knownOn", "(LLetterSchool$Thing;)I"⟩ prog_1_method_59_code 3 (Option.some FieldType.int)) ∈ gW := tin_3 (List.mem_of_getElem? (i := 203) rfl) rfl
theorem gm_755 : (Cond.methodLink "LetterSchoolLaw" 96 ⟨"LetterSchool", "count", "(I)I"⟩) ∈ gW := tin_3 (List.mem_of_getElem? (i := 204) rfl) rfl
theorem gm_756 : (Cond.instanceMethod ⟨"LetterSchool", "count", "(I)I"⟩) ∈ gW := tin_3 (List.mem_of_getElem? (i := 205) rfl) rfl
theorem gm_757 : (Cond.selects "LetterSchool" ⟨"LetterSchool", "count", "(I)I"⟩ ⟨"LetterSchool", "count", "(I)I"⟩) ∈ gW := tin_3 (List.mem_of_getElem? (i := 206) rfl) rfl
theorem gm_758 : (Cond.code ⟨"LetterSchool", "count", "(I)I"⟩ prog_1_method_21_code 4 (Option.some FieldType.int)) ∈ gW := tin_3 (List.mem_of_getElem? (i := 207) rfl) rfl
theorem gm_759 : (Cond.methodLink "LetterSchoolLaw" 101 ⟨"LetterSchool", "tutor", "(II)I"⟩) ∈ gW := tin_3 (List.mem_of_getElem? (i := 208) rfl) rfl
theorem gm_760 : (Cond.instanceMethod ⟨"LetterSchool", "tutor", "(II)I"⟩) ∈ gW := tin_3 (List.mem_of_getElem? (i := 209) rfl) rfl
theorem gm_761 : (Cond.selects "LetterSchool" ⟨"LetterSchool", "tutor", "(II)I"⟩ ⟨"LetterSchool", "tutor", "(II)I"⟩) ∈ gW := tin_3 (List.mem_of_getElem? (i := 210) rfl) rfl
theorem gm_762 : (Cond.code ⟨"LetterSchool", "tutor", "(II)I"⟩ prog_1_method_22_code 3 (Option.some FieldType.int)) ∈ gW := tin_3 (List.mem_of_getElem? (i := 211) rfl) rfl
theorem gm_763 : (Cond.instantiable "LetterSchool$Tutor" 4) ∈ gW := tin_3 (List.mem_of_getElem? (i := 212) rfl) rfl
theorem gm_764 : (Cond.methodLink "LetterSchool" 317 ⟨"LetterSchool$Tutor", "<init>", "(II)V"⟩) ∈ gW := tin_3 (List.mem_of_getElem? (i := 213) rfl) rfl
theorem gm_765 : (Cond.instanceMethod ⟨"LetterSchool$Tutor", "<init>", "(II)V"⟩) ∈ gW := tin_3 (List.mem_of_getElem? (i := 214) rfl) rfl
theorem gm_766 : (Cond.code ⟨"LetterSchool$Tutor", "<init>", "(II)V"⟩ prog_11_method_1_code 3 (Option.none : Option FieldType)) ∈ gW := tin_3 (List.mem_of_getElem? (i := 215) rfl) rfl
theorem gm_767 : (Cond.methodLink "LetterSchool$Tutor" 1 ⟨"java/lang/Object", "<init>", "()V"⟩) ∈ gW := tin_3 (List.mem_of_getElem? (i := 216) rfl) rfl
theorem gm_768 : (Cond.fieldLink "LetterSchool$Tutor" 16 "LetterSchool$Tutor" "teaches" "I") ∈ gW := tin_3 (List.mem_of_getElem? (i := 217) rfl) rfl
theorem gm_769 : (Cond.fieldLink "LetterSchool$Tutor" 19 "LetterSchool$Tutor" "pace" "I") ∈ gW := tin_3 (List.mem_of_getElem? (i := 218) rfl) rfl
theorem gm_772 : (Cond.fieldLink "LetterSchool$Tutor" 7 "LetterSchool$Tutor" "kin" "I") ∈ gW := tin_3 (List.mem_of_getElem? (i := 221) rfl) rfl
theorem gm_774 : (Cond.fieldLink "LetterSchool$Tutor" 13 "LetterSchool$Tutor" "load" "I") ∈ gW := tin_3 (List.mem_of_getElem? (i := 223) rfl) rfl
theorem gm_777 : (Cond.laysFinal "LetterSchool$Tutor" "LetterSchool$Tutor" "teaches" "I") ∈ gW := tin_3 (List.mem_of_getElem? (i := 226) rfl) rfl
theorem gm_779 : (Cond.laysFinal "LetterSchool$Tutor" "LetterSchool$Tutor" "pace" "I") ∈ gW := tin_3 (List.mem_of_getElem? (i := 228) rfl) rfl
theorem gm_781 : (Cond.lays "LetterSchool$Tutor" "LetterSchool$Tutor" "kin" "I") ∈ gW := tin_3 (List.mem_of_getElem? (i := 230) rfl) rfl
theorem gm_783 : (Cond.lays "LetterSchool$Tutor" "LetterSchool$Tutor" "load" "I") ∈ gW := tin_3 (List.mem_of_getElem? (i := 232) rfl) rfl
theorem gm_786 : (Cond.methodLink "LetterSchoolLaw" 105 ⟨"LetterSchool", "kin", "(II)I"⟩) ∈ gW := tin_3 (List.mem_of_getElem? (i := 235) rfl) rfl
theorem gm_787 : (Cond.instanceMethod ⟨"LetterSchool", "kin", "(II)I"⟩) ∈ gW := tin_3 (List.mem_of_getElem? (i := 236) rfl) rfl
theorem gm_788 : (Cond.selects "LetterSchool" ⟨"LetterSchool", "kin", "(II)I"⟩ ⟨"LetterSchool", "kin", "(II)I"⟩) ∈ gW := tin_3 (List.mem_of_getElem? (i := 237) rfl) rfl
theorem gm_789 : (Cond.code ⟨"LetterSchool", "kin", "(II)I"⟩ prog_1_method_23_code 5 (Option.some FieldType.int)) ∈ gW := tin_3 (List.mem_of_getElem? (i := 238) rfl) rfl
theorem gm_790 : (Cond.methodLink "LetterSchoolLaw" 109 ⟨"LetterSchool", "load", "(I)I"⟩) ∈ gW := tin_3 (List.mem_of_getElem? (i := 239) rfl) rfl
theorem gm_791 : (Cond.instanceMethod ⟨"LetterSchool", "load", "(I)I"⟩) ∈ gW := tin_4 (List.mem_of_getElem? (i := 0) rfl) rfl
theorem gm_792 : (Cond.selects "LetterSchool" ⟨"LetterSchool", "load", "(I)I"⟩ ⟨"LetterSchool", "load", "(I)I"⟩) ∈ gW := tin_4 (List.mem_of_getElem? (i := 1) rfl) rfl
theorem gm_793 : (Cond.code ⟨"LetterSchool", "load", "(I)I"⟩ prog_1_method_24_code 3 (Option.some FieldType.int)) ∈ gW := tin_4 (List.mem_of_getElem? (i := 2) rfl) rfl
theorem gm_794 : (Cond.methodLink "LetterSchoolLaw" 113 ⟨"LetterSchool", "wait", "(II)I"⟩) ∈ gW := tin_4 (List.mem_of_getElem? (i := 3) rfl) rfl
theorem gm_795 : (Cond.instanceMethod ⟨"LetterSchool", "wait", "(II)I"⟩) ∈ gW := tin_4 (List.mem_of_getElem? (i := 4) rfl) rfl
theorem gm_796 : (Cond.selects "LetterSchool" ⟨"LetterSchool", "wait", "(II)I"⟩ ⟨"LetterSchool", "wait", "(II)I"⟩) ∈ gW := tin_4 (List.mem_of_getElem? (i := 5) rfl) rfl
theorem gm_797 : (Cond.code ⟨"LetterSchool", "wait", "(II)I"⟩ prog_1_method_25_code 5 (Option.some FieldType.int)) ∈ gW := tin_4 (List.mem_of_getElem? (i := 6) rfl) rfl
theorem gm_798 : (Cond.methodLink "LetterSchool" 326 ⟨"LetterSchool", "cutUp", "(II)I"⟩) ∈ gW := tin_4 (List.mem_of_getElem? (i := 7) rfl) rfl
theorem gm_799 : (Cond.static ⟨"LetterSchool", "cutUp", "(II)I"⟩) ∈ gW := tin_4 (List.mem_of_getElem? (i := 8) rfl) rfl
theorem gm_800 : (Cond.code ⟨"LetterSchool", "cutUp", "(II)I"⟩ prog_1_method_48_code 2 (Option.some FieldType.int)) ∈ gW := tin_4 (List.mem_of_getElem? (i := 9) rfl) rfl
theorem gm_801 : (Cond.methodLink "LetterSchoolLaw" 117 ⟨"LetterSchool", "took", "(I)I"⟩) ∈ gW := tin_4 (List.mem_of_getElem? (i := 10) rfl) rfl
theorem gm_802 : (Cond.instanceMethod ⟨"LetterSchool", "took", "(I)I"⟩) ∈ gW := tin_4 (List.mem_of_getElem? (i := 11) rfl) rfl
theorem gm_803 : (Cond.selects "LetterSchool" ⟨"LetterSchool", "took", "(I)I"⟩ ⟨"LetterSchool", "took", "(I)I"⟩) ∈ gW := tin_4 (List.mem_of_getElem? (i := 12) rfl) rfl
theorem gm_804 : (Cond.code ⟨"LetterSchool", "took", "(I)I"⟩ prog_1_method_26_code 3 (Option.some FieldType.int)) ∈ gW := tin_4 (List.mem_of_getElem? (i := 13) rfl) rfl
theorem gm_805 : (Cond.methodLink "LetterSchoolLaw" 121 ⟨"LetterSchool", "share", "(II)I"⟩) ∈ gW := tin_4 (List.mem_of_getElem? (i := 14) rfl) rfl
theorem gm_806 : (Cond.instanceMethod ⟨"LetterSchool", "share", "(II)I"⟩) ∈ gW := tin_4 (List.mem_of_getElem? (i := 15) rfl) rfl
theorem gm_807 : (Cond.selects "LetterSchool" ⟨"LetterSchool", "share", "(II)I"⟩ ⟨"LetterSchool", "share", "(II)I"⟩) ∈ gW := tin_4 (List.mem_of_getElem? (i := 16) rfl) rfl
theorem gm_808 : (Cond.code ⟨"LetterSchool", "share", "(II)I"⟩ prog_1_method_27_code 3 (Option.some FieldType.int)) ∈ gW := tin_4 (List.mem_of_getElem? (i := 17) rfl) rfl
theorem gm_809 : (Cond.methodLink "LetterSchool" 332 ⟨"LetterSchool", "shareBy", "(I)V"⟩) ∈ gW := tin_4 (List.mem_of_getElem? (i := 18) rfl) rfl
theorem gm_811 : (Cond.instanceMethod ⟨"LetterSchool", "shareBy", "(I)V"⟩) ∈ gW := tin_4 (List.mem_of_getElem? (i := 20) rfl) rfl
theorem gm_812 : (Cond.code ⟨"LetterSchool", "shareBy", "(I)V"⟩ prog_1_method_60_code 3 (Option.none : Option FieldType)) ∈ gW := tin_4 (List.mem_of_getElem? (i := 21) rfl) rfl
theorem gm_813 : (Cond.methodLink "LetterSchool" 412 ⟨"LetterSchool$Sharing", "clear", "()V"⟩) ∈ gW := tin_4 (List.mem_of_getElem? (i := 22) rfl) rfl
theorem gm_814 : (Cond.instanceMethod ⟨"LetterSchool$Sharing", "clear", "()V"⟩) ∈ gW := tin_4 (List.mem_of_getElem? (i := 23) rfl) rfl
theorem gm_815 : (Cond.selects "LetterSchool$Sharing" ⟨"LetterSchool$Sharing", "clear", "()V"⟩ ⟨"LetterSchool$Sharing", "clear", "()V"⟩) ∈ gW := tin_4 (List.mem_of_getElem? (i := 24) rfl) rfl
theorem gm_816 : (Cond.code ⟨"LetterSchool$Sharing", "clear", "()V"⟩ prog_7_method_2_code 1 (Option.none : Option FieldType)) ∈ gW := tin_4 (List.mem_of_getElem? (i := 25) rfl) rfl
theorem gm_817 : (Cond.methodLink "LetterSchool" 415 ⟨"LetterSchool$Sharing", "addTutor", "(LLetterSchool$Tutor;)V"⟩) ∈ gW := tin_4 (List.mem_of_getElem? (i := 26) rfl) rfl
theorem gm_818 : (Cond.instanceMethod ⟨"LetterSchool$Sharing", "addTutor", "(LLetterSchool$Tutor;)V"⟩) ∈ gW := tin_4 (List.mem_of_getElem? (i := 27) rfl) rfl
theorem gm_819 : (Cond.selects "LetterSchool$Sharing" ⟨"LetterSchool$Sharing", "addTutor", "(LLetterSchool$Tutor;)V"⟩ ⟨"LetterSchool$Sharing", "addTutor", "(LLetterSchool$Tutor;)V"⟩) ∈ gW := tin_4 (List.mem_of_getElem? (i := 28) rfl) rfl
theorem gm_820 : (Cond.code ⟨"LetterSchool$Sharing", "addTutor", "(LLetterSchool$Tutor;)V"⟩ prog_7_method_3_code 2 (Option.none : Option FieldType)) ∈ gW := tin_4 (List.mem_of_getElem? (i := 29) rfl) rfl
theorem gm_821 : (Cond.methodLink "LetterSchool" 419 ⟨"LetterSchool", "tutorsFor", "(LLetterSchool$Thing;)I"⟩) ∈ gW := tin_4 (List.mem_of_getElem? (i := 30) rfl) rfl
theorem gm_823 : (Cond.instanceMethod ⟨"LetterSchool", "tutorsFor", "(LLetterSchool$Thing;)I"⟩) ∈ gW := tin_4 (List.mem_of_getElem? (i := 32) rfl) rfl
theorem gm_824 : (Cond.code ⟨"LetterSchool", "tutorsFor", "(LLetterSchool$Thing;)I"⟩ prog_1_method_61_code 4 (Option.some FieldType.int)) ∈ gW := tin_4 (List.mem_of_getElem? (i := 33) rfl) rfl
theorem gm_825 : (Cond.methodLink "LetterSchool" 422 ⟨"LetterSchool$Sharing", "addThing", "(II)V"⟩) ∈ gW := tin_4 (List.mem_of_getElem? (i := 34) rfl) rfl
theorem gm_826 : (Cond.instanceMethod ⟨"LetterSchool$Sharing", "addThing", "(II)V"⟩) ∈ gW := tin_4 (List.mem_of_getElem? (i := 35) rfl) rfl
theorem gm_827 : (Cond.selects "LetterSchool$Sharing" ⟨"LetterSchool$Sharing", "addThing", "(II)V"⟩ ⟨"LetterSchool$Sharing", "addThing", "(II)V"⟩) ∈ gW := tin_4 (List.mem_of_getElem? (i := 36) rfl) rfl
theorem gm_828 : (Cond.code ⟨"LetterSchool$Sharing", "addThing", "(II)V"⟩ prog_7_method_4_code 3 (Option.none : Option FieldType)) ∈ gW := tin_4 (List.mem_of_getElem? (i := 37) rfl) rfl
theorem gm_829 : (Cond.methodLink "LetterSchool" 425 ⟨"LetterSchool$Sharing", "solve", "()V"⟩) ∈ gW := tin_4 (List.mem_of_getElem? (i := 38) rfl) rfl
theorem gm_830 : (Cond.instanceMethod ⟨"LetterSchool$Sharing", "solve", "()V"⟩) ∈ gW := tin_4 (List.mem_of_getElem? (i := 39) rfl) rfl
theorem gm_831 : (Cond.selects "LetterSchool$Sharing" ⟨"LetterSchool$Sharing", "solve", "()V"⟩ ⟨"LetterSchool$Sharing", "solve", "()V"⟩) ∈ gW := tin_4 (List.mem_of_getElem? (i := 40) rfl) rfl
theorem gm_832 : (Cond.code ⟨"LetterSchool$Sharing", "solve", "()V"⟩ prog_7_method_5_code 1 (Option.none : Option FieldType)) ∈ gW := tin_4 (List.mem_of_getElem? (i := 41) rfl) rfl
theorem gm_833 : (Cond.methodLink "LetterSchool$Sharing" 55 ⟨"LetterSchool$Sharing", "lookAhead", "()V"⟩) ∈ gW := tin_4 (List.mem_of_getElem? (i := 42) rfl) rfl
theorem gm_835 : (Cond.instanceMethod ⟨"LetterSchool$Sharing", "lookAhead", "()V"⟩) ∈ gW := tin_4 (List.mem_of_getElem? (i := 44) rfl) rfl
theorem gm_836 : (Cond.code ⟨"LetterSchool$Sharing", "lookAhead", "()V"⟩ prog_7_method_6_code 3 (Option.none : Option FieldType)) ∈ gW := tin_4 (List.mem_of_getElem? (i := 45) rfl) rfl
theorem gm_837 : (Cond.methodLink "LetterSchool$Sharing" 62 ⟨"LetterSchool$Sharing", "fewestDays", "(I)I"⟩) ∈ gW := tin_4 (List.mem_of_getElem? (i := 46) rfl) rfl
theorem gm_839 : (Cond.instanceMethod ⟨"LetterSchool$Sharing", "fewestDays", "(I)I"⟩) ∈ gW := tin_4 (List.mem_of_getElem? (i := 48) rfl) rfl
theorem gm_840 : (Cond.code ⟨"LetterSchool$Sharing", "fewestDays", "(I)I"⟩ prog_7_method_7_code 5 (Option.some FieldType.int)) ∈ gW := tin_4 (List.mem_of_getElem? (i := 49) rfl) rfl
theorem gm_842 : (Cond.methodLink "LetterSchool$Sharing" 70 ⟨"LetterSchool$Sharing", "canTake", "(II)Z"⟩) ∈ gW := tin_4 (List.mem_of_getElem? (i := 51) rfl) rfl
theorem gm_844 : (Cond.instanceMethod ⟨"LetterSchool$Sharing", "canTake", "(II)Z"⟩) ∈ gW := tin_4 (List.mem_of_getElem? (i := 53) rfl) rfl
theorem gm_845 : (Cond.code ⟨"LetterSchool$Sharing", "canTake", "(II)Z"⟩ prog_7_method_8_code 3 (Option.some FieldType.boolean)) ∈ gW := tin_4 (List.mem_of_getElem? (i := 54) rfl) rfl
theorem gm_846 : (Cond.methodLink "LetterSchool$Sharing" 58 ⟨"LetterSchool$Sharing", "seek", "(III)V"⟩) ∈ gW := tin_4 (List.mem_of_getElem? (i := 55) rfl) rfl
theorem gm_848 : (Cond.instanceMethod ⟨"LetterSchool$Sharing", "seek", "(III)V"⟩) ∈ gW := tin_4 (List.mem_of_getElem? (i := 57) rfl) rfl
theorem gm_849 : (Cond.code ⟨"LetterSchool$Sharing", "seek", "(III)V"⟩ prog_7_method_9_code 5 (Option.none : Option FieldType)) ∈ gW := tin_4 (List.mem_of_getElem? (i := 58) rfl) rfl
theorem gm_850 : (Cond.methodLink "LetterSchool$Sharing" 74 ⟨"LetterSchool$Sharing", "canBeBetter", "(III)Z"⟩) ∈ gW := tin_4 (List.mem_of_getElem? (i := 59) rfl) rfl
theorem gm_852 : (Cond.instanceMethod ⟨"LetterSchool$Sharing", "canBeBetter", "(III)Z"⟩) ∈ gW := tin_4 (List.mem_of_getElem? (i := 61) rfl) rfl
theorem gm_853 : (Cond.code ⟨"LetterSchool$Sharing", "canBeBetter", "(III)Z"⟩ prog_7_method_10_code 5 (Option.some FieldType.boolean)) ∈ gW := tin_4 (List.mem_of_getElem? (i := 62) rfl) rfl
theorem gm_854 : (Cond.methodLink "LetterSchool$Sharing" 78 ⟨"java/lang/System", "arraycopy", "(Ljava/lang/Object;ILjava/lang/Object;II)V"⟩) ∈ gW := tin_4 (List.mem_of_getElem? (i := 63) rfl) rfl
theorem gm_855 : (Cond.static ⟨"java/lang/System", "arraycopy", "(Ljava/lang/Object;ILjava/lang/Object;II)V"⟩) ∈ gW := tin_4 (List.mem_of_getElem? (i := 64) rfl) rfl
theorem gm_856 : (Cond.native ⟨"java/lang/System", "arraycopy", "(Ljava/lang/Object;ILjava/lang/Object;II)V"⟩) ∈ gW := tin_4 (List.mem_of_getElem? (i := 65) rfl) rfl
theorem gm_857 : (Cond.methodLink "LetterSchoolLaw" 125 ⟨"LetterSchool", "shareOf", "(II)I"⟩) ∈ gW := tin_4 (List.mem_of_getElem? (i := 66) rfl) rfl
theorem gm_858 : (Cond.instanceMethod ⟨"LetterSchool", "shareOf", "(II)I"⟩) ∈ gW := tin_4 (List.mem_of_getElem? (i := 67) rfl) rfl
theorem gm_859 : (Cond.selects "LetterSchool" ⟨"LetterSchool", "shareOf", "(II)I"⟩ ⟨"LetterSchool", "shareOf", "(II)I"⟩) ∈ gW := tin_4 (List.mem_of_getElem? (i := 68) rfl) rfl
theorem gm_860 : (Cond.code ⟨"LetterSchool", "shareOf", "(II)I"⟩ prog_1_method_28_code 3 (Option.some FieldType.int)) ∈ gW := tin_4 (List.mem_of_getElem? (i := 69) rfl) rfl
theorem gm_861 : (Cond.methodLink "LetterSchool" 341 ⟨"LetterSchool$Sharing", "tutorOf", "(I)I"⟩) ∈ gW := tin_4 (List.mem_of_getElem? (i := 70) rfl) rfl
theorem gm_862 : (Cond.instanceMethod ⟨"LetterSchool$Sharing", "tutorOf", "(I)I"⟩) ∈ gW := tin_4 (List.mem_of_getElem? (i := 71) rfl) rfl
theorem gm_863 : (Cond.selects "LetterSchool$Sharing" ⟨"LetterSchool$Sharing", "tutorOf", "(I)I"⟩ ⟨"LetterSchool$Sharing", "tutorOf", "(I)I"⟩) ∈ gW := tin_4 (List.mem_of_getElem? (i := 72) rfl) rfl
theorem gm_864 : (Cond.code ⟨"LetterSchool$Sharing", "tutorOf", "(I)I"⟩ prog_7_method_11_code 3 (Option.some FieldType.int)) ∈ gW := tin_4 (List.mem_of_getElem? (i := 73) rfl) rfl
theorem gm_865 : (Cond.methodLink "LetterSchoolLaw" 129 ⟨"LetterSchool", "offset", "(III)I"⟩) ∈ gW := tin_4 (List.mem_of_getElem? (i := 74) rfl) rfl
theorem gm_866 : (Cond.instanceMethod ⟨"LetterSchool", "offset", "(III)I"⟩) ∈ gW := tin_4 (List.mem_of_getElem? (i := 75) rfl) rfl
theorem gm_867 : (Cond.selects "LetterSchool" ⟨"LetterSchool", "offset", "(III)I"⟩ ⟨"LetterSchool", "offset", "(III)I"⟩) ∈ gW := tin_4 (List.mem_of_getElem? (i := 76) rfl) rfl
theorem gm_868 : (Cond.code ⟨"LetterSchool", "offset", "(III)I"⟩ prog_1_method_29_code 11 (Option.some FieldType.int)) ∈ gW := tin_4 (List.mem_of_getElem? (i := 77) rfl) rfl
theorem gm_869 : (Cond.methodLink "LetterSchool" 344 ⟨"LetterSchool$Thing", "isMarkedByBoth", "(II)Z"⟩) ∈ gW := tin_4 (List.mem_of_getElem? (i := 78) rfl) rfl
theorem gm_870 : (Cond.instanceMethod ⟨"LetterSchool$Thing", "isMarkedByBoth", "(II)Z"⟩) ∈ gW := tin_4 (List.mem_of_getElem? (i := 79) rfl) rfl
theorem gm_871 : (Cond.selects "LetterSchool$Thing" ⟨"LetterSchool$Thing", "isMarkedByBoth", "(II)Z"⟩ ⟨"LetterSchool$Thing", "isMarkedByBoth", "(II)Z"⟩) ∈ gW := tin_4 (List.mem_of_getElem? (i := 80) rfl) rfl
theorem gm_872 : (Cond.code ⟨"LetterSchool$Thing", "isMarkedByBoth", "(II)Z"⟩ prog_10_method_5_code 3 (Option.some FieldType.boolean)) ∈ gW := tin_4 (List.mem_of_getElem? (i := 81) rfl) rfl
theorem gm_873 : (Cond.methodLink "LetterSchool" 347 ⟨"java/lang/Math", "min", "(II)I"⟩) ∈ gW := tin_4 (List.mem_of_getElem? (i := 82) rfl) rfl
theorem gm_874 : (Cond.methodLink "LetterSchoolLaw" 133 ⟨"LetterSchool", "key", "(III)I"⟩) ∈ gW := tin_4 (List.mem_of_getElem? (i := 83) rfl) rfl
theorem gm_875 : (Cond.instanceMethod ⟨"LetterSchool", "key", "(III)I"⟩) ∈ gW := tin_4 (List.mem_of_getElem? (i := 84) rfl) rfl
theorem gm_876 : (Cond.selects "LetterSchool" ⟨"LetterSchool", "key", "(III)I"⟩ ⟨"LetterSchool", "key", "(III)I"⟩) ∈ gW := tin_4 (List.mem_of_getElem? (i := 85) rfl) rfl
theorem gm_877 : (Cond.code ⟨"LetterSchool", "key", "(III)I"⟩ prog_1_method_30_code 5 (Option.some FieldType.int)) ∈ gW := tin_4 (List.mem_of_getElem? (i := 86) rfl) rfl
theorem gm_878 : (Cond.methodLink "LetterSchoolLaw" 137 ⟨"LetterSchool", "choose", "(III)I"⟩) ∈ gW := tin_4 (List.mem_of_getElem? (i := 87) rfl) rfl
theorem gm_879 : (Cond.instanceMethod ⟨"LetterSchool", "choose", "(III)I"⟩) ∈ gW := tin_4 (List.mem_of_getElem? (i := 88) rfl) rfl
theorem gm_880 : (Cond.selects "LetterSchool" ⟨"LetterSchool", "choose", "(III)I"⟩ ⟨"LetterSchool", "choose", "(III)I"⟩) ∈ gW := tin_4 (List.mem_of_getElem? (i := 89) rfl) rfl
theorem gm_881 : (Cond.code ⟨"LetterSchool", "choose", "(III)I"⟩ prog_1_method_31_code 6 (Option.some FieldType.int)) ∈ gW := tin_4 (List.mem_of_getElem? (i := 90) rfl) rfl
theorem gm_882 : (Cond.methodLink "LetterSchoolLaw" 141 ⟨"LetterSchool", "like", "(II)I"⟩) ∈ gW := tin_4 (List.mem_of_getElem? (i := 91) rfl) rfl
theorem gm_883 : (Cond.instanceMethod ⟨"LetterSchool", "like", "(II)I"⟩) ∈ gW := tin_4 (List.mem_of_getElem? (i := 92) rfl) rfl
theorem gm_884 : (Cond.selects "LetterSchool" ⟨"LetterSchool", "like", "(II)I"⟩ ⟨"LetterSchool", "like", "(II)I"⟩) ∈ gW := tin_4 (List.mem_of_getElem? (i := 93) rfl) rfl
theorem gm_885 : (Cond.code ⟨"LetterSchool", "like", "(II)I"⟩ prog_1_method_32_code 5 (Option.some FieldType.int)) ∈ gW := tin_4 (List.mem_of_getElem? (i := 94) rfl) rfl
theorem gm_886 : (Cond.methodLink "LetterSchool" 358 ⟨"LetterSchool", "areComparable", "(LLetterSchool$Thing;LLetterSchool$Thing;)Z"⟩) ∈ gW := tin_4 (List.mem_of_getElem? (i := 95) rfl) rfl
theorem gm_887 : (Cond.static ⟨"LetterSchool", "areComparable", "(LLetterSchool$Thing;LLetterSchool$Thing;)Z"⟩) ∈ gW := tin_4 (List.mem_of_getElem? (i := 96) rfl) rfl
theorem gm_888 : (Cond.code ⟨"LetterSchool", "areComparable", "(LLetterSchool$Thing;LLetterSchool$Thing;)Z"⟩ prog_1_method_62_code 2 (Option.some FieldType.boolean)) ∈ gW := tin_4 (List.mem_of_getElem? (i := 97) rfl) rfl
theorem gm_889 : (Cond.methodLink "LetterSchool" 362 ⟨"LetterSchool", "likeness", "(LLetterSchool$Thing;LLetterSchool$Thing;)I"⟩) ∈ gW := tin_4 (List.mem_of_getElem? (i := 98) rfl) rfl
theorem gm_891 : (Cond.instanceMethod ⟨"LetterSchool", "likeness", "(LLetterSchool$Thing;LLetterSchool$Thing;)I"⟩) ∈ gW := tin_4 (List.mem_of_getElem? (i := 100) rfl) rfl
theorem gm_892 : (Cond.code ⟨"LetterSchool", "likeness", "(LLetterSchool$Thing;LLetterSchool$Thing;)I"⟩ prog_1_method_63_code 5 (Option.some FieldType.int)) ∈ gW := tin_4 (List.mem_of_getElem? (i := 101) rfl) rfl
theorem gm_893 : (Cond.methodLink "LetterSchoolLaw" 145 ⟨"LetterSchool", "limit", "(I)I"⟩) ∈ gW := tin_4 (List.mem_of_getElem? (i := 102) rfl) rfl
theorem gm_894 : (Cond.instanceMethod ⟨"LetterSchool", "limit", "(I)I"⟩) ∈ gW := tin_4 (List.mem_of_getElem? (i := 103) rfl) rfl
theorem gm_895 : (Cond.selects "LetterSchool" ⟨"LetterSchool", "limit", "(I)I"⟩ ⟨"LetterSchool", "limit", "(I)I"⟩) ∈ gW := tin_4 (List.mem_of_getElem? (i := 104) rfl) rfl
theorem gm_896 : (Cond.code ⟨"LetterSchool", "limit", "(I)I"⟩ prog_1_method_33_code 3 (Option.some FieldType.int)) ∈ gW := tin_4 (List.mem_of_getElem? (i := 105) rfl) rfl
theorem gm_897 : (Cond.methodLink "LetterSchoolLaw" 149 ⟨"LetterSchool", "doubted", "(I)I"⟩) ∈ gW := tin_4 (List.mem_of_getElem? (i := 106) rfl) rfl
theorem gm_898 : (Cond.instanceMethod ⟨"LetterSchool", "doubted", "(I)I"⟩) ∈ gW := tin_4 (List.mem_of_getElem? (i := 107) rfl) rfl
theorem gm_899 : (Cond.selects "LetterSchool" ⟨"LetterSchool", "doubted", "(I)I"⟩ ⟨"LetterSchool", "doubted", "(I)I"⟩) ∈ gW := tin_4 (List.mem_of_getElem? (i := 108) rfl) rfl
theorem gm_900 : (Cond.code ⟨"LetterSchool", "doubted", "(I)I"⟩ prog_1_method_34_code 5 (Option.some FieldType.int)) ∈ gW := tin_4 (List.mem_of_getElem? (i := 109) rfl) rfl
theorem gm_901 : (Cond.methodLink "LetterSchool" 366 ⟨"LetterSchool", "isDoubted", "(LLetterSchool$Thing;LLetterSchool$Thing;)Z"⟩) ∈ gW := tin_4 (List.mem_of_getElem? (i := 110) rfl) rfl
theorem gm_903 : (Cond.instanceMethod ⟨"LetterSchool", "isDoubted", "(LLetterSchool$Thing;LLetterSchool$Thing;)Z"⟩) ∈ gW := tin_4 (List.mem_of_getElem? (i := 112) rfl) rfl
theorem gm_904 : (Cond.code ⟨"LetterSchool", "isDoubted", "(LLetterSchool$Thing;LLetterSchool$Thing;)Z"⟩ prog_1_method_64_code 3 (Option.some FieldType.boolean)) ∈ gW := tin_4 (List.mem_of_getElem? (i := 113) rfl) rfl
theorem gm_905 : (Cond.methodLink "LetterSchoolLaw" 153 ⟨"LetterSchool", "fees", "(I)I"⟩) ∈ gW := tin_4 (List.mem_of_getElem? (i := 114) rfl) rfl
theorem gm_906 : (Cond.instanceMethod ⟨"LetterSchool", "fees", "(I)I"⟩) ∈ gW := tin_4 (List.mem_of_getElem? (i := 115) rfl) rfl
theorem gm_907 : (Cond.selects "LetterSchool" ⟨"LetterSchool", "fees", "(I)I"⟩ ⟨"LetterSchool", "fees", "(I)I"⟩) ∈ gW := tin_4 (List.mem_of_getElem? (i := 116) rfl) rfl
theorem gm_908 : (Cond.code ⟨"LetterSchool", "fees", "(I)I"⟩ prog_1_method_35_code 4 (Option.some FieldType.int)) ∈ gW := tin_4 (List.mem_of_getElem? (i := 117) rfl) rfl
theorem gm_909 : (Cond.methodLink "LetterSchool" 369 ⟨"LetterSchool$Tape", "readFees", "(LLetterSchool$Fees;)Z"⟩) ∈ gW := tin_4 (List.mem_of_getElem? (i := 118) rfl) rfl
theorem gm_910 : (Cond.instanceMethod ⟨"LetterSchool$Tape", "readFees", "(LLetterSchool$Fees;)Z"⟩) ∈ gW := tin_4 (List.mem_of_getElem? (i := 119) rfl) rfl
theorem gm_911 : (Cond.selects "LetterSchool$Tape" ⟨"LetterSchool$Tape", "readFees", "(LLetterSchool$Fees;)Z"⟩ ⟨"LetterSchool$Tape", "readFees", "(LLetterSchool$Fees;)Z"⟩) ∈ gW := tin_4 (List.mem_of_getElem? (i := 120) rfl) rfl
theorem gm_912 : (Cond.code ⟨"LetterSchool$Tape", "readFees", "(LLetterSchool$Fees;)Z"⟩ prog_9_method_12_code 3 (Option.some FieldType.boolean)) ∈ gW := tin_4 (List.mem_of_getElem? (i := 121) rfl) rfl
theorem gm_913 : (Cond.methodLink "LetterSchool$Tape" 93 ⟨"LetterSchool$Tape", "readFee", "(LLetterSchool$Fees;)Z"⟩) ∈ gW := tin_4 (List.mem_of_getElem? (i := 122) rfl) rfl
theorem gm_915 : (Cond.instanceMethod ⟨"LetterSchool$Tape", "readFee", "(LLetterSchool$Fees;)Z"⟩) ∈ gW := tin_4 (List.mem_of_getElem? (i := 124) rfl) rfl
theorem gm_916 : (Cond.code ⟨"LetterSchool$Tape", "readFee", "(LLetterSchool$Fees;)Z"⟩ prog_9_method_13_code 5 (Option.some FieldType.boolean)) ∈ gW := tin_4 (List.mem_of_getElem? (i := 125) rfl) rfl
theorem gm_917 : (Cond.constant "LetterSchool$Tape" 97 99999) ∈ gW := tin_4 (List.mem_of_getElem? (i := 126) rfl) rfl
theorem gm_918 : (Cond.methodLink "LetterSchool$Tape" 98 ⟨"LetterSchool$Fees", "add", "(ZII)V"⟩) ∈ gW := tin_4 (List.mem_of_getElem? (i := 127) rfl) rfl
theorem gm_919 : (Cond.instanceMethod ⟨"LetterSchool$Fees", "add", "(ZII)V"⟩) ∈ gW := tin_4 (List.mem_of_getElem? (i := 128) rfl) rfl
theorem gm_920 : (Cond.selects "LetterSchool$Fees" ⟨"LetterSchool$Fees", "add", "(ZII)V"⟩ ⟨"LetterSchool$Fees", "add", "(ZII)V"⟩) ∈ gW := tin_4 (List.mem_of_getElem? (i := 129) rfl) rfl
theorem gm_921 : (Cond.code ⟨"LetterSchool$Fees", "add", "(ZII)V"⟩ prog_3_method_2_code 4 (Option.none : Option FieldType)) ∈ gW := tin_4 (List.mem_of_getElem? (i := 130) rfl) rfl
theorem gm_922 : (Cond.methodLink "LetterSchoolLaw" 157 ⟨"LetterSchool", "pay", "(III)I"⟩) ∈ gW := tin_4 (List.mem_of_getElem? (i := 131) rfl) rfl
theorem gm_923 : (Cond.instanceMethod ⟨"LetterSchool", "pay", "(III)I"⟩) ∈ gW := tin_4 (List.mem_of_getElem? (i := 132) rfl) rfl
theorem gm_924 : (Cond.selects "LetterSchool" ⟨"LetterSchool", "pay", "(III)I"⟩ ⟨"LetterSchool", "pay", "(III)I"⟩) ∈ gW := tin_4 (List.mem_of_getElem? (i := 133) rfl) rfl
theorem gm_925 : (Cond.code ⟨"LetterSchool", "pay", "(III)I"⟩ prog_1_method_36_code 5 (Option.some FieldType.int)) ∈ gW := tin_4 (List.mem_of_getElem? (i := 134) rfl) rfl
theorem gm_926 : (Cond.constant "LetterSchool" 376 99999) ∈ gW := tin_4 (List.mem_of_getElem? (i := 135) rfl) rfl
theorem gm_927 : (Cond.methodLink "LetterSchool" 377 ⟨"LetterSchool$Ledger", "enter", "(III)Z"⟩) ∈ gW := tin_4 (List.mem_of_getElem? (i := 136) rfl) rfl
theorem gm_928 : (Cond.instanceMethod ⟨"LetterSchool$Ledger", "enter", "(III)Z"⟩) ∈ gW := tin_4 (List.mem_of_getElem? (i := 137) rfl) rfl
theorem gm_929 : (Cond.selects "LetterSchool$Ledger" ⟨"LetterSchool$Ledger", "enter", "(III)Z"⟩ ⟨"LetterSchool$Ledger", "enter", "(III)Z"⟩) ∈ gW := tin_4 (List.mem_of_getElem? (i := 138) rfl) rfl
theorem gm_930 : (Cond.code ⟨"LetterSchool$Ledger", "enter", "(III)Z"⟩ prog_4_method_2_code 4 (Option.some FieldType.boolean)) ∈ gW := tin_4 (List.mem_of_getElem? (i := 139) rfl) rfl
theorem gm_931 : (Cond.methodLink "LetterSchoolLaw" 161 ⟨"LetterSchool", "due", "(II)I"⟩) ∈ gW := tin_4 (List.mem_of_getElem? (i := 140) rfl) rfl
theorem gm_932 : (Cond.instanceMethod ⟨"LetterSchool", "due", "(II)I"⟩) ∈ gW := tin_4 (List.mem_of_getElem? (i := 141) rfl) rfl
theorem gm_933 : (Cond.selects "LetterSchool" ⟨"LetterSchool", "due", "(II)I"⟩ ⟨"LetterSchool", "due", "(II)I"⟩) ∈ gW := tin_4 (List.mem_of_getElem? (i := 142) rfl) rfl
theorem gm_934 : (Cond.code ⟨"LetterSchool", "due", "(II)I"⟩ prog_1_method_37_code 4 (Option.some FieldType.int)) ∈ gW := tin_4 (List.mem_of_getElem? (i := 143) rfl) rfl
theorem gm_935 : (Cond.methodLink "LetterSchool" 380 ⟨"LetterSchool$Fees", "partsBy", "(I)I"⟩) ∈ gW := tin_4 (List.mem_of_getElem? (i := 144) rfl) rfl
theorem gm_936 : (Cond.instanceMethod ⟨"LetterSchool$Fees", "partsBy", "(I)I"⟩) ∈ gW := tin_4 (List.mem_of_getElem? (i := 145) rfl) rfl
theorem gm_937 : (Cond.selects "LetterSchool$Fees" ⟨"LetterSchool$Fees", "partsBy", "(I)I"⟩ ⟨"LetterSchool$Fees", "partsBy", "(I)I"⟩) ∈ gW := tin_4 (List.mem_of_getElem? (i := 146) rfl) rfl
theorem gm_938 : (Cond.code ⟨"LetterSchool$Fees", "partsBy", "(I)I"⟩ prog_3_method_3_code 4 (Option.some FieldType.int)) ∈ gW := tin_4 (List.mem_of_getElem? (i := 147) rfl) rfl
theorem gm_939 : (Cond.methodLink "LetterSchoolLaw" 165 ⟨"LetterSchool", "leave", "(II)I"⟩) ∈ gW := tin_4 (List.mem_of_getElem? (i := 148) rfl) rfl
theorem gm_940 : (Cond.instanceMethod ⟨"LetterSchool", "leave", "(II)I"⟩) ∈ gW := tin_4 (List.mem_of_getElem? (i := 149) rfl) rfl
theorem gm_941 : (Cond.selects "LetterSchool" ⟨"LetterSchool", "leave", "(II)I"⟩ ⟨"LetterSchool", "leave", "(II)I"⟩) ∈ gW := tin_4 (List.mem_of_getElem? (i := 150) rfl) rfl
theorem gm_942 : (Cond.code ⟨"LetterSchool", "leave", "(II)I"⟩ prog_1_method_38_code 4 (Option.some FieldType.int)) ∈ gW := tin_4 (List.mem_of_getElem? (i := 151) rfl) rfl
theorem gm_943 : (Cond.methodLink "LetterSchool" 383 ⟨"LetterSchool$Fees", "backAfter", "(I)I"⟩) ∈ gW := tin_4 (List.mem_of_getElem? (i := 152) rfl) rfl
theorem gm_944 : (Cond.instanceMethod ⟨"LetterSchool$Fees", "backAfter", "(I)I"⟩) ∈ gW := tin_4 (List.mem_of_getElem? (i := 153) rfl) rfl
theorem gm_945 : (Cond.selects "LetterSchool$Fees" ⟨"LetterSchool$Fees", "backAfter", "(I)I"⟩ ⟨"LetterSchool$Fees", "backAfter", "(I)I"⟩) ∈ gW := tin_4 (List.mem_of_getElem? (i := 154) rfl) rfl
theorem gm_946 : (Cond.code ⟨"LetterSchool$Fees", "backAfter", "(I)I"⟩ prog_3_method_4_code 3 (Option.some FieldType.int)) ∈ gW := tin_4 (List.mem_of_getElem? (i := 155) rfl) rfl
theorem gm_947 : (Cond.constantLong "LetterSchool" 386 100) ∈ gW := tin_4 (List.mem_of_getElem? (i := 156) rfl) rfl
theorem gm_948 : (Cond.methodLink "LetterSchoolLaw" 169 ⟨"LetterSchool", "move", "(III)I"⟩) ∈ gW := tin_4 (List.mem_of_getElem? (i := 157) rfl) rfl
theorem gm_949 : (Cond.instanceMethod ⟨"LetterSchool", "move", "(III)I"⟩) ∈ gW := tin_4 (List.mem_of_getElem? (i := 158) rfl) rfl
theorem gm_950 : (Cond.selects "LetterSchool" ⟨"LetterSchool", "move", "(III)I"⟩ ⟨"LetterSchool", "move", "(III)I"⟩) ∈ gW := tin_4 (List.mem_of_getElem? (i := 159) rfl) rfl
theorem gm_951 : (Cond.code ⟨"LetterSchool", "move", "(III)I"⟩ prog_1_method_39_code 7 (Option.some FieldType.int)) ∈ gW := tin_4 (List.mem_of_getElem? (i := 160) rfl) rfl
theorem gm_952 : (Cond.methodLink "LetterSchool" 388 ⟨"LetterSchool$Pupil", "follow", "(IILLetterSchool$Edition;)V"⟩) ∈ gW := tin_4 (List.mem_of_getElem? (i := 161) rfl) rfl
theorem gm_953 : (Cond.instanceMethod ⟨"LetterSchool$Pupil", "follow", "(IILLetterSchool$Edition;)V"⟩) ∈ gW := tin_4 (List.mem_of_getElem? (i := 162) rfl) rfl
theorem gm_954 : (Cond.selects "LetterSchool$Pupil" ⟨"LetterSchool$Pupil", "follow", "(IILLetterSchool$Edition;)V"⟩ ⟨"LetterSchool$Pupil", "follow", "(IILLetterSchool$Edition;)V"⟩) ∈ gW := tin_4 (List.mem_of_getElem? (i := 163) rfl) rfl
theorem gm_955 : (Cond.code ⟨"LetterSchool$Pupil", "follow", "(IILLetterSchool$Edition;)V"⟩ prog_6_method_2_code 4 (Option.none : Option FieldType)) ∈ gW := tin_4 (List.mem_of_getElem? (i := 164) rfl) rfl
theorem gm_956 : (Cond.methodLink "LetterSchoolLaw" 173 ⟨"LetterSchool", "sheet", "(III)I"⟩) ∈ gW := tin_4 (List.mem_of_getElem? (i := 165) rfl) rfl
theorem gm_957 : (Cond.instanceMethod ⟨"LetterSchool", "sheet", "(III)I"⟩) ∈ gW := tin_4 (List.mem_of_getElem? (i := 166) rfl) rfl
theorem gm_958 : (Cond.selects "LetterSchool" ⟨"LetterSchool", "sheet", "(III)I"⟩ ⟨"LetterSchool", "sheet", "(III)I"⟩) ∈ gW := tin_4 (List.mem_of_getElem? (i := 167) rfl) rfl
theorem gm_959 : (Cond.code ⟨"LetterSchool", "sheet", "(III)I"⟩ prog_1_method_40_code 4 (Option.some FieldType.int)) ∈ gW := tin_4 (List.mem_of_getElem? (i := 168) rfl) rfl
theorem gm_960 : (Cond.methodLink "LetterSchool" 392 ⟨"LetterSchool$Sheet", "begin", "(II)V"⟩) ∈ gW := tin_4 (List.mem_of_getElem? (i := 169) rfl) rfl
theorem gm_961 : (Cond.instanceMethod ⟨"LetterSchool$Sheet", "begin", "(II)V"⟩) ∈ gW := tin_4 (List.mem_of_getElem? (i := 170) rfl) rfl
theorem gm_962 : (Cond.selects "LetterSchool$Sheet" ⟨"LetterSchool$Sheet", "begin", "(II)V"⟩ ⟨"LetterSchool$Sheet", "begin", "(II)V"⟩) ∈ gW := tin_4 (List.mem_of_getElem? (i := 171) rfl) rfl
theorem gm_963 : (Cond.code ⟨"LetterSchool$Sheet", "begin", "(II)V"⟩ prog_8_method_2_code 3 (Option.none : Option FieldType)) ∈ gW := tin_4 (List.mem_of_getElem? (i := 172) rfl) rfl
theorem gm_964 : (Cond.methodLink "LetterSchool$Sheet" 22 ⟨"java/util/Arrays", "fill", "([II)V"⟩) ∈ gW := tin_4 (List.mem_of_getElem? (i := 173) rfl) rfl
theorem gm_965 : (Cond.methodLink "LetterSchoolLaw" 177 ⟨"LetterSchool", "drop", "(I)I"⟩) ∈ gW := tin_4 (List.mem_of_getElem? (i := 174) rfl) rfl
theorem gm_966 : (Cond.instanceMethod ⟨"LetterSchool", "drop", "(I)I"⟩) ∈ gW := tin_4 (List.mem_of_getElem? (i := 175) rfl) rfl
theorem gm_967 : (Cond.selects "LetterSchool" ⟨"LetterSchool", "drop", "(I)I"⟩ ⟨"LetterSchool", "drop", "(I)I"⟩) ∈ gW := tin_4 (List.mem_of_getElem? (i := 176) rfl) rfl
theorem gm_968 : (Cond.code ⟨"LetterSchool", "drop", "(I)I"⟩ prog_1_method_41_code 3 (Option.some FieldType.int)) ∈ gW := tin_4 (List.mem_of_getElem? (i := 177) rfl) rfl
theorem gm_969 : (Cond.methodLink "LetterSchoolLaw" 181 ⟨"LetterSchool", "item", "(IIII)I"⟩) ∈ gW := tin_4 (List.mem_of_getElem? (i := 178) rfl) rfl
theorem gm_970 : (Cond.instanceMethod ⟨"LetterSchool", "item", "(IIII)I"⟩) ∈ gW := tin_4 (List.mem_of_getElem? (i := 179) rfl) rfl
theorem gm_971 : (Cond.selects "LetterSchool" ⟨"LetterSchool", "item", "(IIII)I"⟩ ⟨"LetterSchool", "item", "(IIII)I"⟩) ∈ gW := tin_4 (List.mem_of_getElem? (i := 180) rfl) rfl
theorem gm_972 : (Cond.code ⟨"LetterSchool", "item", "(IIII)I"⟩ prog_1_method_42_code 6 (Option.some FieldType.int)) ∈ gW := tin_4 (List.mem_of_getElem? (i := 181) rfl) rfl
theorem gm_973 : (Cond.methodLink "LetterSchool" 400 ⟨"LetterSchool$Sheet", "refusal", "(III)I"⟩) ∈ gW := tin_4 (List.mem_of_getElem? (i := 182) rfl) rfl
theorem gm_974 : (Cond.instanceMethod ⟨"LetterSchool$Sheet", "refusal", "(III)I"⟩) ∈ gW := tin_4 (List.mem_of_getElem? (i := 183) rfl) rfl
theorem gm_975 : (Cond.selects "LetterSchool$Sheet" ⟨"LetterSchool$Sheet", "refusal", "(III)I"⟩ ⟨"LetterSchool$Sheet", "refusal", "(III)I"⟩) ∈ gW := tin_4 (List.mem_of_getElem? (i := 184) rfl) rfl
theorem gm_976 : (Cond.code ⟨"LetterSchool$Sheet", "refusal", "(III)I"⟩ prog_8_method_3_code 4 (Option.some FieldType.int)) ∈ gW := tin_4 (List.mem_of_getElem? (i := 185) rfl) rfl
theorem gm_977 : (Cond.methodLink "LetterSchool" 403 ⟨"LetterSchool$Sheet", "put", "(II)V"⟩) ∈ gW := tin_4 (List.mem_of_getElem? (i := 186) rfl) rfl
theorem gm_978 : (Cond.instanceMethod ⟨"LetterSchool$Sheet", "put", "(II)V"⟩) ∈ gW := tin_4 (List.mem_of_getElem? (i := 187) rfl) rfl
theorem gm_979 : (Cond.selects "LetterSchool$Sheet" ⟨"LetterSchool$Sheet", "put", "(II)V"⟩ ⟨"LetterSchool$Sheet", "put", "(II)V"⟩) ∈ gW := tin_4 (List.mem_of_getElem? (i := 188) rfl) rfl
theorem gm_980 : (Cond.code ⟨"LetterSchool$Sheet", "put", "(II)V"⟩ prog_8_method_4_code 3 (Option.none : Option FieldType)) ∈ gW := tin_4 (List.mem_of_getElem? (i := 189) rfl) rfl
theorem gm_981 : (Cond.methodLink "LetterSchoolLaw" 185 ⟨"LetterSchool", "choices", "(IIIII)I"⟩) ∈ gW := tin_4 (List.mem_of_getElem? (i := 190) rfl) rfl
theorem gm_982 : (Cond.instanceMethod ⟨"LetterSchool", "choices", "(IIIII)I"⟩) ∈ gW := tin_4 (List.mem_of_getElem? (i := 191) rfl) rfl
theorem gm_983 : (Cond.selects "LetterSchool" ⟨"LetterSchool", "choices", "(IIIII)I"⟩ ⟨"LetterSchool", "choices", "(IIIII)I"⟩) ∈ gW := tin_4 (List.mem_of_getElem? (i := 192) rfl) rfl
theorem gm_984 : (Cond.code ⟨"LetterSchool", "choices", "(IIIII)I"⟩ prog_1_method_43_code 10 (Option.some FieldType.int)) ∈ gW := tin_4 (List.mem_of_getElem? (i := 193) rfl) rfl
theorem gm_985 : (Cond.classLink "LetterSchoolLaw" 10 "LetterSchoolModel") ∈ gW := tin_4 (List.mem_of_getElem? (i := 194) rfl) rfl
theorem gm_986 : (Cond.instantiable "LetterSchoolModel" 82) ∈ gW := tin_4 (List.mem_of_getElem? (i := 195) rfl) rfl
theorem gm_987 : (Cond.methodLink "LetterSchoolLaw" 12 ⟨"LetterSchoolModel", "<init>", "()V"⟩) ∈ gW := tin_4 (List.mem_of_getElem? (i := 196) rfl) rfl
theorem gm_988 : (Cond.instanceMethod ⟨"LetterSchoolModel", "<init>", "()V"⟩) ∈ gW := tin_4 (List.mem_of_getElem? (i := 197) rfl) rfl
theorem gm_989 : (Cond.code ⟨"LetterSchoolModel", "<init>", "()V"⟩ prog_14_method_2_code 2 (Option.none : Option FieldType)) ∈ gW := tin_4 (List.mem_of_getElem? (i := 198) rfl) rfl
theorem gm_990 : (Cond.methodLink "LetterSchoolModel" 1 ⟨"java/lang/Object", "<init>", "()V"⟩) ∈ gW := tin_4 (List.mem_of_getElem? (i := 199) rfl) rfl
theorem gm_991 : (Cond.constant "LetterSchoolModel" 73 48000) ∈ gW := tin_4 (List.mem_of_getElem? (i := 200) rfl) rfl
theorem gm_992 : (Cond.fieldLink "LetterSchoolModel" 7 "LetterSchoolModel" "tape" "[I") ∈ gW := tin_4 (List.mem_of_getElem? (i := 201) rfl) rfl
theorem gm_993 : (Cond.fieldLink "LetterSchoolModel" 225 "LetterSchoolModel" "taped" "I") ∈ gW := tin_4 (List.mem_of_getElem? (i := 202) rfl) rfl
theorem gm_994 : (Cond.fieldLink "LetterSchoolModel" 228 "LetterSchoolModel" "at" "I") ∈ gW := tin_4 (List.mem_of_getElem? (i := 203) rfl) rfl
theorem gm_995 : (Cond.fieldLink "LetterSchoolModel" 231 "LetterSchoolModel" "wrong" "Z") ∈ gW := tin_4 (List.mem_of_getElem? (i := 204) rfl) rfl
theorem gm_996 : (Cond.fieldLink "LetterSchoolModel" 13 "LetterSchoolModel" "readNames" "[I") ∈ gW := tin_4 (List.mem_of_getElem? (i := 205) rfl) rfl
theorem gm_997 : (Cond.fieldLink "LetterSchoolModel" 16 "LetterSchoolModel" "readMarks" "[I") ∈ gW := tin_4 (List.mem_of_getElem? (i := 206) rfl) rfl
theorem gm_998 : (Cond.fieldLink "LetterSchoolModel" 19 "LetterSchoolModel" "readFrom" "[I") ∈ gW := tin_4 (List.mem_of_getElem? (i := 207) rfl) rfl
theorem gm_999 : (Cond.fieldLink "LetterSchoolModel" 22 "LetterSchoolModel" "readTo" "[I") ∈ gW := tin_4 (List.mem_of_getElem? (i := 208) rfl) rfl
theorem gm_1000 : (Cond.fieldLink "LetterSchoolModel" 25 "LetterSchoolModel" "codes" "[I") ∈ gW := tin_4 (List.mem_of_getElem? (i := 209) rfl) rfl
theorem gm_1001 : (Cond.fieldLink "LetterSchoolModel" 251 "LetterSchoolModel" "codeMany" "I") ∈ gW := tin_4 (List.mem_of_getElem? (i := 210) rfl) rfl
theorem gm_1002 : (Cond.fieldLink "LetterSchoolModel" 282 "LetterSchoolModel" "readLessons" "I") ∈ gW := tin_4 (List.mem_of_getElem? (i := 211) rfl) rfl
theorem gm_1003 : (Cond.fieldLink "LetterSchoolModel" 264 "LetterSchoolModel" "readUsed" "I") ∈ gW := tin_4 (List.mem_of_getElem? (i := 212) rfl) rfl
theorem gm_1004 : (Cond.fieldLink "LetterSchoolModel" 291 "LetterSchoolModel" "readMany" "I") ∈ gW := tin_4 (List.mem_of_getElem? (i := 213) rfl) rfl
theorem gm_1005 : (Cond.fieldLink "LetterSchoolModel" 28 "LetterSchoolModel" "waiting" "[I") ∈ gW := tin_4 (List.mem_of_getElem? (i := 214) rfl) rfl
theorem gm_1006 : (Cond.fieldLink "LetterSchoolModel" 254 "LetterSchoolModel" "waits" "I") ∈ gW := tin_4 (List.mem_of_getElem? (i := 215) rfl) rfl
theorem gm_1007 : (Cond.fieldLink "LetterSchoolModel" 31 "LetterSchoolModel" "editionMany" "[I") ∈ gW := tin_4 (List.mem_of_getElem? (i := 216) rfl) rfl
theorem gm_1008 : (Cond.fieldLink "LetterSchoolModel" 34 "LetterSchoolModel" "editionFrom" "[I") ∈ gW := tin_4 (List.mem_of_getElem? (i := 217) rfl) rfl
theorem gm_1009 : (Cond.fieldLink "LetterSchoolModel" 37 "LetterSchoolModel" "editionLessons" "[I") ∈ gW := tin_4 (List.mem_of_getElem? (i := 218) rfl) rfl
theorem gm_1010 : (Cond.fieldLink "LetterSchoolModel" 40 "LetterSchoolModel" "names" "[I") ∈ gW := tin_4 (List.mem_of_getElem? (i := 219) rfl) rfl
theorem gm_1011 : (Cond.fieldLink "LetterSchoolModel" 43 "LetterSchoolModel" "passes" "[I") ∈ gW := tin_4 (List.mem_of_getElem? (i := 220) rfl) rfl
theorem gm_1012 : (Cond.fieldLink "LetterSchoolModel" 46 "LetterSchoolModel" "rowFrom" "[I") ∈ gW := tin_4 (List.mem_of_getElem? (i := 221) rfl) rfl
theorem gm_1013 : (Cond.fieldLink "LetterSchoolModel" 49 "LetterSchoolModel" "rowTo" "[I") ∈ gW := tin_4 (List.mem_of_getElem? (i := 222) rfl) rfl
theorem gm_1014 : (Cond.fieldLink "LetterSchoolModel" 52 "LetterSchoolModel" "rows" "[I") ∈ gW := tin_4 (List.mem_of_getElem? (i := 223) rfl) rfl
theorem gm_1015 : (Cond.fieldLink "LetterSchoolModel" 326 "LetterSchoolModel" "pupils" "I") ∈ gW := tin_4 (List.mem_of_getElem? (i := 224) rfl) rfl
theorem gm_1016 : (Cond.fieldLink "LetterSchoolModel" 55 "LetterSchoolModel" "places" "[I") ∈ gW := tin_4 (List.mem_of_getElem? (i := 225) rfl) rfl
theorem gm_1017 : (Cond.fieldLink "LetterSchoolModel" 58 "LetterSchoolModel" "editions" "[I") ∈ gW := tin_4 (List.mem_of_getElem? (i := 226) rfl) rfl
theorem gm_1018 : (Cond.fieldLink "LetterSchoolModel" 61 "LetterSchoolModel" "begins" "[I") ∈ gW := tin_4 (List.mem_of_getElem? (i := 227) rfl) rfl
theorem gm_1019 : (Cond.fieldLink "LetterSchoolModel" 64 "LetterSchoolModel" "habits" "[I") ∈ gW := tin_4 (List.mem_of_getElem? (i := 228) rfl) rfl
theorem gm_1020 : (Cond.fieldLink "LetterSchoolModel" 67 "LetterSchoolModel" "left" "[I") ∈ gW := tin_4 (List.mem_of_getElem? (i := 229) rfl) rfl
theorem gm_1021 : (Cond.fieldLink "LetterSchoolModel" 70 "LetterSchoolModel" "paidAll" "[I") ∈ gW := tin_4 (List.mem_of_getElem? (i := 230) rfl) rfl
theorem gm_1022 : (Cond.fieldLink "LetterSchoolModel" 74 "LetterSchoolModel" "paidOn" "[I") ∈ gW := tin_4 (List.mem_of_getElem? (i := 231) rfl) rfl
theorem gm_1023 : (Cond.fieldLink "LetterSchoolModel" 77 "LetterSchoolModel" "bests" "[I") ∈ gW := tin_4 (List.mem_of_getElem? (i := 232) rfl) rfl
theorem gm_1024 : (Cond.fieldLink "LetterSchoolModel" 80 "LetterSchoolModel" "stack" "[Z") ∈ gW := tin_4 (List.mem_of_getElem? (i := 233) rfl) rfl
theorem gm_1025 : (Cond.fieldLink "LetterSchoolModel" 84 "LetterSchoolModel" "far" "[I") ∈ gW := tin_4 (List.mem_of_getElem? (i := 234) rfl) rfl
theorem gm_1026 : (Cond.fieldLink "LetterSchoolModel" 87 "LetterSchoolModel" "wave" "[I") ∈ gW := tin_4 (List.mem_of_getElem? (i := 235) rfl) rfl
theorem gm_1027 : (Cond.fieldLink "LetterSchoolModel" 90 "LetterSchoolModel" "postDays" "[I") ∈ gW := tin_4 (List.mem_of_getElem? (i := 236) rfl) rfl
theorem gm_1028 : (Cond.fieldLink "LetterSchoolModel" 93 "LetterSchoolModel" "postEach" "[I") ∈ gW := tin_4 (List.mem_of_getElem? (i := 237) rfl) rfl
theorem gm_1029 : (Cond.fieldLink "LetterSchoolModel" 96 "LetterSchoolModel" "postMany" "[I") ∈ gW := tin_4 (List.mem_of_getElem? (i := 238) rfl) rfl
theorem gm_1030 : (Cond.fieldLink "LetterSchoolModel" 334 "LetterSchoolModel" "things" "I") ∈ gW := tin_4 (List.mem_of_getElem? (i := 239) rfl) rfl
theorem gm_1031 : (Cond.fieldLink "LetterSchoolModel" 99 "LetterSchoolModel" "kinds" "[I") ∈ gW := tin_5 (List.mem_of_getElem? (i := 0) rfl) rfl
theorem gm_1032 : (Cond.fieldLink "LetterSchoolModel" 102 "LetterSchoolModel" "whose" "[I") ∈ gW := tin_5 (List.mem_of_getElem? (i := 1) rfl) rfl
theorem gm_1033 : (Cond.fieldLink "LetterSchoolModel" 105 "LetterSchoolModel" "named" "[I") ∈ gW := tin_5 (List.mem_of_getElem? (i := 2) rfl) rfl
theorem gm_1034 : (Cond.fieldLink "LetterSchoolModel" 108 "LetterSchoolModel" "lessons" "[I") ∈ gW := tin_5 (List.mem_of_getElem? (i := 3) rfl) rfl
theorem gm_1035 : (Cond.fieldLink "LetterSchoolModel" 111 "LetterSchoolModel" "firstSent" "[I") ∈ gW := tin_5 (List.mem_of_getElem? (i := 4) rfl) rfl
theorem gm_1036 : (Cond.fieldLink "LetterSchoolModel" 114 "LetterSchoolModel" "sent" "[I") ∈ gW := tin_5 (List.mem_of_getElem? (i := 5) rfl) rfl
theorem gm_1037 : (Cond.fieldLink "LetterSchoolModel" 117 "LetterSchoolModel" "comes" "[I") ∈ gW := tin_5 (List.mem_of_getElem? (i := 6) rfl) rfl
theorem gm_1038 : (Cond.fieldLink "LetterSchoolModel" 120 "LetterSchoolModel" "tutorOf" "[I") ∈ gW := tin_5 (List.mem_of_getElem? (i := 7) rfl) rfl
theorem gm_1039 : (Cond.fieldLink "LetterSchoolModel" 123 "LetterSchoolModel" "givenOn" "[I") ∈ gW := tin_5 (List.mem_of_getElem? (i := 8) rfl) rfl
theorem gm_1040 : (Cond.fieldLink "LetterSchoolModel" 126 "LetterSchoolModel" "agains" "[I") ∈ gW := tin_5 (List.mem_of_getElem? (i := 9) rfl) rfl
theorem gm_1041 : (Cond.fieldLink "LetterSchoolModel" 129 "LetterSchoolModel" "marks" "[I") ∈ gW := tin_5 (List.mem_of_getElem? (i := 10) rfl) rfl
theorem gm_1042 : (Cond.fieldLink "LetterSchoolModel" 132 "LetterSchoolModel" "markedOn" "[I") ∈ gW := tin_5 (List.mem_of_getElem? (i := 11) rfl) rfl
theorem gm_1043 : (Cond.fieldLink "LetterSchoolModel" 135 "LetterSchoolModel" "secondTutor" "[I") ∈ gW := tin_5 (List.mem_of_getElem? (i := 12) rfl) rfl
theorem gm_1044 : (Cond.fieldLink "LetterSchoolModel" 138 "LetterSchoolModel" "secondMarks" "[I") ∈ gW := tin_5 (List.mem_of_getElem? (i := 13) rfl) rfl
theorem gm_1045 : (Cond.fieldLink "LetterSchoolModel" 141 "LetterSchoolModel" "rowsOf" "[I") ∈ gW := tin_5 (List.mem_of_getElem? (i := 14) rfl) rfl
theorem gm_1046 : (Cond.fieldLink "LetterSchoolModel" 389 "LetterSchoolModel" "tutors" "I") ∈ gW := tin_5 (List.mem_of_getElem? (i := 15) rfl) rfl
theorem gm_1047 : (Cond.fieldLink "LetterSchoolModel" 144 "LetterSchoolModel" "teaches" "[I") ∈ gW := tin_5 (List.mem_of_getElem? (i := 16) rfl) rfl
theorem gm_1048 : (Cond.fieldLink "LetterSchoolModel" 147 "LetterSchoolModel" "paces" "[I") ∈ gW := tin_5 (List.mem_of_getElem? (i := 17) rfl) rfl
theorem gm_1049 : (Cond.fieldLink "LetterSchoolModel" 150 "LetterSchoolModel" "kin" "[I") ∈ gW := tin_5 (List.mem_of_getElem? (i := 18) rfl) rfl
theorem gm_1050 : (Cond.fieldLink "LetterSchoolModel" 153 "LetterSchoolModel" "loads" "[I") ∈ gW := tin_5 (List.mem_of_getElem? (i := 19) rfl) rfl
theorem gm_1051 : (Cond.fieldLink "LetterSchoolModel" 405 "LetterSchoolModel" "shared" "I") ∈ gW := tin_5 (List.mem_of_getElem? (i := 20) rfl) rfl
theorem gm_1052 : (Cond.fieldLink "LetterSchoolModel" 156 "LetterSchoolModel" "sharedThings" "[I") ∈ gW := tin_5 (List.mem_of_getElem? (i := 21) rfl) rfl
theorem gm_1053 : (Cond.fieldLink "LetterSchoolModel" 159 "LetterSchoolModel" "tried" "[I") ∈ gW := tin_5 (List.mem_of_getElem? (i := 22) rfl) rfl
theorem gm_1054 : (Cond.fieldLink "LetterSchoolModel" 162 "LetterSchoolModel" "bestTutors" "[I") ∈ gW := tin_5 (List.mem_of_getElem? (i := 23) rfl) rfl
theorem gm_1055 : (Cond.fieldLink "LetterSchoolModel" 165 "LetterSchoolModel" "more" "[I") ∈ gW := tin_5 (List.mem_of_getElem? (i := 24) rfl) rfl
theorem gm_1056 : (Cond.fieldLink "LetterSchoolModel" 408 "LetterSchoolModel" "bestMany" "I") ∈ gW := tin_5 (List.mem_of_getElem? (i := 25) rfl) rfl
theorem gm_1057 : (Cond.fieldLink "LetterSchoolModel" 414 "LetterSchoolModel" "bestSum" "I") ∈ gW := tin_5 (List.mem_of_getElem? (i := 26) rfl) rfl
theorem gm_1058 : (Cond.fieldLink "LetterSchoolModel" 399 "LetterSchoolModel" "triedMany" "I") ∈ gW := tin_5 (List.mem_of_getElem? (i := 27) rfl) rfl
theorem gm_1059 : (Cond.fieldLink "LetterSchoolModel" 402 "LetterSchoolModel" "triedSum" "I") ∈ gW := tin_5 (List.mem_of_getElem? (i := 28) rfl) rfl
theorem gm_1060 : (Cond.fieldLink "LetterSchoolModel" 168 "LetterSchoolModel" "keys" "[I") ∈ gW := tin_5 (List.mem_of_getElem? (i := 29) rfl) rfl
theorem gm_1061 : (Cond.fieldLink "LetterSchoolModel" 171 "LetterSchoolModel" "limit" "I") ∈ gW := tin_5 (List.mem_of_getElem? (i := 30) rfl) rfl
theorem gm_1062 : (Cond.fieldLink "LetterSchoolModel" 175 "LetterSchoolModel" "partMany" "[I") ∈ gW := tin_5 (List.mem_of_getElem? (i := 31) rfl) rfl
theorem gm_1063 : (Cond.fieldLink "LetterSchoolModel" 178 "LetterSchoolModel" "partDays" "[I") ∈ gW := tin_5 (List.mem_of_getElem? (i := 32) rfl) rfl
theorem gm_1064 : (Cond.fieldLink "LetterSchoolModel" 181 "LetterSchoolModel" "partPence" "[I") ∈ gW := tin_5 (List.mem_of_getElem? (i := 33) rfl) rfl
theorem gm_1065 : (Cond.fieldLink "LetterSchoolModel" 184 "LetterSchoolModel" "backMany" "[I") ∈ gW := tin_5 (List.mem_of_getElem? (i := 34) rfl) rfl
theorem gm_1066 : (Cond.fieldLink "LetterSchoolModel" 187 "LetterSchoolModel" "backDays" "[I") ∈ gW := tin_5 (List.mem_of_getElem? (i := 35) rfl) rfl
theorem gm_1067 : (Cond.fieldLink "LetterSchoolModel" 190 "LetterSchoolModel" "backParts" "[I") ∈ gW := tin_5 (List.mem_of_getElem? (i := 36) rfl) rfl
theorem gm_1068 : (Cond.fieldLink "LetterSchoolModel" 193 "LetterSchoolModel" "feeKinds" "[I") ∈ gW := tin_5 (List.mem_of_getElem? (i := 37) rfl) rfl
theorem gm_1069 : (Cond.fieldLink "LetterSchoolModel" 196 "LetterSchoolModel" "feeDays" "[I") ∈ gW := tin_5 (List.mem_of_getElem? (i := 38) rfl) rfl
theorem gm_1070 : (Cond.fieldLink "LetterSchoolModel" 199 "LetterSchoolModel" "feeNumbers" "[I") ∈ gW := tin_5 (List.mem_of_getElem? (i := 39) rfl) rfl
theorem gm_1071 : (Cond.fieldLink "LetterSchoolModel" 202 "LetterSchoolModel" "lanes" "[I") ∈ gW := tin_5 (List.mem_of_getElem? (i := 40) rfl) rfl
theorem gm_1072 : (Cond.fieldLink "LetterSchoolModel" 205 "LetterSchoolModel" "sizes" "[I") ∈ gW := tin_5 (List.mem_of_getElem? (i := 41) rfl) rfl
theorem gm_1073 : (Cond.fieldLink "LetterSchoolModel" 208 "LetterSchoolModel" "items" "[I") ∈ gW := tin_5 (List.mem_of_getElem? (i := 42) rfl) rfl
theorem gm_1074 : (Cond.laysFinal "LetterSchoolModel" "LetterSchoolModel" "tape" "[I") ∈ gW := tin_5 (List.mem_of_getElem? (i := 43) rfl) rfl
theorem gm_1076 : (Cond.lays "LetterSchoolModel" "LetterSchoolModel" "taped" "I") ∈ gW := tin_5 (List.mem_of_getElem? (i := 45) rfl) rfl
theorem gm_1078 : (Cond.lays "LetterSchoolModel" "LetterSchoolModel" "at" "I") ∈ gW := tin_5 (List.mem_of_getElem? (i := 47) rfl) rfl
theorem gm_1080 : (Cond.lays "LetterSchoolModel" "LetterSchoolModel" "wrong" "Z") ∈ gW := tin_5 (List.mem_of_getElem? (i := 49) rfl) rfl
theorem gm_1082 : (Cond.laysFinal "LetterSchoolModel" "LetterSchoolModel" "readNames" "[I") ∈ gW := tin_5 (List.mem_of_getElem? (i := 51) rfl) rfl
theorem gm_1084 : (Cond.laysFinal "LetterSchoolModel" "LetterSchoolModel" "readMarks" "[I") ∈ gW := tin_5 (List.mem_of_getElem? (i := 53) rfl) rfl
theorem gm_1086 : (Cond.laysFinal "LetterSchoolModel" "LetterSchoolModel" "readFrom" "[I") ∈ gW := tin_5 (List.mem_of_getElem? (i := 55) rfl) rfl
theorem gm_1088 : (Cond.laysFinal "LetterSchoolModel" "LetterSchoolModel" "readTo" "[I") ∈ gW := tin_5 (List.mem_of_getElem? (i := 57) rfl) rfl
theorem gm_1090 : (Cond.laysFinal "LetterSchoolModel" "LetterSchoolModel" "codes" "[I") ∈ gW := tin_5 (List.mem_of_getElem? (i := 59) rfl) rfl
theorem gm_1092 : (Cond.lays "LetterSchoolModel" "LetterSchoolModel" "codeMany" "I") ∈ gW := tin_5 (List.mem_of_getElem? (i := 61) rfl) rfl
theorem gm_1094 : (Cond.lays "LetterSchoolModel" "LetterSchoolModel" "readLessons" "I") ∈ gW := tin_5 (List.mem_of_getElem? (i := 63) rfl) rfl
theorem gm_1096 : (Cond.lays "LetterSchoolModel" "LetterSchoolModel" "readUsed" "I") ∈ gW := tin_5 (List.mem_of_getElem? (i := 65) rfl) rfl
theorem gm_1098 : (Cond.lays "LetterSchoolModel" "LetterSchoolModel" "readMany" "I") ∈ gW := tin_5 (List.mem_of_getElem? (i := 67) rfl) rfl
theorem gm_1100 : (Cond.laysFinal "LetterSchoolModel" "LetterSchoolModel" "waiting" "[I") ∈ gW := tin_5 (List.mem_of_getElem? (i := 69) rfl) rfl
theorem gm_1102 : (Cond.lays "LetterSchoolModel" "LetterSchoolModel" "waits" "I") ∈ gW := tin_5 (List.mem_of_getElem? (i := 71) rfl) rfl
theorem gm_1104 : (Cond.laysFinal "LetterSchoolModel" "LetterSchoolModel" "editionMany" "[I") ∈ gW := tin_5 (List.mem_of_getElem? (i := 73) rfl) rfl
theorem gm_1106 : (Cond.laysFinal "LetterSchoolModel" "LetterSchoolModel" "editionFrom" "[I") ∈ gW := tin_5 (List.mem_of_getElem? (i := 75) rfl) rfl
theorem gm_1108 : (Cond.laysFinal "LetterSchoolModel" "LetterSchoolModel" "editionLessons" "[I") ∈ gW := tin_5 (List.mem_of_getElem? (i := 77) rfl) rfl
theorem gm_1110 : (Cond.laysFinal "LetterSchoolModel" "LetterSchoolModel" "names" "[I") ∈ gW := tin_5 (List.mem_of_getElem? (i := 79) rfl) rfl
theorem gm_1112 : (Cond.laysFinal "LetterSchoolModel" "LetterSchoolModel" "passes" "[I") ∈ gW := tin_5 (List.mem_of_getElem? (i := 81) rfl) rfl
theorem gm_1114 : (Cond.laysFinal "LetterSchoolModel" "LetterSchoolModel" "rowFrom" "[I") ∈ gW := tin_5 (List.mem_of_getElem? (i := 83) rfl) rfl
theorem gm_1116 : (Cond.laysFinal "LetterSchoolModel" "LetterSchoolModel" "rowTo" "[I") ∈ gW := tin_5 (List.mem_of_getElem? (i := 85) rfl) rfl
theorem gm_1118 : (Cond.laysFinal "LetterSchoolModel" "LetterSchoolModel" "rows" "[I") ∈ gW := tin_5 (List.mem_of_getElem? (i := 87) rfl) rfl
theorem gm_1120 : (Cond.lays "LetterSchoolModel" "LetterSchoolModel" "pupils" "I") ∈ gW := tin_5 (List.mem_of_getElem? (i := 89) rfl) rfl
theorem gm_1122 : (Cond.laysFinal "LetterSchoolModel" "LetterSchoolModel" "places" "[I") ∈ gW := tin_5 (List.mem_of_getElem? (i := 91) rfl) rfl
theorem gm_1124 : (Cond.laysFinal "LetterSchoolModel" "LetterSchoolModel" "editions" "[I") ∈ gW := tin_5 (List.mem_of_getElem? (i := 93) rfl) rfl
theorem gm_1126 : (Cond.laysFinal "LetterSchoolModel" "LetterSchoolModel" "begins" "[I") ∈ gW := tin_5 (List.mem_of_getElem? (i := 95) rfl) rfl
theorem gm_1128 : (Cond.laysFinal "LetterSchoolModel" "LetterSchoolModel" "habits" "[I") ∈ gW := tin_5 (List.mem_of_getElem? (i := 97) rfl) rfl
theorem gm_1130 : (Cond.laysFinal "LetterSchoolModel" "LetterSchoolModel" "left" "[I") ∈ gW := tin_5 (List.mem_of_getElem? (i := 99) rfl) rfl
theorem gm_1132 : (Cond.laysFinal "LetterSchoolModel" "LetterSchoolModel" "paidAll" "[I") ∈ gW := tin_5 (List.mem_of_getElem? (i := 101) rfl) rfl
theorem gm_1134 : (Cond.laysFinal "LetterSchoolModel" "LetterSchoolModel" "paidOn" "[I") ∈ gW := tin_5 (List.mem_of_getElem? (i := 103) rfl) rfl
theorem gm_1136 : (Cond.laysFinal "LetterSchoolModel" "LetterSchoolModel" "bests" "[I") ∈ gW := tin_5 (List.mem_of_getElem? (i := 105) rfl) rfl
theorem gm_1138 : (Cond.laysFinal "LetterSchoolModel" "LetterSchoolModel" "stack" "[Z") ∈ gW := tin_5 (List.mem_of_getElem? (i := 107) rfl) rfl
theorem gm_1140 : (Cond.laysFinal "LetterSchoolModel" "LetterSchoolModel" "far" "[I") ∈ gW := tin_5 (List.mem_of_getElem? (i := 109) rfl) rfl
theorem gm_1142 : (Cond.laysFinal "LetterSchoolModel" "LetterSchoolModel" "wave" "[I") ∈ gW := tin_5 (List.mem_of_getElem? (i := 111) rfl) rfl
theorem gm_1144 : (Cond.laysFinal "LetterSchoolModel" "LetterSchoolModel" "postDays" "[I") ∈ gW := tin_5 (List.mem_of_getElem? (i := 113) rfl) rfl
theorem gm_1146 : (Cond.laysFinal "LetterSchoolModel" "LetterSchoolModel" "postEach" "[I") ∈ gW := tin_5 (List.mem_of_getElem? (i := 115) rfl) rfl
theorem gm_1148 : (Cond.laysFinal "LetterSchoolModel" "LetterSchoolModel" "postMany" "[I") ∈ gW := tin_5 (List.mem_of_getElem? (i := 117) rfl) rfl
theorem gm_1150 : (Cond.lays "LetterSchoolModel" "LetterSchoolModel" "things" "I") ∈ gW := tin_5 (List.mem_of_getElem? (i := 119) rfl) rfl
theorem gm_1152 : (Cond.laysFinal "LetterSchoolModel" "LetterSchoolModel" "kinds" "[I") ∈ gW := tin_5 (List.mem_of_getElem? (i := 121) rfl) rfl
theorem gm_1154 : (Cond.laysFinal "LetterSchoolModel" "LetterSchoolModel" "whose" "[I") ∈ gW := tin_5 (List.mem_of_getElem? (i := 123) rfl) rfl
theorem gm_1156 : (Cond.laysFinal "LetterSchoolModel" "LetterSchoolModel" "named" "[I") ∈ gW := tin_5 (List.mem_of_getElem? (i := 125) rfl) rfl
theorem gm_1158 : (Cond.laysFinal "LetterSchoolModel" "LetterSchoolModel" "lessons" "[I") ∈ gW := tin_5 (List.mem_of_getElem? (i := 127) rfl) rfl
theorem gm_1160 : (Cond.laysFinal "LetterSchoolModel" "LetterSchoolModel" "firstSent" "[I") ∈ gW := tin_5 (List.mem_of_getElem? (i := 129) rfl) rfl
theorem gm_1162 : (Cond.laysFinal "LetterSchoolModel" "LetterSchoolModel" "sent" "[I") ∈ gW := tin_5 (List.mem_of_getElem? (i := 131) rfl) rfl
theorem gm_1164 : (Cond.laysFinal "LetterSchoolModel" "LetterSchoolModel" "comes" "[I") ∈ gW := tin_5 (List.mem_of_getElem? (i := 133) rfl) rfl
theorem gm_1166 : (Cond.laysFinal "LetterSchoolModel" "LetterSchoolModel" "tutorOf" "[I") ∈ gW := tin_5 (List.mem_of_getElem? (i := 135) rfl) rfl
theorem gm_1168 : (Cond.laysFinal "LetterSchoolModel" "LetterSchoolModel" "givenOn" "[I") ∈ gW := tin_5 (List.mem_of_getElem? (i := 137) rfl) rfl
theorem gm_1170 : (Cond.laysFinal "LetterSchoolModel" "LetterSchoolModel" "agains" "[I") ∈ gW := tin_5 (List.mem_of_getElem? (i := 139) rfl) rfl
theorem gm_1172 : (Cond.laysFinal "LetterSchoolModel" "LetterSchoolModel" "marks" "[I") ∈ gW := tin_5 (List.mem_of_getElem? (i := 141) rfl) rfl
theorem gm_1174 : (Cond.laysFinal "LetterSchoolModel" "LetterSchoolModel" "markedOn" "[I") ∈ gW := tin_5 (List.mem_of_getElem? (i := 143) rfl) rfl
theorem gm_1176 : (Cond.laysFinal "LetterSchoolModel" "LetterSchoolModel" "secondTutor" "[I") ∈ gW := tin_5 (List.mem_of_getElem? (i := 145) rfl) rfl
theorem gm_1178 : (Cond.laysFinal "LetterSchoolModel" "LetterSchoolModel" "secondMarks" "[I") ∈ gW := tin_5 (List.mem_of_getElem? (i := 147) rfl) rfl
theorem gm_1180 : (Cond.laysFinal "LetterSchoolModel" "LetterSchoolModel" "rowsOf" "[I") ∈ gW := tin_5 (List.mem_of_getElem? (i := 149) rfl) rfl
theorem gm_1182 : (Cond.lays "LetterSchoolModel" "LetterSchoolModel" "tutors" "I") ∈ gW := tin_5 (List.mem_of_getElem? (i := 151) rfl) rfl
theorem gm_1184 : (Cond.laysFinal "LetterSchoolModel" "LetterSchoolModel" "teaches" "[I") ∈ gW := tin_5 (List.mem_of_getElem? (i := 153) rfl) rfl
theorem gm_1186 : (Cond.laysFinal "LetterSchoolModel" "LetterSchoolModel" "paces" "[I") ∈ gW := tin_5 (List.mem_of_getElem? (i := 155) rfl) rfl
theorem gm_1188 : (Cond.laysFinal "LetterSchoolModel" "LetterSchoolModel" "kin" "[I") ∈ gW := tin_5 (List.mem_of_getElem? (i := 157) rfl) rfl
theorem gm_1190 : (Cond.laysFinal "LetterSchoolModel" "LetterSchoolModel" "loads" "[I") ∈ gW := tin_5 (List.mem_of_getElem? (i := 159) rfl) rfl
theorem gm_1192 : (Cond.lays "LetterSchoolModel" "LetterSchoolModel" "shared" "I") ∈ gW := tin_5 (List.mem_of_getElem? (i := 161) rfl) rfl
theorem gm_1194 : (Cond.laysFinal "LetterSchoolModel" "LetterSchoolModel" "sharedThings" "[I") ∈ gW := tin_5 (List.mem_of_getElem? (i := 163) rfl) rfl
theorem gm_1196 : (Cond.laysFinal "LetterSchoolModel" "LetterSchoolModel" "tried" "[I") ∈ gW := tin_5 (List.mem_of_getElem? (i := 165) rfl) rfl
theorem gm_1198 : (Cond.laysFinal "LetterSchoolModel" "LetterSchoolModel" "bestTutors" "[I") ∈ gW := tin_5 (List.mem_of_getElem? (i := 167) rfl) rfl
theorem gm_1200 : (Cond.laysFinal "LetterSchoolModel" "LetterSchoolModel" "more" "[I") ∈ gW := tin_5 (List.mem_of_getElem? (i := 169) rfl) rfl
theorem gm_1202 : (Cond.lays "LetterSchoolModel" "LetterSchoolModel" "bestMany" "I") ∈ gW := tin_5 (List.mem_of_getElem? (i := 171) rfl) rfl
theorem gm_1204 : (Cond.lays "LetterSchoolModel" "LetterSchoolModel" "bestSum" "I") ∈ gW := tin_5 (List.mem_of_getElem? (i := 173) rfl) rfl
theorem gm_1206 : (Cond.lays "LetterSchoolModel" "LetterSchoolModel" "triedMany" "I") ∈ gW := tin_5 (List.mem_of_getElem? (i := 175) rfl) rfl
theorem gm_1208 : (Cond.lays "LetterSchoolModel" "LetterSchoolModel" "triedSum" "I") ∈ gW := tin_5 (List.mem_of_getElem? (i := 177) rfl) rfl
theorem gm_1210 : (Cond.laysFinal "LetterSchoolModel" "LetterSchoolModel" "keys" "[I") ∈ gW := tin_5 (List.mem_of_getElem? (i := 179) rfl) rfl
theorem gm_1212 : (Cond.lays "LetterSchoolModel" "LetterSchoolModel" "limit" "I") ∈ gW := tin_5 (List.mem_of_getElem? (i := 181) rfl) rfl
theorem gm_1214 : (Cond.laysFinal "LetterSchoolModel" "LetterSchoolModel" "partMany" "[I") ∈ gW := tin_5 (List.mem_of_getElem? (i := 183) rfl) rfl
theorem gm_1216 : (Cond.laysFinal "LetterSchoolModel" "LetterSchoolModel" "partDays" "[I") ∈ gW := tin_5 (List.mem_of_getElem? (i := 185) rfl) rfl
theorem gm_1218 : (Cond.laysFinal "LetterSchoolModel" "LetterSchoolModel" "partPence" "[I") ∈ gW := tin_5 (List.mem_of_getElem? (i := 187) rfl) rfl
theorem gm_1220 : (Cond.laysFinal "LetterSchoolModel" "LetterSchoolModel" "backMany" "[I") ∈ gW := tin_5 (List.mem_of_getElem? (i := 189) rfl) rfl
theorem gm_1222 : (Cond.laysFinal "LetterSchoolModel" "LetterSchoolModel" "backDays" "[I") ∈ gW := tin_5 (List.mem_of_getElem? (i := 191) rfl) rfl
theorem gm_1224 : (Cond.laysFinal "LetterSchoolModel" "LetterSchoolModel" "backParts" "[I") ∈ gW := tin_5 (List.mem_of_getElem? (i := 193) rfl) rfl
theorem gm_1226 : (Cond.laysFinal "LetterSchoolModel" "LetterSchoolModel" "feeKinds" "[I") ∈ gW := tin_5 (List.mem_of_getElem? (i := 195) rfl) rfl
theorem gm_1228 : (Cond.laysFinal "LetterSchoolModel" "LetterSchoolModel" "feeDays" "[I") ∈ gW := tin_5 (List.mem_of_getElem? (i := 197) rfl) rfl
theorem gm_1230 : (Cond.laysFinal "LetterSchoolModel" "LetterSchoolModel" "feeNumbers" "[I") ∈ gW := tin_5 (List.mem_of_getElem? (i := 199) rfl) rfl
theorem gm_1232 : (Cond.laysFinal "LetterSchoolModel" "LetterSchoolModel" "lanes" "[I") ∈ gW := tin_5 (List.mem_of_getElem? (i := 201) rfl) rfl
theorem gm_1234 : (Cond.laysFinal "LetterSchoolModel" "LetterSchoolModel" "sizes" "[I") ∈ gW := tin_5 (List.mem_of_getElem? (i := 203) rfl) rfl
theorem gm_1236 : (Cond.laysFinal "LetterSchoolModel" "LetterSchoolModel" "items" "[I") ∈ gW := tin_5 (List.mem_of_getElem? (i := 205) rfl) rfl
theorem gm_1239 : (Cond.methodLink "LetterSchoolLaw" 19 ⟨"LetterSchoolModel", "type", "(JI)I"⟩) ∈ gW := tin_5 (List.mem_of_getElem? (i := 208) rfl) rfl
theorem gm_1240 : (Cond.instanceMethod ⟨"LetterSchoolModel", "type", "(JI)I"⟩) ∈ gW := tin_5 (List.mem_of_getElem? (i := 209) rfl) rfl
theorem gm_1241 : (Cond.selects "LetterSchoolModel" ⟨"LetterSchoolModel", "type", "(JI)I"⟩ ⟨"LetterSchoolModel", "type", "(JI)I"⟩) ∈ gW := tin_5 (List.mem_of_getElem? (i := 210) rfl) rfl
theorem gm_1242 : (Cond.code ⟨"LetterSchoolModel", "type", "(JI)I"⟩ prog_14_method_4_code 5 (Option.some FieldType.int)) ∈ gW := tin_5 (List.mem_of_getElem? (i := 211) rfl) rfl
theorem gm_1243 : (Cond.constantLong "LetterSchoolModel" 217 8) ∈ gW := tin_5 (List.mem_of_getElem? (i := 212) rfl) rfl
theorem gm_1244 : (Cond.methodLink "LetterSchoolModel" 213 ⟨"LetterSchoolModel", "in", "(JJJ)Z"⟩) ∈ gW := tin_5 (List.mem_of_getElem? (i := 213) rfl) rfl
theorem gm_1245 : (Cond.static ⟨"LetterSchoolModel", "in", "(JJJ)Z"⟩) ∈ gW := tin_5 (List.mem_of_getElem? (i := 214) rfl) rfl
theorem gm_1246 : (Cond.code ⟨"LetterSchoolModel", "in", "(JJJ)Z"⟩ prog_14_method_1_code 6 (Option.some FieldType.boolean)) ∈ gW := tin_5 (List.mem_of_getElem? (i := 215) rfl) rfl
theorem gm_1247 : (Cond.constantLong "LetterSchoolModel" 219 255) ∈ gW := tin_5 (List.mem_of_getElem? (i := 216) rfl) rfl
theorem gm_1248 : (Cond.constantLong "LetterSchoolModel" 221 32) ∈ gW := tin_5 (List.mem_of_getElem? (i := 217) rfl) rfl
theorem gm_1249 : (Cond.constantLong "LetterSchoolModel" 223 126) ∈ gW := tin_5 (List.mem_of_getElem? (i := 218) rfl) rfl
theorem gm_1250 : (Cond.methodLink "LetterSchoolLaw" 24 ⟨"LetterSchoolModel", "edition", "(II)I"⟩) ∈ gW := tin_5 (List.mem_of_getElem? (i := 219) rfl) rfl
theorem gm_1251 : (Cond.instanceMethod ⟨"LetterSchoolModel", "edition", "(II)I"⟩) ∈ gW := tin_5 (List.mem_of_getElem? (i := 220) rfl) rfl
theorem gm_1252 : (Cond.selects "LetterSchoolModel" ⟨"LetterSchoolModel", "edition", "(II)I"⟩ ⟨"LetterSchoolModel", "edition", "(II)I"⟩) ∈ gW := tin_5 (List.mem_of_getElem? (i := 221) rfl) rfl
theorem gm_1253 : (Cond.code ⟨"LetterSchoolModel", "edition", "(II)I"⟩ prog_14_method_18_code 6 (Option.some FieldType.int)) ∈ gW := tin_5 (List.mem_of_getElem? (i := 222) rfl) rfl
theorem gm_1254 : (Cond.methodLink "LetterSchoolModel" 299 ⟨"LetterSchoolModel", "isCourse", "(I)Z"⟩) ∈ gW := tin_5 (List.mem_of_getElem? (i := 223) rfl) rfl
theorem gm_1255 : (Cond.static ⟨"LetterSchoolModel", "isCourse", "(I)Z"⟩) ∈ gW := tin_5 (List.mem_of_getElem? (i := 224) rfl) rfl
theorem gm_1256 : (Cond.code ⟨"LetterSchoolModel", "isCourse", "(I)Z"⟩ prog_14_method_17_code 1 (Option.some FieldType.boolean)) ∈ gW := tin_5 (List.mem_of_getElem? (i := 225) rfl) rfl
theorem gm_1257 : (Cond.constantLong "LetterSchoolModel" 297 3) ∈ gW := tin_5 (List.mem_of_getElem? (i := 226) rfl) rfl
theorem gm_1258 : (Cond.methodLink "LetterSchoolModel" 302 ⟨"LetterSchoolModel", "isDay", "(I)Z"⟩) ∈ gW := tin_5 (List.mem_of_getElem? (i := 227) rfl) rfl
theorem gm_1259 : (Cond.static ⟨"LetterSchoolModel", "isDay", "(I)Z"⟩) ∈ gW := tin_5 (List.mem_of_getElem? (i := 228) rfl) rfl
theorem gm_1260 : (Cond.code ⟨"LetterSchoolModel", "isDay", "(I)Z"⟩ prog_14_method_3_code 1 (Option.some FieldType.boolean)) ∈ gW := tin_5 (List.mem_of_getElem? (i := 229) rfl) rfl
theorem gm_1261 : (Cond.constantLong "LetterSchoolModel" 211 3999) ∈ gW := tin_5 (List.mem_of_getElem? (i := 230) rfl) rfl
theorem gm_1262 : (Cond.methodLink "LetterSchoolModel" 305 ⟨"LetterSchoolModel", "readEdition", "()V"⟩) ∈ gW := tin_5 (List.mem_of_getElem? (i := 231) rfl) rfl
theorem gm_1264 : (Cond.instanceMethod ⟨"LetterSchoolModel", "readEdition", "()V"⟩) ∈ gW := tin_5 (List.mem_of_getElem? (i := 233) rfl) rfl
theorem gm_1265 : (Cond.code ⟨"LetterSchoolModel", "readEdition", "()V"⟩ prog_14_method_16_code 2 (Option.none : Option FieldType)) ∈ gW := tin_5 (List.mem_of_getElem? (i := 234) rfl) rfl
theorem gm_1266 : (Cond.methodLink "LetterSchoolModel" 294 ⟨"LetterSchoolModel", "readLesson", "()V"⟩) ∈ gW := tin_5 (List.mem_of_getElem? (i := 235) rfl) rfl
theorem gm_1268 : (Cond.instanceMethod ⟨"LetterSchoolModel", "readLesson", "()V"⟩) ∈ gW := tin_5 (List.mem_of_getElem? (i := 237) rfl) rfl
theorem gm_1269 : (Cond.code ⟨"LetterSchoolModel", "readLesson", "()V"⟩ prog_14_method_15_code 3 (Option.none : Option FieldType)) ∈ gW := tin_5 (List.mem_of_getElem? (i := 238) rfl) rfl
theorem gm_1270 : (Cond.methodLink "LetterSchoolModel" 235 ⟨"LetterSchoolModel", "next", "()I"⟩) ∈ gW := tin_5 (List.mem_of_getElem? (i := 239) rfl) rfl
theorem gm_1272 : (Cond.instanceMethod ⟨"LetterSchoolModel", "next", "()I"⟩) ∈ gW := tin_6 (List.mem_of_getElem? (i := 1) rfl) rfl
theorem gm_1273 : (Cond.code ⟨"LetterSchoolModel", "next", "()I"⟩ prog_14_method_5_code 1 (Option.some FieldType.int)) ∈ gW := tin_6 (List.mem_of_getElem? (i := 2) rfl) rfl
theorem gm_1274 : (Cond.constantLong "LetterSchoolModel" 280 7) ∈ gW := tin_6 (List.mem_of_getElem? (i := 3) rfl) rfl
theorem gm_1275 : (Cond.methodLink "LetterSchoolModel" 243 ⟨"LetterSchoolModel", "fail", "(I)V"⟩) ∈ gW := tin_6 (List.mem_of_getElem? (i := 4) rfl) rfl
theorem gm_1277 : (Cond.instanceMethod ⟨"LetterSchoolModel", "fail", "(I)V"⟩) ∈ gW := tin_6 (List.mem_of_getElem? (i := 6) rfl) rfl
theorem gm_1278 : (Cond.code ⟨"LetterSchoolModel", "fail", "(I)V"⟩ prog_14_method_6_code 2 (Option.none : Option FieldType)) ∈ gW := tin_6 (List.mem_of_getElem? (i := 7) rfl) rfl
theorem gm_1279 : (Cond.methodLink "LetterSchoolModel" 285 ⟨"LetterSchoolModel", "need", "(I)V"⟩) ∈ gW := tin_6 (List.mem_of_getElem? (i := 8) rfl) rfl
theorem gm_1281 : (Cond.instanceMethod ⟨"LetterSchoolModel", "need", "(I)V"⟩) ∈ gW := tin_6 (List.mem_of_getElem? (i := 10) rfl) rfl
theorem gm_1282 : (Cond.code ⟨"LetterSchoolModel", "need", "(I)V"⟩ prog_14_method_8_code 2 (Option.none : Option FieldType)) ∈ gW := tin_6 (List.mem_of_getElem? (i := 11) rfl) rfl
theorem gm_1283 : (Cond.methodLink "LetterSchoolModel" 239 ⟨"LetterSchoolModel", "takes", "(I)Z"⟩) ∈ gW := tin_6 (List.mem_of_getElem? (i := 12) rfl) rfl
theorem gm_1285 : (Cond.instanceMethod ⟨"LetterSchoolModel", "takes", "(I)Z"⟩) ∈ gW := tin_6 (List.mem_of_getElem? (i := 14) rfl) rfl
theorem gm_1286 : (Cond.code ⟨"LetterSchoolModel", "takes", "(I)Z"⟩ prog_14_method_7_code 3 (Option.some FieldType.boolean)) ∈ gW := tin_6 (List.mem_of_getElem? (i := 15) rfl) rfl
theorem gm_1287 : (Cond.methodLink "LetterSchoolModel" 267 ⟨"LetterSchoolModel", "number", "(I)I"⟩) ∈ gW := tin_6 (List.mem_of_getElem? (i := 16) rfl) rfl
theorem gm_1289 : (Cond.instanceMethod ⟨"LetterSchoolModel", "number", "(I)I"⟩) ∈ gW := tin_6 (List.mem_of_getElem? (i := 18) rfl) rfl
theorem gm_1290 : (Cond.code ⟨"LetterSchoolModel", "number", "(I)I"⟩ prog_14_method_9_code 5 (Option.some FieldType.int)) ∈ gW := tin_6 (List.mem_of_getElem? (i := 19) rfl) rfl
theorem gm_1291 : (Cond.constantLong "LetterSchoolModel" 247 48) ∈ gW := tin_6 (List.mem_of_getElem? (i := 20) rfl) rfl
theorem gm_1292 : (Cond.constantLong "LetterSchoolModel" 249 57) ∈ gW := tin_6 (List.mem_of_getElem? (i := 21) rfl) rfl
theorem gm_1293 : (Cond.methodLink "LetterSchoolModel" 288 ⟨"LetterSchoolModel", "readLeans", "()V"⟩) ∈ gW := tin_6 (List.mem_of_getElem? (i := 22) rfl) rfl
theorem gm_1295 : (Cond.instanceMethod ⟨"LetterSchoolModel", "readLeans", "()V"⟩) ∈ gW := tin_6 (List.mem_of_getElem? (i := 24) rfl) rfl
theorem gm_1296 : (Cond.code ⟨"LetterSchoolModel", "readLeans", "()V"⟩ prog_14_method_14_code 3 (Option.none : Option FieldType)) ∈ gW := tin_6 (List.mem_of_getElem? (i := 25) rfl) rfl
theorem gm_1297 : (Cond.methodLink "LetterSchoolModel" 274 ⟨"LetterSchoolModel", "readClaim", "(I)I"⟩) ∈ gW := tin_6 (List.mem_of_getElem? (i := 26) rfl) rfl
theorem gm_1299 : (Cond.instanceMethod ⟨"LetterSchoolModel", "readClaim", "(I)I"⟩) ∈ gW := tin_6 (List.mem_of_getElem? (i := 28) rfl) rfl
theorem gm_1300 : (Cond.code ⟨"LetterSchoolModel", "readClaim", "(I)I"⟩ prog_14_method_13_code 5 (Option.some FieldType.int)) ∈ gW := tin_6 (List.mem_of_getElem? (i := 29) rfl) rfl
theorem gm_1301 : (Cond.constantLong "LetterSchoolModel" 260 97) ∈ gW := tin_6 (List.mem_of_getElem? (i := 30) rfl) rfl
theorem gm_1302 : (Cond.constantLong "LetterSchoolModel" 262 104) ∈ gW := tin_6 (List.mem_of_getElem? (i := 31) rfl) rfl
theorem gm_1303 : (Cond.methodLink "LetterSchoolModel" 257 ⟨"LetterSchoolModel", "emit", "(I)V"⟩) ∈ gW := tin_6 (List.mem_of_getElem? (i := 32) rfl) rfl
theorem gm_1305 : (Cond.instanceMethod ⟨"LetterSchoolModel", "emit", "(I)V"⟩) ∈ gW := tin_6 (List.mem_of_getElem? (i := 34) rfl) rfl
theorem gm_1306 : (Cond.code ⟨"LetterSchoolModel", "emit", "(I)V"⟩ prog_14_method_10_code 2 (Option.none : Option FieldType)) ∈ gW := tin_6 (List.mem_of_getElem? (i := 35) rfl) rfl
theorem gm_1307 : (Cond.methodLink "LetterSchoolModel" 271 ⟨"LetterSchoolModel", "turnIfTold", "()V"⟩) ∈ gW := tin_6 (List.mem_of_getElem? (i := 36) rfl) rfl
theorem gm_1309 : (Cond.instanceMethod ⟨"LetterSchoolModel", "turnIfTold", "()V"⟩) ∈ gW := tin_6 (List.mem_of_getElem? (i := 38) rfl) rfl
theorem gm_1310 : (Cond.code ⟨"LetterSchoolModel", "turnIfTold", "()V"⟩ prog_14_method_11_code 1 (Option.none : Option FieldType)) ∈ gW := tin_6 (List.mem_of_getElem? (i := 39) rfl) rfl
theorem gm_1311 : (Cond.methodLink "LetterSchoolModel" 277 ⟨"LetterSchoolModel", "comeOut", "(I)V"⟩) ∈ gW := tin_6 (List.mem_of_getElem? (i := 40) rfl) rfl
theorem gm_1313 : (Cond.instanceMethod ⟨"LetterSchoolModel", "comeOut", "(I)V"⟩) ∈ gW := tin_6 (List.mem_of_getElem? (i := 42) rfl) rfl
theorem gm_1314 : (Cond.code ⟨"LetterSchoolModel", "comeOut", "(I)V"⟩ prog_14_method_12_code 2 (Option.none : Option FieldType)) ∈ gW := tin_6 (List.mem_of_getElem? (i := 43) rfl) rfl
theorem gm_1315 : (Cond.methodLink "LetterSchoolLaw" 29 ⟨"LetterSchoolModel", "told", "(III)I"⟩) ∈ gW := tin_6 (List.mem_of_getElem? (i := 44) rfl) rfl
theorem gm_1316 : (Cond.instanceMethod ⟨"LetterSchoolModel", "told", "(III)I"⟩) ∈ gW := tin_6 (List.mem_of_getElem? (i := 45) rfl) rfl
theorem gm_1317 : (Cond.selects "LetterSchoolModel" ⟨"LetterSchoolModel", "told", "(III)I"⟩ ⟨"LetterSchoolModel", "told", "(III)I"⟩) ∈ gW := tin_6 (List.mem_of_getElem? (i := 46) rfl) rfl
theorem gm_1318 : (Cond.code ⟨"LetterSchoolModel", "told", "(III)I"⟩ prog_14_method_21_code 5 (Option.some FieldType.int)) ∈ gW := tin_6 (List.mem_of_getElem? (i := 47) rfl) rfl
theorem gm_1319 : (Cond.methodLink "LetterSchoolModel" 308 ⟨"LetterSchoolModel", "isEdition", "(II)Z"⟩) ∈ gW := tin_6 (List.mem_of_getElem? (i := 48) rfl) rfl
theorem gm_1321 : (Cond.instanceMethod ⟨"LetterSchoolModel", "isEdition", "(II)Z"⟩) ∈ gW := tin_6 (List.mem_of_getElem? (i := 50) rfl) rfl
theorem gm_1322 : (Cond.code ⟨"LetterSchoolModel", "isEdition", "(II)Z"⟩ prog_14_method_20_code 3 (Option.some FieldType.boolean)) ∈ gW := tin_6 (List.mem_of_getElem? (i := 51) rfl) rfl
theorem gm_1323 : (Cond.constantLong "LetterSchoolModel" 312 2) ∈ gW := tin_6 (List.mem_of_getElem? (i := 52) rfl) rfl
theorem gm_1324 : (Cond.methodLink "LetterSchoolModel" 314 ⟨"LetterSchoolModel", "ones", "(I)I"⟩) ∈ gW := tin_6 (List.mem_of_getElem? (i := 53) rfl) rfl
theorem gm_1325 : (Cond.static ⟨"LetterSchoolModel", "ones", "(I)I"⟩) ∈ gW := tin_6 (List.mem_of_getElem? (i := 54) rfl) rfl
theorem gm_1326 : (Cond.code ⟨"LetterSchoolModel", "ones", "(I)I"⟩ prog_14_method_19_code 3 (Option.some FieldType.int)) ∈ gW := tin_6 (List.mem_of_getElem? (i := 55) rfl) rfl
theorem gm_1327 : (Cond.methodLink "LetterSchoolLaw" 34 ⟨"LetterSchoolModel", "lesson", "(IIII)I"⟩) ∈ gW := tin_6 (List.mem_of_getElem? (i := 56) rfl) rfl
theorem gm_1328 : (Cond.instanceMethod ⟨"LetterSchoolModel", "lesson", "(IIII)I"⟩) ∈ gW := tin_6 (List.mem_of_getElem? (i := 57) rfl) rfl
theorem gm_1329 : (Cond.selects "LetterSchoolModel" ⟨"LetterSchoolModel", "lesson", "(IIII)I"⟩ ⟨"LetterSchoolModel", "lesson", "(IIII)I"⟩) ∈ gW := tin_6 (List.mem_of_getElem? (i := 58) rfl) rfl
theorem gm_1330 : (Cond.code ⟨"LetterSchoolModel", "lesson", "(IIII)I"⟩ prog_14_method_23_code 9 (Option.some FieldType.int)) ∈ gW := tin_6 (List.mem_of_getElem? (i := 59) rfl) rfl
theorem gm_1331 : (Cond.methodLink "LetterSchoolModel" 317 ⟨"LetterSchoolModel", "hasLesson", "(II)Z"⟩) ∈ gW := tin_6 (List.mem_of_getElem? (i := 60) rfl) rfl
theorem gm_1333 : (Cond.instanceMethod ⟨"LetterSchoolModel", "hasLesson", "(II)Z"⟩) ∈ gW := tin_6 (List.mem_of_getElem? (i := 62) rfl) rfl
theorem gm_1334 : (Cond.code ⟨"LetterSchoolModel", "hasLesson", "(II)Z"⟩ prog_14_method_22_code 3 (Option.some FieldType.boolean)) ∈ gW := tin_6 (List.mem_of_getElem? (i := 63) rfl) rfl
theorem gm_1335 : (Cond.methodLink "LetterSchoolLaw" 38 ⟨"LetterSchoolModel", "pupil", "(III)I"⟩) ∈ gW := tin_6 (List.mem_of_getElem? (i := 64) rfl) rfl
theorem gm_1336 : (Cond.instanceMethod ⟨"LetterSchoolModel", "pupil", "(III)I"⟩) ∈ gW := tin_6 (List.mem_of_getElem? (i := 65) rfl) rfl
theorem gm_1337 : (Cond.selects "LetterSchoolModel" ⟨"LetterSchoolModel", "pupil", "(III)I"⟩ ⟨"LetterSchoolModel", "pupil", "(III)I"⟩) ∈ gW := tin_6 (List.mem_of_getElem? (i := 66) rfl) rfl
theorem gm_1338 : (Cond.code ⟨"LetterSchoolModel", "pupil", "(III)I"⟩ prog_14_method_25_code 5 (Option.some FieldType.int)) ∈ gW := tin_6 (List.mem_of_getElem? (i := 67) rfl) rfl
theorem gm_1339 : (Cond.constantLong "LetterSchoolModel" 320 5) ∈ gW := tin_6 (List.mem_of_getElem? (i := 68) rfl) rfl
theorem gm_1340 : (Cond.methodLink "LetterSchoolModel" 322 ⟨"LetterSchoolModel", "forceOn", "(II)I"⟩) ∈ gW := tin_6 (List.mem_of_getElem? (i := 69) rfl) rfl
theorem gm_1342 : (Cond.instanceMethod ⟨"LetterSchoolModel", "forceOn", "(II)I"⟩) ∈ gW := tin_6 (List.mem_of_getElem? (i := 71) rfl) rfl
theorem gm_1343 : (Cond.code ⟨"LetterSchoolModel", "forceOn", "(II)I"⟩ prog_14_method_24_code 5 (Option.some FieldType.int)) ∈ gW := tin_6 (List.mem_of_getElem? (i := 72) rfl) rfl
theorem gm_1344 : (Cond.methodLink "LetterSchoolLaw" 42 ⟨"LetterSchoolModel", "who", "(II)I"⟩) ∈ gW := tin_6 (List.mem_of_getElem? (i := 73) rfl) rfl
theorem gm_1345 : (Cond.instanceMethod ⟨"LetterSchoolModel", "who", "(II)I"⟩) ∈ gW := tin_6 (List.mem_of_getElem? (i := 74) rfl) rfl
theorem gm_1346 : (Cond.selects "LetterSchoolModel" ⟨"LetterSchoolModel", "who", "(II)I"⟩ ⟨"LetterSchoolModel", "who", "(II)I"⟩) ∈ gW := tin_6 (List.mem_of_getElem? (i := 75) rfl) rfl
theorem gm_1347 : (Cond.code ⟨"LetterSchoolModel", "who", "(II)I"⟩ prog_14_method_28_code 3 (Option.some FieldType.int)) ∈ gW := tin_6 (List.mem_of_getElem? (i := 76) rfl) rfl
theorem gm_1348 : (Cond.methodLink "LetterSchoolModel" 329 ⟨"LetterSchoolModel", "isPupil", "(I)Z"⟩) ∈ gW := tin_6 (List.mem_of_getElem? (i := 77) rfl) rfl
theorem gm_1350 : (Cond.instanceMethod ⟨"LetterSchoolModel", "isPupil", "(I)Z"⟩) ∈ gW := tin_6 (List.mem_of_getElem? (i := 79) rfl) rfl
theorem gm_1351 : (Cond.code ⟨"LetterSchoolModel", "isPupil", "(I)Z"⟩ prog_14_method_26_code 2 (Option.some FieldType.boolean)) ∈ gW := tin_6 (List.mem_of_getElem? (i := 80) rfl) rfl
theorem gm_1352 : (Cond.methodLink "LetterSchoolLaw" 46 ⟨"LetterSchoolModel", "habit", "(II)I"⟩) ∈ gW := tin_6 (List.mem_of_getElem? (i := 81) rfl) rfl
theorem gm_1353 : (Cond.instanceMethod ⟨"LetterSchoolModel", "habit", "(II)I"⟩) ∈ gW := tin_6 (List.mem_of_getElem? (i := 82) rfl) rfl
theorem gm_1354 : (Cond.selects "LetterSchoolModel" ⟨"LetterSchoolModel", "habit", "(II)I"⟩ ⟨"LetterSchoolModel", "habit", "(II)I"⟩) ∈ gW := tin_6 (List.mem_of_getElem? (i := 83) rfl) rfl
theorem gm_1355 : (Cond.code ⟨"LetterSchoolModel", "habit", "(II)I"⟩ prog_14_method_29_code 4 (Option.some FieldType.int)) ∈ gW := tin_6 (List.mem_of_getElem? (i := 84) rfl) rfl
theorem gm_1356 : (Cond.constantLong "LetterSchoolModel" 332 60) ∈ gW := tin_6 (List.mem_of_getElem? (i := 85) rfl) rfl
theorem gm_1357 : (Cond.methodLink "LetterSchoolLaw" 50 ⟨"LetterSchoolModel", "best", "(III)I"⟩) ∈ gW := tin_6 (List.mem_of_getElem? (i := 86) rfl) rfl
theorem gm_1358 : (Cond.instanceMethod ⟨"LetterSchoolModel", "best", "(III)I"⟩) ∈ gW := tin_6 (List.mem_of_getElem? (i := 87) rfl) rfl
theorem gm_1359 : (Cond.selects "LetterSchoolModel" ⟨"LetterSchoolModel", "best", "(III)I"⟩ ⟨"LetterSchoolModel", "best", "(III)I"⟩) ∈ gW := tin_6 (List.mem_of_getElem? (i := 88) rfl) rfl
theorem gm_1360 : (Cond.code ⟨"LetterSchoolModel", "best", "(III)I"⟩ prog_14_method_35_code 5 (Option.some FieldType.int)) ∈ gW := tin_6 (List.mem_of_getElem? (i := 89) rfl) rfl
theorem gm_1361 : (Cond.methodLink "LetterSchoolModel" 346 ⟨"LetterSchoolModel", "findBests", "(II)V"⟩) ∈ gW := tin_6 (List.mem_of_getElem? (i := 90) rfl) rfl
theorem gm_1363 : (Cond.instanceMethod ⟨"LetterSchoolModel", "findBests", "(II)V"⟩) ∈ gW := tin_6 (List.mem_of_getElem? (i := 92) rfl) rfl
theorem gm_1364 : (Cond.code ⟨"LetterSchoolModel", "findBests", "(II)V"⟩ prog_14_method_30_code 5 (Option.none : Option FieldType)) ∈ gW := tin_6 (List.mem_of_getElem? (i := 93) rfl) rfl
theorem gm_1365 : (Cond.methodLink "LetterSchoolModel" 337 ⟨"LetterSchoolModel", "bestOf", "(II)I"⟩) ∈ gW := tin_6 (List.mem_of_getElem? (i := 94) rfl) rfl
theorem gm_1367 : (Cond.instanceMethod ⟨"LetterSchoolModel", "bestOf", "(II)I"⟩) ∈ gW := tin_6 (List.mem_of_getElem? (i := 96) rfl) rfl
theorem gm_1368 : (Cond.code ⟨"LetterSchoolModel", "bestOf", "(II)I"⟩ prog_14_method_31_code 3 (Option.some FieldType.int)) ∈ gW := tin_6 (List.mem_of_getElem? (i := 97) rfl) rfl
theorem gm_1369 : (Cond.methodLink "LetterSchoolLaw" 54 ⟨"LetterSchoolModel", "may", "(II)I"⟩) ∈ gW := tin_6 (List.mem_of_getElem? (i := 98) rfl) rfl
theorem gm_1370 : (Cond.instanceMethod ⟨"LetterSchoolModel", "may", "(II)I"⟩) ∈ gW := tin_6 (List.mem_of_getElem? (i := 99) rfl) rfl
theorem gm_1371 : (Cond.selects "LetterSchoolModel" ⟨"LetterSchoolModel", "may", "(II)I"⟩ ⟨"LetterSchoolModel", "may", "(II)I"⟩) ∈ gW := tin_6 (List.mem_of_getElem? (i := 100) rfl) rfl
theorem gm_1372 : (Cond.code ⟨"LetterSchoolModel", "may", "(II)I"⟩ prog_14_method_36_code 3 (Option.some FieldType.int)) ∈ gW := tin_6 (List.mem_of_getElem? (i := 101) rfl) rfl
theorem gm_1373 : (Cond.methodLink "LetterSchoolModel" 350 ⟨"LetterSchoolModel", "bitsOf", "(II)I"⟩) ∈ gW := tin_6 (List.mem_of_getElem? (i := 102) rfl) rfl
theorem gm_1375 : (Cond.instanceMethod ⟨"LetterSchoolModel", "bitsOf", "(II)I"⟩) ∈ gW := tin_6 (List.mem_of_getElem? (i := 104) rfl) rfl
theorem gm_1376 : (Cond.code ⟨"LetterSchoolModel", "bitsOf", "(II)I"⟩ prog_14_method_34_code 7 (Option.some FieldType.int)) ∈ gW := tin_6 (List.mem_of_getElem? (i := 105) rfl) rfl
theorem gm_1377 : (Cond.methodLink "LetterSchoolModel" 340 ⟨"LetterSchoolModel", "isPassed", "(II)Z"⟩) ∈ gW := tin_6 (List.mem_of_getElem? (i := 106) rfl) rfl
theorem gm_1379 : (Cond.instanceMethod ⟨"LetterSchoolModel", "isPassed", "(II)Z"⟩) ∈ gW := tin_6 (List.mem_of_getElem? (i := 108) rfl) rfl
theorem gm_1380 : (Cond.code ⟨"LetterSchoolModel", "isPassed", "(II)Z"⟩ prog_14_method_32_code 3 (Option.some FieldType.boolean)) ∈ gW := tin_6 (List.mem_of_getElem? (i := 109) rfl) rfl
theorem gm_1381 : (Cond.methodLink "LetterSchoolModel" 343 ⟨"LetterSchoolModel", "holds", "(II)Z"⟩) ∈ gW := tin_6 (List.mem_of_getElem? (i := 110) rfl) rfl
theorem gm_1383 : (Cond.instanceMethod ⟨"LetterSchoolModel", "holds", "(II)Z"⟩) ∈ gW := tin_6 (List.mem_of_getElem? (i := 112) rfl) rfl
theorem gm_1384 : (Cond.code ⟨"LetterSchoolModel", "holds", "(II)Z"⟩ prog_14_method_33_code 7 (Option.some FieldType.boolean)) ∈ gW := tin_6 (List.mem_of_getElem? (i := 113) rfl) rfl
theorem gm_1385 : (Cond.methodLink "LetterSchoolLaw" 58 ⟨"LetterSchoolModel", "lean", "(II)I"⟩) ∈ gW := tin_6 (List.mem_of_getElem? (i := 114) rfl) rfl
theorem gm_1386 : (Cond.instanceMethod ⟨"LetterSchoolModel", "lean", "(II)I"⟩) ∈ gW := tin_6 (List.mem_of_getElem? (i := 115) rfl) rfl
theorem gm_1387 : (Cond.selects "LetterSchoolModel" ⟨"LetterSchoolModel", "lean", "(II)I"⟩ ⟨"LetterSchoolModel", "lean", "(II)I"⟩) ∈ gW := tin_6 (List.mem_of_getElem? (i := 116) rfl) rfl
theorem gm_1388 : (Cond.code ⟨"LetterSchoolModel", "lean", "(II)I"⟩ prog_14_method_38_code 9 (Option.some FieldType.int)) ∈ gW := tin_6 (List.mem_of_getElem? (i := 117) rfl) rfl
theorem gm_1389 : (Cond.methodLink "LetterSchoolModel" 353 ⟨"LetterSchoolModel", "findWith", "(II)V"⟩) ∈ gW := tin_6 (List.mem_of_getElem? (i := 118) rfl) rfl
theorem gm_1391 : (Cond.instanceMethod ⟨"LetterSchoolModel", "findWith", "(II)V"⟩) ∈ gW := tin_6 (List.mem_of_getElem? (i := 120) rfl) rfl
theorem gm_1392 : (Cond.code ⟨"LetterSchoolModel", "findWith", "(II)V"⟩ prog_14_method_37_code 4 (Option.none : Option FieldType)) ∈ gW := tin_6 (List.mem_of_getElem? (i := 121) rfl) rfl
theorem gm_1393 : (Cond.methodLink "LetterSchoolLaw" 62 ⟨"LetterSchoolModel", "post", "(III)I"⟩) ∈ gW := tin_6 (List.mem_of_getElem? (i := 122) rfl) rfl
theorem gm_1394 : (Cond.instanceMethod ⟨"LetterSchoolModel", "post", "(III)I"⟩) ∈ gW := tin_6 (List.mem_of_getElem? (i := 123) rfl) rfl
theorem gm_1395 : (Cond.selects "LetterSchoolModel" ⟨"LetterSchoolModel", "post", "(III)I"⟩ ⟨"LetterSchoolModel", "post", "(III)I"⟩) ∈ gW := tin_6 (List.mem_of_getElem? (i := 124) rfl) rfl
theorem gm_1396 : (Cond.code ⟨"LetterSchoolModel", "post", "(III)I"⟩ prog_14_method_39_code 4 (Option.some FieldType.int)) ∈ gW := tin_6 (List.mem_of_getElem? (i := 125) rfl) rfl
theorem gm_1397 : (Cond.constantLong "LetterSchoolModel" 356 9) ∈ gW := tin_6 (List.mem_of_getElem? (i := 126) rfl) rfl
theorem gm_1398 : (Cond.methodLink "LetterSchoolLaw" 66 ⟨"LetterSchoolModel", "send", "(III)I"⟩) ∈ gW := tin_6 (List.mem_of_getElem? (i := 127) rfl) rfl
theorem gm_1399 : (Cond.instanceMethod ⟨"LetterSchoolModel", "send", "(III)I"⟩) ∈ gW := tin_6 (List.mem_of_getElem? (i := 128) rfl) rfl
theorem gm_1400 : (Cond.selects "LetterSchoolModel" ⟨"LetterSchoolModel", "send", "(III)I"⟩ ⟨"LetterSchoolModel", "send", "(III)I"⟩) ∈ gW := tin_6 (List.mem_of_getElem? (i := 129) rfl) rfl
theorem gm_1401 : (Cond.code ⟨"LetterSchoolModel", "send", "(III)I"⟩ prog_14_method_41_code 5 (Option.some FieldType.int)) ∈ gW := tin_6 (List.mem_of_getElem? (i := 130) rfl) rfl
theorem gm_1402 : (Cond.methodLink "LetterSchoolModel" 358 ⟨"LetterSchoolModel", "hasLeft", "(II)Z"⟩) ∈ gW := tin_6 (List.mem_of_getElem? (i := 131) rfl) rfl
theorem gm_1404 : (Cond.instanceMethod ⟨"LetterSchoolModel", "hasLeft", "(II)Z"⟩) ∈ gW := tin_6 (List.mem_of_getElem? (i := 133) rfl) rfl
theorem gm_1405 : (Cond.code ⟨"LetterSchoolModel", "hasLeft", "(II)Z"⟩ prog_14_method_27_code 3 (Option.some FieldType.boolean)) ∈ gW := tin_6 (List.mem_of_getElem? (i := 134) rfl) rfl
theorem gm_1406 : (Cond.methodLink "LetterSchoolModel" 361 ⟨"LetterSchoolModel", "goes", "(III)V"⟩) ∈ gW := tin_6 (List.mem_of_getElem? (i := 135) rfl) rfl
theorem gm_1408 : (Cond.instanceMethod ⟨"LetterSchoolModel", "goes", "(III)V"⟩) ∈ gW := tin_6 (List.mem_of_getElem? (i := 137) rfl) rfl
theorem gm_1409 : (Cond.code ⟨"LetterSchoolModel", "goes", "(III)V"⟩ prog_14_method_40_code 6 (Option.none : Option FieldType)) ∈ gW := tin_6 (List.mem_of_getElem? (i := 138) rfl) rfl
theorem gm_1410 : (Cond.methodLink "LetterSchoolLaw" 70 ⟨"LetterSchoolModel", "answer", "(II)I"⟩) ∈ gW := tin_6 (List.mem_of_getElem? (i := 139) rfl) rfl
theorem gm_1411 : (Cond.instanceMethod ⟨"LetterSchoolModel", "answer", "(II)I"⟩) ∈ gW := tin_6 (List.mem_of_getElem? (i := 140) rfl) rfl
theorem gm_1412 : (Cond.selects "LetterSchoolModel" ⟨"LetterSchoolModel", "answer", "(II)I"⟩ ⟨"LetterSchoolModel", "answer", "(II)I"⟩) ∈ gW := tin_6 (List.mem_of_getElem? (i := 141) rfl) rfl
theorem gm_1413 : (Cond.code ⟨"LetterSchoolModel", "answer", "(II)I"⟩ prog_14_method_43_code 4 (Option.some FieldType.int)) ∈ gW := tin_6 (List.mem_of_getElem? (i := 142) rfl) rfl
theorem gm_1414 : (Cond.methodLink "LetterSchoolModel" 365 ⟨"LetterSchoolModel", "isThing", "(I)Z"⟩) ∈ gW := tin_6 (List.mem_of_getElem? (i := 143) rfl) rfl
theorem gm_1416 : (Cond.instanceMethod ⟨"LetterSchoolModel", "isThing", "(I)Z"⟩) ∈ gW := tin_6 (List.mem_of_getElem? (i := 145) rfl) rfl
theorem gm_1417 : (Cond.code ⟨"LetterSchoolModel", "isThing", "(I)Z"⟩ prog_14_method_42_code 2 (Option.some FieldType.boolean)) ∈ gW := tin_6 (List.mem_of_getElem? (i := 146) rfl) rfl
theorem gm_1418 : (Cond.methodLink "LetterSchoolLaw" 74 ⟨"LetterSchoolModel", "give", "(III)I"⟩) ∈ gW := tin_6 (List.mem_of_getElem? (i := 147) rfl) rfl
theorem gm_1419 : (Cond.instanceMethod ⟨"LetterSchoolModel", "give", "(III)I"⟩) ∈ gW := tin_6 (List.mem_of_getElem? (i := 148) rfl) rfl
theorem gm_1420 : (Cond.selects "LetterSchoolModel" ⟨"LetterSchoolModel", "give", "(III)I"⟩ ⟨"LetterSchoolModel", "give", "(III)I"⟩) ∈ gW := tin_6 (List.mem_of_getElem? (i := 149) rfl) rfl
theorem gm_1421 : (Cond.code ⟨"LetterSchoolModel", "give", "(III)I"⟩ prog_14_method_46_code 4 (Option.some FieldType.int)) ∈ gW := tin_6 (List.mem_of_getElem? (i := 150) rfl) rfl
theorem gm_1422 : (Cond.methodLink "LetterSchoolModel" 368 ⟨"LetterSchoolModel", "isTutor", "(I)Z"⟩) ∈ gW := tin_6 (List.mem_of_getElem? (i := 151) rfl) rfl
theorem gm_1424 : (Cond.instanceMethod ⟨"LetterSchoolModel", "isTutor", "(I)Z"⟩) ∈ gW := tin_6 (List.mem_of_getElem? (i := 153) rfl) rfl
theorem gm_1425 : (Cond.code ⟨"LetterSchoolModel", "isTutor", "(I)Z"⟩ prog_14_method_57_code 2 (Option.some FieldType.boolean)) ∈ gW := tin_6 (List.mem_of_getElem? (i := 154) rfl) rfl
theorem gm_1426 : (Cond.methodLink "LetterSchoolModel" 371 ⟨"LetterSchoolModel", "isAnswer", "(I)Z"⟩) ∈ gW := tin_6 (List.mem_of_getElem? (i := 155) rfl) rfl
theorem gm_1428 : (Cond.instanceMethod ⟨"LetterSchoolModel", "isAnswer", "(I)Z"⟩) ∈ gW := tin_6 (List.mem_of_getElem? (i := 157) rfl) rfl
theorem gm_1429 : (Cond.code ⟨"LetterSchoolModel", "isAnswer", "(I)Z"⟩ prog_14_method_44_code 2 (Option.some FieldType.boolean)) ∈ gW := tin_6 (List.mem_of_getElem? (i := 158) rfl) rfl
theorem gm_1430 : (Cond.methodLink "LetterSchoolModel" 374 ⟨"LetterSchoolModel", "suits", "(II)Z"⟩) ∈ gW := tin_6 (List.mem_of_getElem? (i := 159) rfl) rfl
theorem gm_1432 : (Cond.instanceMethod ⟨"LetterSchoolModel", "suits", "(II)Z"⟩) ∈ gW := tin_6 (List.mem_of_getElem? (i := 161) rfl) rfl
theorem gm_1433 : (Cond.code ⟨"LetterSchoolModel", "suits", "(II)Z"⟩ prog_14_method_45_code 3 (Option.some FieldType.boolean)) ∈ gW := tin_6 (List.mem_of_getElem? (i := 162) rfl) rfl
theorem gm_1434 : (Cond.methodLink "LetterSchoolLaw" 79 ⟨"LetterSchoolModel", "mark", "(IIIII)I"⟩) ∈ gW := tin_6 (List.mem_of_getElem? (i := 163) rfl) rfl
theorem gm_1435 : (Cond.instanceMethod ⟨"LetterSchoolModel", "mark", "(IIIII)I"⟩) ∈ gW := tin_6 (List.mem_of_getElem? (i := 164) rfl) rfl
theorem gm_1436 : (Cond.selects "LetterSchoolModel" ⟨"LetterSchoolModel", "mark", "(IIIII)I"⟩ ⟨"LetterSchoolModel", "mark", "(IIIII)I"⟩) ∈ gW := tin_6 (List.mem_of_getElem? (i := 165) rfl) rfl
theorem gm_1437 : (Cond.code ⟨"LetterSchoolModel", "mark", "(IIIII)I"⟩ prog_14_method_49_code 6 (Option.some FieldType.int)) ∈ gW := tin_6 (List.mem_of_getElem? (i := 166) rfl) rfl
theorem gm_1438 : (Cond.methodLink "LetterSchoolModel" 379 ⟨"LetterSchoolModel", "isParts", "(III)Z"⟩) ∈ gW := tin_6 (List.mem_of_getElem? (i := 167) rfl) rfl
theorem gm_1439 : (Cond.static ⟨"LetterSchoolModel", "isParts", "(III)Z"⟩) ∈ gW := tin_6 (List.mem_of_getElem? (i := 168) rfl) rfl
theorem gm_1440 : (Cond.code ⟨"LetterSchoolModel", "isParts", "(III)Z"⟩ prog_14_method_47_code 3 (Option.some FieldType.boolean)) ∈ gW := tin_6 (List.mem_of_getElem? (i := 169) rfl) rfl
theorem gm_1441 : (Cond.constantLong "LetterSchoolModel" 377 100) ∈ gW := tin_6 (List.mem_of_getElem? (i := 170) rfl) rfl
theorem gm_1442 : (Cond.methodLink "LetterSchoolModel" 383 ⟨"LetterSchoolModel", "isGiven", "(II)Z"⟩) ∈ gW := tin_6 (List.mem_of_getElem? (i := 171) rfl) rfl
theorem gm_1444 : (Cond.instanceMethod ⟨"LetterSchoolModel", "isGiven", "(II)Z"⟩) ∈ gW := tin_6 (List.mem_of_getElem? (i := 173) rfl) rfl
theorem gm_1445 : (Cond.code ⟨"LetterSchoolModel", "isGiven", "(II)Z"⟩ prog_14_method_48_code 3 (Option.some FieldType.boolean)) ∈ gW := tin_6 (List.mem_of_getElem? (i := 174) rfl) rfl
theorem gm_1446 : (Cond.methodLink "LetterSchoolLaw" 83 ⟨"LetterSchoolModel", "again", "(II)I"⟩) ∈ gW := tin_6 (List.mem_of_getElem? (i := 175) rfl) rfl
theorem gm_1447 : (Cond.instanceMethod ⟨"LetterSchoolModel", "again", "(II)I"⟩) ∈ gW := tin_6 (List.mem_of_getElem? (i := 176) rfl) rfl
theorem gm_1448 : (Cond.selects "LetterSchoolModel" ⟨"LetterSchoolModel", "again", "(II)I"⟩ ⟨"LetterSchoolModel", "again", "(II)I"⟩) ∈ gW := tin_6 (List.mem_of_getElem? (i := 177) rfl) rfl
theorem gm_1449 : (Cond.code ⟨"LetterSchoolModel", "again", "(II)I"⟩ prog_14_method_50_code 3 (Option.some FieldType.int)) ∈ gW := tin_6 (List.mem_of_getElem? (i := 178) rfl) rfl
theorem gm_1450 : (Cond.methodLink "LetterSchoolLaw" 87 ⟨"LetterSchoolModel", "second", "(IIIII)I"⟩) ∈ gW := tin_6 (List.mem_of_getElem? (i := 179) rfl) rfl
theorem gm_1451 : (Cond.instanceMethod ⟨"LetterSchoolModel", "second", "(IIIII)I"⟩) ∈ gW := tin_6 (List.mem_of_getElem? (i := 180) rfl) rfl
theorem gm_1452 : (Cond.selects "LetterSchoolModel" ⟨"LetterSchoolModel", "second", "(IIIII)I"⟩ ⟨"LetterSchoolModel", "second", "(IIIII)I"⟩) ∈ gW := tin_6 (List.mem_of_getElem? (i := 181) rfl) rfl
theorem gm_1453 : (Cond.code ⟨"LetterSchoolModel", "second", "(IIIII)I"⟩ prog_14_method_51_code 6 (Option.some FieldType.int)) ∈ gW := tin_6 (List.mem_of_getElem? (i := 182) rfl) rfl
theorem gm_1454 : (Cond.methodLink "LetterSchoolLaw" 91 ⟨"LetterSchoolModel", "thing", "(II)I"⟩) ∈ gW := tin_6 (List.mem_of_getElem? (i := 183) rfl) rfl
theorem gm_1455 : (Cond.instanceMethod ⟨"LetterSchoolModel", "thing", "(II)I"⟩) ∈ gW := tin_6 (List.mem_of_getElem? (i := 184) rfl) rfl
theorem gm_1456 : (Cond.selects "LetterSchoolModel" ⟨"LetterSchoolModel", "thing", "(II)I"⟩ ⟨"LetterSchoolModel", "thing", "(II)I"⟩) ∈ gW := tin_6 (List.mem_of_getElem? (i := 185) rfl) rfl
theorem gm_1457 : (Cond.code ⟨"LetterSchoolModel", "thing", "(II)I"⟩ prog_14_method_52_code 3 (Option.some FieldType.int)) ∈ gW := tin_6 (List.mem_of_getElem? (i := 186) rfl) rfl
theorem gm_1458 : (Cond.methodLink "LetterSchoolLaw" 95 ⟨"LetterSchoolModel", "marks", "(II)I"⟩) ∈ gW := tin_6 (List.mem_of_getElem? (i := 187) rfl) rfl
theorem gm_1459 : (Cond.instanceMethod ⟨"LetterSchoolModel", "marks", "(II)I"⟩) ∈ gW := tin_6 (List.mem_of_getElem? (i := 188) rfl) rfl
theorem gm_1460 : (Cond.selects "LetterSchoolModel" ⟨"LetterSchoolModel", "marks", "(II)I"⟩ ⟨"LetterSchoolModel", "marks", "(II)I"⟩) ∈ gW := tin_6 (List.mem_of_getElem? (i := 189) rfl) rfl
theorem gm_1461 : (Cond.code ⟨"LetterSchoolModel", "marks", "(II)I"⟩ prog_14_method_54_code 3 (Option.some FieldType.int)) ∈ gW := tin_6 (List.mem_of_getElem? (i := 190) rfl) rfl
theorem gm_1462 : (Cond.methodLink "LetterSchoolModel" 386 ⟨"LetterSchoolModel", "knownOn", "(I)I"⟩) ∈ gW := tin_6 (List.mem_of_getElem? (i := 191) rfl) rfl
theorem gm_1464 : (Cond.instanceMethod ⟨"LetterSchoolModel", "knownOn", "(I)I"⟩) ∈ gW := tin_6 (List.mem_of_getElem? (i := 193) rfl) rfl
theorem gm_1465 : (Cond.code ⟨"LetterSchoolModel", "knownOn", "(I)I"⟩ prog_14_method_53_code 2 (Option.some FieldType.int)) ∈ gW := tin_6 (List.mem_of_getElem? (i := 194) rfl) rfl
theorem gm_1466 : (Cond.methodLink "LetterSchoolLaw" 100 ⟨"LetterSchoolModel", "count", "(I)I"⟩) ∈ gW := tin_6 (List.mem_of_getElem? (i := 195) rfl) rfl
theorem gm_1467 : (Cond.instanceMethod ⟨"LetterSchoolModel", "count", "(I)I"⟩) ∈ gW := tin_6 (List.mem_of_getElem? (i := 196) rfl) rfl
theorem gm_1468 : (Cond.selects "LetterSchoolModel" ⟨"LetterSchoolModel", "count", "(I)I"⟩ ⟨"LetterSchoolModel", "count", "(I)I"⟩) ∈ gW := tin_6 (List.mem_of_getElem? (i := 197) rfl) rfl
theorem gm_1469 : (Cond.code ⟨"LetterSchoolModel", "count", "(I)I"⟩ prog_14_method_55_code 4 (Option.some FieldType.int)) ∈ gW := tin_6 (List.mem_of_getElem? (i := 198) rfl) rfl
theorem gm_1470 : (Cond.methodLink "LetterSchoolLaw" 104 ⟨"LetterSchoolModel", "tutor", "(II)I"⟩) ∈ gW := tin_6 (List.mem_of_getElem? (i := 199) rfl) rfl
theorem gm_1471 : (Cond.instanceMethod ⟨"LetterSchoolModel", "tutor", "(II)I"⟩) ∈ gW := tin_6 (List.mem_of_getElem? (i := 200) rfl) rfl
theorem gm_1472 : (Cond.selects "LetterSchoolModel" ⟨"LetterSchoolModel", "tutor", "(II)I"⟩ ⟨"LetterSchoolModel", "tutor", "(II)I"⟩) ∈ gW := tin_6 (List.mem_of_getElem? (i := 201) rfl) rfl
theorem gm_1473 : (Cond.code ⟨"LetterSchoolModel", "tutor", "(II)I"⟩ prog_14_method_56_code 3 (Option.some FieldType.int)) ∈ gW := tin_6 (List.mem_of_getElem? (i := 202) rfl) rfl
theorem gm_1474 : (Cond.constantLong "LetterSchoolModel" 392 15) ∈ gW := tin_6 (List.mem_of_getElem? (i := 203) rfl) rfl
theorem gm_1475 : (Cond.methodLink "LetterSchoolLaw" 108 ⟨"LetterSchoolModel", "kin", "(II)I"⟩) ∈ gW := tin_6 (List.mem_of_getElem? (i := 204) rfl) rfl
theorem gm_1476 : (Cond.instanceMethod ⟨"LetterSchoolModel", "kin", "(II)I"⟩) ∈ gW := tin_6 (List.mem_of_getElem? (i := 205) rfl) rfl
theorem gm_1477 : (Cond.selects "LetterSchoolModel" ⟨"LetterSchoolModel", "kin", "(II)I"⟩ ⟨"LetterSchoolModel", "kin", "(II)I"⟩) ∈ gW := tin_6 (List.mem_of_getElem? (i := 206) rfl) rfl
theorem gm_1478 : (Cond.code ⟨"LetterSchoolModel", "kin", "(II)I"⟩ prog_14_method_58_code 4 (Option.some FieldType.int)) ∈ gW := tin_6 (List.mem_of_getElem? (i := 207) rfl) rfl
theorem gm_1479 : (Cond.constantLong "LetterSchoolModel" 394 4095) ∈ gW := tin_6 (List.mem_of_getElem? (i := 208) rfl) rfl
theorem gm_1480 : (Cond.methodLink "LetterSchoolLaw" 112 ⟨"LetterSchoolModel", "load", "(I)I"⟩) ∈ gW := tin_6 (List.mem_of_getElem? (i := 209) rfl) rfl
theorem gm_1481 : (Cond.instanceMethod ⟨"LetterSchoolModel", "load", "(I)I"⟩) ∈ gW := tin_6 (List.mem_of_getElem? (i := 210) rfl) rfl
theorem gm_1482 : (Cond.selects "LetterSchoolModel" ⟨"LetterSchoolModel", "load", "(I)I"⟩ ⟨"LetterSchoolModel", "load", "(I)I"⟩) ∈ gW := tin_6 (List.mem_of_getElem? (i := 211) rfl) rfl
theorem gm_1483 : (Cond.code ⟨"LetterSchoolModel", "load", "(I)I"⟩ prog_14_method_59_code 2 (Option.some FieldType.int)) ∈ gW := tin_6 (List.mem_of_getElem? (i := 212) rfl) rfl
theorem gm_1484 : (Cond.methodLink "LetterSchoolLaw" 116 ⟨"LetterSchoolModel", "wait", "(II)I"⟩) ∈ gW := tin_6 (List.mem_of_getElem? (i := 213) rfl) rfl
theorem gm_1485 : (Cond.instanceMethod ⟨"LetterSchoolModel", "wait", "(II)I"⟩) ∈ gW := tin_6 (List.mem_of_getElem? (i := 214) rfl) rfl
theorem gm_1486 : (Cond.selects "LetterSchoolModel" ⟨"LetterSchoolModel", "wait", "(II)I"⟩ ⟨"LetterSchoolModel", "wait", "(II)I"⟩) ∈ gW := tin_6 (List.mem_of_getElem? (i := 215) rfl) rfl
theorem gm_1487 : (Cond.code ⟨"LetterSchoolModel", "wait", "(II)I"⟩ prog_14_method_61_code 3 (Option.some FieldType.int)) ∈ gW := tin_6 (List.mem_of_getElem? (i := 216) rfl) rfl
theorem gm_1488 : (Cond.methodLink "LetterSchoolModel" 396 ⟨"LetterSchoolModel", "daysFor", "(II)I"⟩) ∈ gW := tin_6 (List.mem_of_getElem? (i := 217) rfl) rfl
theorem gm_1490 : (Cond.instanceMethod ⟨"LetterSchoolModel", "daysFor", "(II)I"⟩) ∈ gW := tin_6 (List.mem_of_getElem? (i := 219) rfl) rfl
theorem gm_1491 : (Cond.code ⟨"LetterSchoolModel", "daysFor", "(II)I"⟩ prog_14_method_60_code 3 (Option.some FieldType.int)) ∈ gW := tin_6 (List.mem_of_getElem? (i := 220) rfl) rfl
theorem gm_1492 : (Cond.methodLink "LetterSchoolLaw" 120 ⟨"LetterSchoolModel", "took", "(I)I"⟩) ∈ gW := tin_6 (List.mem_of_getElem? (i := 221) rfl) rfl
theorem gm_1493 : (Cond.instanceMethod ⟨"LetterSchoolModel", "took", "(I)I"⟩) ∈ gW := tin_6 (List.mem_of_getElem? (i := 222) rfl) rfl
theorem gm_1494 : (Cond.selects "LetterSchoolModel" ⟨"LetterSchoolModel", "took", "(I)I"⟩ ⟨"LetterSchoolModel", "took", "(I)I"⟩) ∈ gW := tin_6 (List.mem_of_getElem? (i := 223) rfl) rfl
theorem gm_1495 : (Cond.code ⟨"LetterSchoolModel", "took", "(I)I"⟩ prog_14_method_62_code 2 (Option.some FieldType.int)) ∈ gW := tin_6 (List.mem_of_getElem? (i := 224) rfl) rfl
theorem gm_1496 : (Cond.methodLink "LetterSchoolLaw" 124 ⟨"LetterSchoolModel", "share", "(II)I"⟩) ∈ gW := tin_6 (List.mem_of_getElem? (i := 225) rfl) rfl
theorem gm_1497 : (Cond.instanceMethod ⟨"LetterSchoolModel", "share", "(II)I"⟩) ∈ gW := tin_6 (List.mem_of_getElem? (i := 226) rfl) rfl
theorem gm_1498 : (Cond.selects "LetterSchoolModel" ⟨"LetterSchoolModel", "share", "(II)I"⟩ ⟨"LetterSchoolModel", "share", "(II)I"⟩) ∈ gW := tin_6 (List.mem_of_getElem? (i := 227) rfl) rfl
theorem gm_1499 : (Cond.code ⟨"LetterSchoolModel", "share", "(II)I"⟩ prog_14_method_66_code 3 (Option.some FieldType.int)) ∈ gW := tin_6 (List.mem_of_getElem? (i := 228) rfl) rfl
theorem gm_1500 : (Cond.methodLink "LetterSchoolModel" 421 ⟨"LetterSchoolModel", "findShare", "(I)V"⟩) ∈ gW := tin_6 (List.mem_of_getElem? (i := 229) rfl) rfl
theorem gm_1502 : (Cond.instanceMethod ⟨"LetterSchoolModel", "findShare", "(I)V"⟩) ∈ gW := tin_6 (List.mem_of_getElem? (i := 231) rfl) rfl
theorem gm_1503 : (Cond.code ⟨"LetterSchoolModel", "findShare", "(I)V"⟩ prog_14_method_65_code 4 (Option.none : Option FieldType)) ∈ gW := tin_6 (List.mem_of_getElem? (i := 232) rfl) rfl
theorem gm_1504 : (Cond.methodLink "LetterSchoolModel" 411 ⟨"LetterSchoolModel", "look", "()V"⟩) ∈ gW := tin_6 (List.mem_of_getElem? (i := 233) rfl) rfl
theorem gm_1506 : (Cond.instanceMethod ⟨"LetterSchoolModel", "look", "()V"⟩) ∈ gW := tin_6 (List.mem_of_getElem? (i := 235) rfl) rfl
theorem gm_1507 : (Cond.code ⟨"LetterSchoolModel", "look", "()V"⟩ prog_14_method_63_code 3 (Option.none : Option FieldType)) ∈ gW := tin_6 (List.mem_of_getElem? (i := 236) rfl) rfl
theorem gm_1508 : (Cond.methodLink "LetterSchoolModel" 417 ⟨"LetterSchoolModel", "step", "()Z"⟩) ∈ gW := tin_6 (List.mem_of_getElem? (i := 237) rfl) rfl
theorem gm_1510 : (Cond.instanceMethod ⟨"LetterSchoolModel", "step", "()Z"⟩) ∈ gW := tin_6 (List.mem_of_getElem? (i := 239) rfl) rfl
theorem gm_1511 : (Cond.code ⟨"LetterSchoolModel", "step", "()Z"⟩ prog_14_method_64_code 2 (Option.some FieldType.boolean)) ∈ gW := tin_7 (List.mem_of_getElem? (i := 0) rfl) rfl
theorem gm_1512 : (Cond.methodLink "LetterSchoolLaw" 128 ⟨"LetterSchoolModel", "shareOf", "(II)I"⟩) ∈ gW := tin_7 (List.mem_of_getElem? (i := 1) rfl) rfl
theorem gm_1513 : (Cond.instanceMethod ⟨"LetterSchoolModel", "shareOf", "(II)I"⟩) ∈ gW := tin_7 (List.mem_of_getElem? (i := 2) rfl) rfl
theorem gm_1514 : (Cond.selects "LetterSchoolModel" ⟨"LetterSchoolModel", "shareOf", "(II)I"⟩ ⟨"LetterSchoolModel", "shareOf", "(II)I"⟩) ∈ gW := tin_7 (List.mem_of_getElem? (i := 3) rfl) rfl
theorem gm_1515 : (Cond.code ⟨"LetterSchoolModel", "shareOf", "(II)I"⟩ prog_14_method_67_code 5 (Option.some FieldType.int)) ∈ gW := tin_7 (List.mem_of_getElem? (i := 4) rfl) rfl
theorem gm_1516 : (Cond.methodLink "LetterSchoolLaw" 132 ⟨"LetterSchoolModel", "offset", "(III)I"⟩) ∈ gW := tin_7 (List.mem_of_getElem? (i := 5) rfl) rfl
theorem gm_1517 : (Cond.instanceMethod ⟨"LetterSchoolModel", "offset", "(III)I"⟩) ∈ gW := tin_7 (List.mem_of_getElem? (i := 6) rfl) rfl
theorem gm_1518 : (Cond.selects "LetterSchoolModel" ⟨"LetterSchoolModel", "offset", "(III)I"⟩ ⟨"LetterSchoolModel", "offset", "(III)I"⟩) ∈ gW := tin_7 (List.mem_of_getElem? (i := 7) rfl) rfl
theorem gm_1519 : (Cond.code ⟨"LetterSchoolModel", "offset", "(III)I"⟩ prog_14_method_68_code 12 (Option.some FieldType.int)) ∈ gW := tin_7 (List.mem_of_getElem? (i := 8) rfl) rfl
theorem gm_1520 : (Cond.methodLink "LetterSchoolLaw" 136 ⟨"LetterSchoolModel", "key", "(III)I"⟩) ∈ gW := tin_7 (List.mem_of_getElem? (i := 9) rfl) rfl
theorem gm_1521 : (Cond.instanceMethod ⟨"LetterSchoolModel", "key", "(III)I"⟩) ∈ gW := tin_7 (List.mem_of_getElem? (i := 10) rfl) rfl
theorem gm_1522 : (Cond.selects "LetterSchoolModel" ⟨"LetterSchoolModel", "key", "(III)I"⟩ ⟨"LetterSchoolModel", "key", "(III)I"⟩) ∈ gW := tin_7 (List.mem_of_getElem? (i := 11) rfl) rfl
theorem gm_1523 : (Cond.code ⟨"LetterSchoolModel", "key", "(III)I"⟩ prog_14_method_69_code 5 (Option.some FieldType.int)) ∈ gW := tin_7 (List.mem_of_getElem? (i := 12) rfl) rfl
theorem gm_1524 : (Cond.constantLong "LetterSchoolModel" 424 39) ∈ gW := tin_7 (List.mem_of_getElem? (i := 13) rfl) rfl
theorem gm_1525 : (Cond.constantLong "LetterSchoolModel" 426 19) ∈ gW := tin_7 (List.mem_of_getElem? (i := 14) rfl) rfl
theorem gm_1526 : (Cond.constantLong "LetterSchoolModel" 428 4) ∈ gW := tin_7 (List.mem_of_getElem? (i := 15) rfl) rfl
theorem gm_1527 : (Cond.methodLink "LetterSchoolLaw" 140 ⟨"LetterSchoolModel", "choose", "(III)I"⟩) ∈ gW := tin_7 (List.mem_of_getElem? (i := 16) rfl) rfl
theorem gm_1528 : (Cond.instanceMethod ⟨"LetterSchoolModel", "choose", "(III)I"⟩) ∈ gW := tin_7 (List.mem_of_getElem? (i := 17) rfl) rfl
theorem gm_1529 : (Cond.selects "LetterSchoolModel" ⟨"LetterSchoolModel", "choose", "(III)I"⟩ ⟨"LetterSchoolModel", "choose", "(III)I"⟩) ∈ gW := tin_7 (List.mem_of_getElem? (i := 18) rfl) rfl
theorem gm_1530 : (Cond.code ⟨"LetterSchoolModel", "choose", "(III)I"⟩ prog_14_method_70_code 5 (Option.some FieldType.int)) ∈ gW := tin_7 (List.mem_of_getElem? (i := 19) rfl) rfl
theorem gm_1531 : (Cond.methodLink "LetterSchoolLaw" 144 ⟨"LetterSchoolModel", "like", "(II)I"⟩) ∈ gW := tin_7 (List.mem_of_getElem? (i := 20) rfl) rfl
theorem gm_1532 : (Cond.instanceMethod ⟨"LetterSchoolModel", "like", "(II)I"⟩) ∈ gW := tin_7 (List.mem_of_getElem? (i := 21) rfl) rfl
theorem gm_1533 : (Cond.selects "LetterSchoolModel" ⟨"LetterSchoolModel", "like", "(II)I"⟩ ⟨"LetterSchoolModel", "like", "(II)I"⟩) ∈ gW := tin_7 (List.mem_of_getElem? (i := 22) rfl) rfl
theorem gm_1534 : (Cond.code ⟨"LetterSchoolModel", "like", "(II)I"⟩ prog_14_method_72_code 3 (Option.some FieldType.int)) ∈ gW := tin_7 (List.mem_of_getElem? (i := 23) rfl) rfl
theorem gm_1535 : (Cond.methodLink "LetterSchoolModel" 430 ⟨"LetterSchoolModel", "likeOf", "(II)I"⟩) ∈ gW := tin_7 (List.mem_of_getElem? (i := 24) rfl) rfl
theorem gm_1537 : (Cond.instanceMethod ⟨"LetterSchoolModel", "likeOf", "(II)I"⟩) ∈ gW := tin_7 (List.mem_of_getElem? (i := 26) rfl) rfl
theorem gm_1538 : (Cond.code ⟨"LetterSchoolModel", "likeOf", "(II)I"⟩ prog_14_method_71_code 6 (Option.some FieldType.int)) ∈ gW := tin_7 (List.mem_of_getElem? (i := 27) rfl) rfl
theorem gm_1539 : (Cond.methodLink "LetterSchoolLaw" 148 ⟨"LetterSchoolModel", "limit", "(I)I"⟩) ∈ gW := tin_7 (List.mem_of_getElem? (i := 28) rfl) rfl
theorem gm_1540 : (Cond.instanceMethod ⟨"LetterSchoolModel", "limit", "(I)I"⟩) ∈ gW := tin_7 (List.mem_of_getElem? (i := 29) rfl) rfl
theorem gm_1541 : (Cond.selects "LetterSchoolModel" ⟨"LetterSchoolModel", "limit", "(I)I"⟩ ⟨"LetterSchoolModel", "limit", "(I)I"⟩) ∈ gW := tin_7 (List.mem_of_getElem? (i := 30) rfl) rfl
theorem gm_1542 : (Cond.code ⟨"LetterSchoolModel", "limit", "(I)I"⟩ prog_14_method_73_code 3 (Option.some FieldType.int)) ∈ gW := tin_7 (List.mem_of_getElem? (i := 31) rfl) rfl
theorem gm_1543 : (Cond.methodLink "LetterSchoolLaw" 152 ⟨"LetterSchoolModel", "doubted", "(I)I"⟩) ∈ gW := tin_7 (List.mem_of_getElem? (i := 32) rfl) rfl
theorem gm_1544 : (Cond.instanceMethod ⟨"LetterSchoolModel", "doubted", "(I)I"⟩) ∈ gW := tin_7 (List.mem_of_getElem? (i := 33) rfl) rfl
theorem gm_1545 : (Cond.selects "LetterSchoolModel" ⟨"LetterSchoolModel", "doubted", "(I)I"⟩ ⟨"LetterSchoolModel", "doubted", "(I)I"⟩) ∈ gW := tin_7 (List.mem_of_getElem? (i := 34) rfl) rfl
theorem gm_1546 : (Cond.code ⟨"LetterSchoolModel", "doubted", "(I)I"⟩ prog_14_method_74_code 5 (Option.some FieldType.int)) ∈ gW := tin_7 (List.mem_of_getElem? (i := 35) rfl) rfl
theorem gm_1547 : (Cond.methodLink "LetterSchoolLaw" 156 ⟨"LetterSchoolModel", "fees", "(I)I"⟩) ∈ gW := tin_7 (List.mem_of_getElem? (i := 36) rfl) rfl
theorem gm_1548 : (Cond.instanceMethod ⟨"LetterSchoolModel", "fees", "(I)I"⟩) ∈ gW := tin_7 (List.mem_of_getElem? (i := 37) rfl) rfl
theorem gm_1549 : (Cond.selects "LetterSchoolModel" ⟨"LetterSchoolModel", "fees", "(I)I"⟩ ⟨"LetterSchoolModel", "fees", "(I)I"⟩) ∈ gW := tin_7 (List.mem_of_getElem? (i := 38) rfl) rfl
theorem gm_1550 : (Cond.code ⟨"LetterSchoolModel", "fees", "(I)I"⟩ prog_14_method_76_code 4 (Option.some FieldType.int)) ∈ gW := tin_7 (List.mem_of_getElem? (i := 39) rfl) rfl
theorem gm_1551 : (Cond.methodLink "LetterSchoolModel" 434 ⟨"LetterSchoolModel", "readFees", "()I"⟩) ∈ gW := tin_7 (List.mem_of_getElem? (i := 40) rfl) rfl
theorem gm_1553 : (Cond.instanceMethod ⟨"LetterSchoolModel", "readFees", "()I"⟩) ∈ gW := tin_7 (List.mem_of_getElem? (i := 42) rfl) rfl
theorem gm_1554 : (Cond.code ⟨"LetterSchoolModel", "readFees", "()I"⟩ prog_14_method_75_code 4 (Option.some FieldType.int)) ∈ gW := tin_7 (List.mem_of_getElem? (i := 43) rfl) rfl
theorem gm_1555 : (Cond.constant "LetterSchoolModel" 433 99999) ∈ gW := tin_7 (List.mem_of_getElem? (i := 44) rfl) rfl
theorem gm_1556 : (Cond.methodLink "LetterSchoolLaw" 160 ⟨"LetterSchoolModel", "pay", "(III)I"⟩) ∈ gW := tin_7 (List.mem_of_getElem? (i := 45) rfl) rfl
theorem gm_1557 : (Cond.instanceMethod ⟨"LetterSchoolModel", "pay", "(III)I"⟩) ∈ gW := tin_7 (List.mem_of_getElem? (i := 46) rfl) rfl
theorem gm_1558 : (Cond.selects "LetterSchoolModel" ⟨"LetterSchoolModel", "pay", "(III)I"⟩ ⟨"LetterSchoolModel", "pay", "(III)I"⟩) ∈ gW := tin_7 (List.mem_of_getElem? (i := 47) rfl) rfl
theorem gm_1559 : (Cond.code ⟨"LetterSchoolModel", "pay", "(III)I"⟩ prog_14_method_77_code 4 (Option.some FieldType.int)) ∈ gW := tin_7 (List.mem_of_getElem? (i := 48) rfl) rfl
theorem gm_1560 : (Cond.constantLong "LetterSchoolModel" 437 99999) ∈ gW := tin_7 (List.mem_of_getElem? (i := 49) rfl) rfl
theorem gm_1561 : (Cond.methodLink "LetterSchoolLaw" 164 ⟨"LetterSchoolModel", "due", "(II)I"⟩) ∈ gW := tin_7 (List.mem_of_getElem? (i := 50) rfl) rfl
theorem gm_1562 : (Cond.instanceMethod ⟨"LetterSchoolModel", "due", "(II)I"⟩) ∈ gW := tin_7 (List.mem_of_getElem? (i := 51) rfl) rfl
theorem gm_1563 : (Cond.selects "LetterSchoolModel" ⟨"LetterSchoolModel", "due", "(II)I"⟩ ⟨"LetterSchoolModel", "due", "(II)I"⟩) ∈ gW := tin_7 (List.mem_of_getElem? (i := 52) rfl) rfl
theorem gm_1564 : (Cond.code ⟨"LetterSchoolModel", "due", "(II)I"⟩ prog_14_method_79_code 7 (Option.some FieldType.int)) ∈ gW := tin_7 (List.mem_of_getElem? (i := 53) rfl) rfl
theorem gm_1565 : (Cond.methodLink "LetterSchoolModel" 439 ⟨"LetterSchoolModel", "paidBy", "(II)J"⟩) ∈ gW := tin_7 (List.mem_of_getElem? (i := 54) rfl) rfl
theorem gm_1567 : (Cond.instanceMethod ⟨"LetterSchoolModel", "paidBy", "(II)J"⟩) ∈ gW := tin_7 (List.mem_of_getElem? (i := 56) rfl) rfl
theorem gm_1568 : (Cond.code ⟨"LetterSchoolModel", "paidBy", "(II)J"⟩ prog_14_method_78_code 6 (Option.some FieldType.long)) ∈ gW := tin_7 (List.mem_of_getElem? (i := 57) rfl) rfl
theorem gm_1569 : (Cond.methodLink "LetterSchoolLaw" 168 ⟨"LetterSchoolModel", "leave", "(II)I"⟩) ∈ gW := tin_7 (List.mem_of_getElem? (i := 58) rfl) rfl
theorem gm_1570 : (Cond.instanceMethod ⟨"LetterSchoolModel", "leave", "(II)I"⟩) ∈ gW := tin_7 (List.mem_of_getElem? (i := 59) rfl) rfl
theorem gm_1571 : (Cond.selects "LetterSchoolModel" ⟨"LetterSchoolModel", "leave", "(II)I"⟩ ⟨"LetterSchoolModel", "leave", "(II)I"⟩) ∈ gW := tin_7 (List.mem_of_getElem? (i := 60) rfl) rfl
theorem gm_1572 : (Cond.code ⟨"LetterSchoolModel", "leave", "(II)I"⟩ prog_14_method_80_code 5 (Option.some FieldType.int)) ∈ gW := tin_7 (List.mem_of_getElem? (i := 61) rfl) rfl
theorem gm_1573 : (Cond.methodLink "LetterSchoolLaw" 172 ⟨"LetterSchoolModel", "move", "(III)I"⟩) ∈ gW := tin_7 (List.mem_of_getElem? (i := 62) rfl) rfl
theorem gm_1574 : (Cond.instanceMethod ⟨"LetterSchoolModel", "move", "(III)I"⟩) ∈ gW := tin_7 (List.mem_of_getElem? (i := 63) rfl) rfl
theorem gm_1575 : (Cond.selects "LetterSchoolModel" ⟨"LetterSchoolModel", "move", "(III)I"⟩ ⟨"LetterSchoolModel", "move", "(III)I"⟩) ∈ gW := tin_7 (List.mem_of_getElem? (i := 64) rfl) rfl
theorem gm_1576 : (Cond.code ⟨"LetterSchoolModel", "move", "(III)I"⟩ prog_14_method_81_code 5 (Option.some FieldType.int)) ∈ gW := tin_7 (List.mem_of_getElem? (i := 65) rfl) rfl
theorem gm_1577 : (Cond.methodLink "LetterSchoolLaw" 176 ⟨"LetterSchoolModel", "sheet", "(III)I"⟩) ∈ gW := tin_7 (List.mem_of_getElem? (i := 66) rfl) rfl
theorem gm_1578 : (Cond.instanceMethod ⟨"LetterSchoolModel", "sheet", "(III)I"⟩) ∈ gW := tin_7 (List.mem_of_getElem? (i := 67) rfl) rfl
theorem gm_1579 : (Cond.selects "LetterSchoolModel" ⟨"LetterSchoolModel", "sheet", "(III)I"⟩ ⟨"LetterSchoolModel", "sheet", "(III)I"⟩) ∈ gW := tin_7 (List.mem_of_getElem? (i := 68) rfl) rfl
theorem gm_1580 : (Cond.code ⟨"LetterSchoolModel", "sheet", "(III)I"⟩ prog_14_method_83_code 5 (Option.some FieldType.int)) ∈ gW := tin_7 (List.mem_of_getElem? (i := 69) rfl) rfl
theorem gm_1581 : (Cond.methodLink "LetterSchoolModel" 443 ⟨"LetterSchoolModel", "isSheet", "(II)Z"⟩) ∈ gW := tin_7 (List.mem_of_getElem? (i := 70) rfl) rfl
theorem gm_1582 : (Cond.static ⟨"LetterSchoolModel", "isSheet", "(II)Z"⟩) ∈ gW := tin_7 (List.mem_of_getElem? (i := 71) rfl) rfl
theorem gm_1583 : (Cond.code ⟨"LetterSchoolModel", "isSheet", "(II)Z"⟩ prog_14_method_82_code 2 (Option.some FieldType.boolean)) ∈ gW := tin_7 (List.mem_of_getElem? (i := 72) rfl) rfl
theorem gm_1584 : (Cond.methodLink "LetterSchoolLaw" 180 ⟨"LetterSchoolModel", "drop", "(I)I"⟩) ∈ gW := tin_7 (List.mem_of_getElem? (i := 73) rfl) rfl
theorem gm_1585 : (Cond.instanceMethod ⟨"LetterSchoolModel", "drop", "(I)I"⟩) ∈ gW := tin_7 (List.mem_of_getElem? (i := 74) rfl) rfl
theorem gm_1586 : (Cond.selects "LetterSchoolModel" ⟨"LetterSchoolModel", "drop", "(I)I"⟩ ⟨"LetterSchoolModel", "drop", "(I)I"⟩) ∈ gW := tin_7 (List.mem_of_getElem? (i := 75) rfl) rfl
theorem gm_1587 : (Cond.code ⟨"LetterSchoolModel", "drop", "(I)I"⟩ prog_14_method_84_code 2 (Option.some FieldType.int)) ∈ gW := tin_7 (List.mem_of_getElem? (i := 76) rfl) rfl
theorem gm_1588 : (Cond.methodLink "LetterSchoolLaw" 184 ⟨"LetterSchoolModel", "item", "(IIII)I"⟩) ∈ gW := tin_7 (List.mem_of_getElem? (i := 77) rfl) rfl
theorem gm_1589 : (Cond.instanceMethod ⟨"LetterSchoolModel", "item", "(IIII)I"⟩) ∈ gW := tin_7 (List.mem_of_getElem? (i := 78) rfl) rfl
theorem gm_1590 : (Cond.selects "LetterSchoolModel" ⟨"LetterSchoolModel", "item", "(IIII)I"⟩ ⟨"LetterSchoolModel", "item", "(IIII)I"⟩) ∈ gW := tin_7 (List.mem_of_getElem? (i := 79) rfl) rfl
theorem gm_1591 : (Cond.code ⟨"LetterSchoolModel", "item", "(IIII)I"⟩ prog_14_method_86_code 6 (Option.some FieldType.int)) ∈ gW := tin_7 (List.mem_of_getElem? (i := 80) rfl) rfl
theorem gm_1592 : (Cond.methodLink "LetterSchoolModel" 446 ⟨"LetterSchoolModel", "against", "(IIII)I"⟩) ∈ gW := tin_7 (List.mem_of_getElem? (i := 81) rfl) rfl
theorem gm_1594 : (Cond.instanceMethod ⟨"LetterSchoolModel", "against", "(IIII)I"⟩) ∈ gW := tin_7 (List.mem_of_getElem? (i := 83) rfl) rfl
theorem gm_1595 : (Cond.code ⟨"LetterSchoolModel", "against", "(IIII)I"⟩ prog_14_method_85_code 5 (Option.some FieldType.int)) ∈ gW := tin_7 (List.mem_of_getElem? (i := 84) rfl) rfl
theorem gm_1596 : (Cond.methodLink "LetterSchoolLaw" 188 ⟨"LetterSchoolModel", "choices", "(IIIII)I"⟩) ∈ gW := tin_7 (List.mem_of_getElem? (i := 85) rfl) rfl
theorem gm_1597 : (Cond.instanceMethod ⟨"LetterSchoolModel", "choices", "(IIIII)I"⟩) ∈ gW := tin_7 (List.mem_of_getElem? (i := 86) rfl) rfl
theorem gm_1598 : (Cond.selects "LetterSchoolModel" ⟨"LetterSchoolModel", "choices", "(IIIII)I"⟩ ⟨"LetterSchoolModel", "choices", "(IIIII)I"⟩) ∈ gW := tin_7 (List.mem_of_getElem? (i := 87) rfl) rfl
theorem gm_1599 : (Cond.code ⟨"LetterSchoolModel", "choices", "(IIIII)I"⟩ prog_14_method_87_code 9 (Option.some FieldType.int)) ∈ gW := tin_7 (List.mem_of_getElem? (i := 88) rfl) rfl
theorem gm_1600 : (Cond.constantLong "LetterSchoolModel" 450 20) ∈ gW := tin_7 (List.mem_of_getElem? (i := 89) rfl) rfl
theorem gm_1601 : (Cond.constantLong "LetterSchoolLaw" 13 4294967295) ∈ gW := tin_7 (List.mem_of_getElem? (i := 90) rfl) rfl
def nW : List Cond := [(Cond.methodLinkNest "LetterSchool" 9 ⟨"LetterSchool$Tape", "<init>", "()V"⟩ "LetterSchool"), (Cond.fieldLinkNest "LetterSchool" 115 "LetterSchool$Tape" "length" "I" "LetterSchool"), (Cond.fieldLinkNest "LetterSchool" 138 "LetterSchool$Tape" "place" "I" "LetterSchool"), (Cond.methodLinkNest "LetterSchool" 32 ⟨"LetterSchool$Edition", "<init>", "()V"⟩ "LetterSchool"), (Cond.fieldLinkNest "LetterSchool" 141 "LetterSchool$Edition" "from" "I" "LetterSchool"), (Cond.fieldLinkNest "LetterSchool" 148 "LetterSchool$Edition" "lessons" "I" "LetterSchool"), (Cond.fieldLinkNest "LetterSchool" 159 "LetterSchool$Edition" "name" "[I" "LetterSchool"), (Cond.fieldLinkNest "LetterSchool" 162 "LetterSchool$Edition" "pass" "[I" "LetterSchool"), (Cond.fieldLinkNest "LetterSchool" 165 "LetterSchool$Edition" "stands" "[I" "LetterSchool"), (Cond.methodLinkNest "LetterSchool" 37 ⟨"LetterSchool$Fees", "<init>", "()V"⟩ "LetterSchool"), (Cond.fieldLinkNest "LetterSchool$Tape" 88 "LetterSchool$Fees" "count" "I" "LetterSchool"), (Cond.fieldLinkNest "LetterSchool" 373 "LetterSchool$Fees" "count" "I" "LetterSchool"), (Cond.methodLinkNest "LetterSchool" 78 ⟨"LetterSchool$Ledger", "<init>", "()V"⟩ "LetterSchool"), (Cond.methodLinkNest "LetterSchool" 98 ⟨"LetterSchool$Sharing", "<init>", "()V"⟩ "LetterSchool"), (Cond.fieldLinkNest "LetterSchool" 335 "LetterSchool$Sharing" "mostGiven" "I" "LetterSchool"), (Cond.fieldLinkNest "LetterSchool" 338 "LetterSchool$Sharing" "leastDays" "I" "LetterSchool"), (Cond.methodLinkNest "LetterSchool" 105 ⟨"LetterSchool$Way", "<init>", "()V"⟩ "LetterSchool"), (Cond.methodLinkNest "LetterSchool" 113 ⟨"LetterSchool$Post", "<init>", "()V"⟩ "LetterSchool"), (Cond.fieldLinkNest "LetterSchool" 220 "LetterSchool$Post" "days" "I" "LetterSchool"), (Cond.fieldLinkNest "LetterSchool" 223 "LetterSchool$Post" "each" "I" "LetterSchool"), (Cond.fieldLinkNest "LetterSchool" 226 "LetterSchool$Post" "carried" "I" "LetterSchool"), (Cond.methodLinkNest "LetterSchool" 114 ⟨"LetterSchool$Sheet", "<init>", "()V"⟩ "LetterSchool"), (Cond.fieldLinkNest "LetterSchool" 394 "LetterSchool$Sheet" "lane" "I" "LetterSchool"), (Cond.fieldLinkNest "LetterSchool" 397 "LetterSchool$Sheet" "size" "I" "LetterSchool"), (Cond.fieldLinkNest "LetterSchool" 406 "LetterSchool$Sheet" "items" "[I" "LetterSchool"), (Cond.methodLinkNest "LetterSchool$Tape" 52 ⟨"LetterSchool", "isIn", "(II)Z"⟩ "LetterSchool"), (Cond.methodLinkNest "LetterSchool$Edition" 43 ⟨"LetterSchool", "isIn", "(II)Z"⟩ "LetterSchool"), (Cond.fieldLinkNest "LetterSchool" 179 "LetterSchool$Pupil" "place" "I" "LetterSchool"), (Cond.fieldLinkNest "LetterSchool" 186 "LetterSchool$Pupil" "begin" "I" "LetterSchool"), (Cond.fieldLinkNest "LetterSchool" 180 "LetterSchool$Pupil" "course" "I" "LetterSchool"), (Cond.fieldLinkNest "LetterSchool" 183 "LetterSchool$Pupil" "edition" "I" "LetterSchool"), (Cond.fieldLinkNest "LetterSchool" 198 "LetterSchool$Pupil" "taught" "LLetterSchool$Edition;" "LetterSchool"), (Cond.fieldLinkNest "LetterSchool" 189 "LetterSchool$Pupil" "habit" "I" "LetterSchool"), (Cond.fieldLinkNest "LetterSchool" 192 "LetterSchool$Pupil" "left" "I" "LetterSchool"), (Cond.fieldLinkNest "LetterSchool$Tutor" 27 "LetterSchool$Thing" "pupil" "I" "LetterSchool"), (Cond.fieldLinkNest "LetterSchool" 246 "LetterSchool$Thing" "pupil" "I" "LetterSchool"), (Cond.fieldLinkNest "LetterSchool$Tutor" 22 "LetterSchool$Thing" "name" "I" "LetterSchool"), (Cond.fieldLinkNest "LetterSchool" 305 "LetterSchool$Thing" "name" "I" "LetterSchool"), (Cond.fieldLinkNest "LetterSchool" 307 "LetterSchool$Thing" "lesson" "I" "LetterSchool"), (Cond.fieldLinkNest "LetterSchool" 329 "LetterSchool$Thing" "firstSent" "I" "LetterSchool"), (Cond.fieldLinkNest "LetterSchool" 355 "LetterSchool$Thing" "choices" "[B" "LetterSchool"), (Cond.fieldLinkNest "LetterSchool" 243 "LetterSchool$Thing" "kind" "I" "LetterSchool"), (Cond.fieldLinkNest "LetterSchool" 310 "LetterSchool$Thing" "sent" "I" "LetterSchool"), (Cond.fieldLinkNest "LetterSchool" 249 "LetterSchool$Thing" "comes" "I" "LetterSchool"), (Cond.fieldLinkNest "LetterSchool" 270 "LetterSchool$Thing" "tutor" "I" "LetterSchool"), (Cond.fieldLinkNest "LetterSchool" 273 "LetterSchool$Thing" "given" "I" "LetterSchool"), (Cond.fieldLinkNest "LetterSchool" 296 "LetterSchool$Thing" "again" "I" "LetterSchool"), (Cond.fieldLinkNest "LetterSchool" 290 "LetterSchool$Thing" "marks" "I" "LetterSchool"), (Cond.fieldLinkNest "LetterSchool" 293 "LetterSchool$Thing" "marked" "I" "LetterSchool"), (Cond.fieldLinkNest "LetterSchool" 299 "LetterSchool$Thing" "secondTutor" "I" "LetterSchool"), (Cond.fieldLinkNest "LetterSchool" 302 "LetterSchool$Thing" "secondMarks" "I" "LetterSchool"), (Cond.fieldLinkNest "LetterSchool$Sharing" 53 "LetterSchool$Tutor" "pace" "I" "LetterSchool"), (Cond.fieldLinkNest "LetterSchool" 323 "LetterSchool$Tutor" "pace" "I" "LetterSchool"), (Cond.fieldLinkNest "LetterSchool" 320 "LetterSchool$Tutor" "kin" "I" "LetterSchool"), (Cond.fieldLinkNest "LetterSchool$Sharing" 49 "LetterSchool$Tutor" "load" "I" "LetterSchool"), (Cond.fieldLinkNest "LetterSchool" 267 "LetterSchool$Tutor" "load" "I" "LetterSchool"), (Cond.methodLinkNest "LetterSchool$Sharing" 66 ⟨"LetterSchool", "cutUp", "(II)I"⟩ "LetterSchool")]
theorem nW_in : ∀ w ∈ nW, w ∈ lw_tbl := List.forall_mem_cons.mpr ⟨tbl_1 (List.mem_of_getElem? (i := 28) rfl), List.forall_mem_cons.mpr ⟨tbl_1 (List.mem_of_getElem? (i := 34) rfl), List.forall_mem_cons.mpr ⟨tbl_1 (List.mem_of_getElem? (i := 36) rfl), List.forall_mem_cons.mpr ⟨tbl_1 (List.mem_of_getElem? (i := 50) rfl), List.forall_mem_cons.mpr ⟨tbl_1 (List.mem_of_getElem? (i := 55) rfl), List.forall_mem_cons.mpr ⟨tbl_1 (List.mem_of_getElem? (i := 57) rfl), List.forall_mem_cons.mpr ⟨tbl_1 (List.mem_of_getElem? (i := 59) rfl), List.forall_mem_cons.mpr ⟨tbl_1 (List.mem_of_getElem? (i := 61) rfl), List.forall_mem_cons.mpr ⟨tbl_1 (List.mem_of_getElem? (i := 63) rfl), List.forall_mem_cons.mpr ⟨tbl_1 (List.mem_of_getElem? (i := 90) rfl), List.forall_mem_cons.mpr ⟨tbl_1 (List.mem_of_getElem? (i := 95) rfl), List.forall_mem_cons.mpr ⟨tbl_1 (List.mem_of_getElem? (i := 96) rfl), List.forall_mem_cons.mpr ⟨tbl_1 (List.mem_of_getElem? (i := 120) rfl), List.forall_mem_cons.mpr ⟨tbl_1 (List.mem_of_getElem? (i := 141) rfl), List.forall_mem_cons.mpr ⟨tbl_1 (List.mem_of_getElem? (i := 156) rfl), List.forall_mem_cons.mpr ⟨tbl_1 (List.mem_of_getElem? (i := 158) rfl), List.forall_mem_cons.mpr ⟨tbl_1 (List.mem_of_getElem? (i := 186) rfl), List.forall_mem_cons.mpr ⟨tbl_1 (List.mem_of_getElem? (i := 201) rfl), List.forall_mem_cons.mpr ⟨tbl_1 (List.mem_of_getElem? (i := 206) rfl), List.forall_mem_cons.mpr ⟨tbl_1 (List.mem_of_getElem? (i := 208) rfl), List.forall_mem_cons.mpr ⟨tbl_1 (List.mem_of_getElem? (i := 210) rfl), List.forall_mem_cons.mpr ⟨tbl_1 (List.mem_of_getElem? (i := 219) rfl), List.forall_mem_cons.mpr ⟨tbl_1 (List.mem_of_getElem? (i := 224) rfl), List.forall_mem_cons.mpr ⟨tbl_1 (List.mem_of_getElem? (i := 226) rfl), List.forall_mem_cons.mpr ⟨tbl_1 (List.mem_of_getElem? (i := 228) rfl), List.forall_mem_cons.mpr ⟨tbl_2 (List.mem_of_getElem? (i := 99) rfl), List.forall_mem_cons.mpr ⟨tbl_2 (List.mem_of_getElem? (i := 104) rfl), List.forall_mem_cons.mpr ⟨tbl_2 (List.mem_of_getElem? (i := 182) rfl), List.forall_mem_cons.mpr ⟨tbl_2 (List.mem_of_getElem? (i := 184) rfl), List.forall_mem_cons.mpr ⟨tbl_2 (List.mem_of_getElem? (i := 186) rfl), List.forall_mem_cons.mpr ⟨tbl_2 (List.mem_of_getElem? (i := 188) rfl), List.forall_mem_cons.mpr ⟨tbl_2 (List.mem_of_getElem? (i := 190) rfl), List.forall_mem_cons.mpr ⟨tbl_2 (List.mem_of_getElem? (i := 192) rfl), List.forall_mem_cons.mpr ⟨tbl_2 (List.mem_of_getElem? (i := 194) rfl), List.forall_mem_cons.mpr ⟨tbl_3 (List.mem_of_getElem? (i := 68) rfl), List.forall_mem_cons.mpr ⟨tbl_3 (List.mem_of_getElem? (i := 69) rfl), List.forall_mem_cons.mpr ⟨tbl_3 (List.mem_of_getElem? (i := 71) rfl), List.forall_mem_cons.mpr ⟨tbl_3 (List.mem_of_getElem? (i := 72) rfl), List.forall_mem_cons.mpr ⟨tbl_3 (List.mem_of_getElem? (i := 74) rfl), List.forall_mem_cons.mpr ⟨tbl_3 (List.mem_of_getElem? (i := 76) rfl), List.forall_mem_cons.mpr ⟨tbl_3 (List.mem_of_getElem? (i := 78) rfl), List.forall_mem_cons.mpr ⟨tbl_3 (List.mem_of_getElem? (i := 80) rfl), List.forall_mem_cons.mpr ⟨tbl_3 (List.mem_of_getElem? (i := 82) rfl), List.forall_mem_cons.mpr ⟨tbl_3 (List.mem_of_getElem? (i := 84) rfl), List.forall_mem_cons.mpr ⟨tbl_3 (List.mem_of_getElem? (i := 86) rfl), List.forall_mem_cons.mpr ⟨tbl_3 (List.mem_of_getElem? (i := 88) rfl), List.forall_mem_cons.mpr ⟨tbl_3 (List.mem_of_getElem? (i := 90) rfl), List.forall_mem_cons.mpr ⟨tbl_3 (List.mem_of_getElem? (i := 92) rfl), List.forall_mem_cons.mpr ⟨tbl_3 (List.mem_of_getElem? (i := 94) rfl), List.forall_mem_cons.mpr ⟨tbl_3 (List.mem_of_getElem? (i := 96) rfl), List.forall_mem_cons.mpr ⟨tbl_3 (List.mem_of_getElem? (i := 98) rfl), List.forall_mem_cons.mpr ⟨tbl_3 (List.mem_of_getElem? (i := 219) rfl), List.forall_mem_cons.mpr ⟨tbl_3 (List.mem_of_getElem? (i := 220) rfl), List.forall_mem_cons.mpr ⟨tbl_3 (List.mem_of_getElem? (i := 222) rfl), List.forall_mem_cons.mpr ⟨tbl_3 (List.mem_of_getElem? (i := 224) rfl), List.forall_mem_cons.mpr ⟨tbl_3 (List.mem_of_getElem? (i := 225) rfl), List.forall_mem_cons.mpr ⟨tbl_4 (List.mem_of_getElem? (i := 50) rfl), fun _ h => absurd h List.not_mem_nil⟩⟩⟩⟩⟩⟩⟩⟩⟩⟩⟩⟩⟩⟩⟩⟩⟩⟩⟩⟩⟩⟩⟩⟩⟩⟩⟩⟩⟩⟩⟩⟩⟩⟩⟩⟩⟩⟩⟩⟩⟩⟩⟩⟩⟩⟩⟩⟩⟩⟩⟩⟩⟩⟩⟩⟩⟩
theorem ao_0 : (Cond.arrayOver (FieldType.object "LetterSchool$Edition")) ∈ lw_tbl := tbl_1 (List.mem_of_getElem? (i := 46) rfl)
theorem ao_1 : (Cond.arrayOver (FieldType.object "LetterSchool$Fees")) ∈ lw_tbl := tbl_1 (List.mem_of_getElem? (i := 48) rfl)
theorem ao_2 : (Cond.arrayOver (FieldType.object "LetterSchool$Pupil")) ∈ lw_tbl := tbl_1 (List.mem_of_getElem? (i := 111) rfl)
theorem ao_3 : (Cond.arrayOver (FieldType.object "LetterSchool$Tutor")) ∈ lw_tbl := tbl_1 (List.mem_of_getElem? (i := 113) rfl)
theorem ao_4 : (Cond.arrayOver (FieldType.object "LetterSchool$Thing")) ∈ lw_tbl := tbl_1 (List.mem_of_getElem? (i := 115) rfl)
theorem ao_5 : (Cond.arrayOver (FieldType.object "LetterSchool$Post")) ∈ lw_tbl := tbl_1 (List.mem_of_getElem? (i := 117) rfl)
theorem ao_6 : (Cond.arrayOver (FieldType.object "LetterSchool$Sheet")) ∈ lw_tbl := tbl_1 (List.mem_of_getElem? (i := 138) rfl)
theorem lyX0 : ∀ k, k < 9 → u_lay RX0 TX0 k ∈ gW := fun k hk => match k, hk with
  | 0, _ => gm_139
  | 1, _ => gm_141
  | 2, _ => gm_143
  | 3, _ => gm_145
  | 4, _ => gm_147
  | 5, _ => gm_149
  | 6, _ => gm_151
  | 7, _ => gm_153
  | 8, _ => gm_155
  | k + 9, h => absurd h (by omega)
theorem inX0 : ∀ w ∈ u_ws RX0 TX0 9, w ∈ gW := fun w hw => by
  obtain ⟨k, hk, rfl⟩ := List.mem_map.mp hw
  exact lyX0 k (List.mem_range.mp hk)
theorem lyX1 : ∀ k, k < 4 → u_lay RX1 TX1 k ∈ gW := fun k hk => match k, hk with
  | 0, _ => gm_171
  | 1, _ => gm_173
  | 2, _ => gm_175
  | 3, _ => gm_177
  | k + 4, h => absurd h (by omega)
theorem inX1 : ∀ w ∈ u_ws RX1 TX1 4, w ∈ gW := fun w hw => by
  obtain ⟨k, hk, rfl⟩ := List.mem_map.mp hw
  exact lyX1 k (List.mem_range.mp hk)
theorem lyX2 : ∀ k, k < 4 → u_lay RX2 TX2 k ∈ gW := fun k hk => match k, hk with
  | 0, _ => gm_199
  | 1, _ => gm_201
  | 2, _ => gm_203
  | 3, _ => gm_205
  | k + 4, h => absurd h (by omega)
theorem inX2 : ∀ w ∈ u_ws RX2 TX2 4, w ∈ gW := fun w hw => by
  obtain ⟨k, hk, rfl⟩ := List.mem_map.mp hw
  exact lyX2 k (List.mem_range.mp hk)
theorem lyX3 : ∀ k, k < 3 → u_lay RX3 TX3 k ∈ gW := fun k hk => match k, hk with
  | 0, _ => gm_282
  | 1, _ => gm_284
  | 2, _ => gm_286
  | k + 3, h => absurd h (by omega)
theorem inX3 : ∀ w ∈ u_ws RX3 TX3 3, w ∈ gW := fun w hw => by
  obtain ⟨k, hk, rfl⟩ := List.mem_map.mp hw
  exact lyX3 k (List.mem_range.mp hk)
theorem lyX4 : ∀ k, k < 7 → u_lay RX4 TX4 k ∈ gW := fun k hk => match k, hk with
  | 0, _ => gm_506
  | 1, _ => gm_508
  | 2, _ => gm_510
  | 3, _ => gm_512
  | 4, _ => gm_514
  | 5, _ => gm_516
  | 6, _ => gm_518
  | k + 7, h => absurd h (by omega)
theorem inX4 : ∀ w ∈ u_ws RX4 TX4 7, w ∈ gW := fun w hw => by
  obtain ⟨k, hk, rfl⟩ := List.mem_map.mp hw
  exact lyX4 k (List.mem_range.mp hk)
theorem lyX5 : ∀ k, k < 12 → u_lay RX5 TX5 k ∈ gW := fun k hk => match k, hk with
  | 0, _ => gm_230
  | 1, _ => gm_232
  | 2, _ => gm_234
  | 3, _ => gm_236
  | 4, _ => gm_238
  | 5, _ => gm_240
  | 6, _ => gm_242
  | 7, _ => gm_244
  | 8, _ => gm_246
  | 9, _ => gm_248
  | 10, _ => gm_250
  | 11, _ => gm_252
  | k + 12, h => absurd h (by omega)
theorem inX5 : ∀ w ∈ u_ws RX5 TX5 12, w ∈ gW := fun w hw => by
  obtain ⟨k, hk, rfl⟩ := List.mem_map.mp hw
  exact lyX5 k (List.mem_range.mp hk)
theorem lyX6 : ∀ k, k < 3 → u_lay RX6 TX6 k ∈ gW := fun k hk => match k, hk with
  | 0, _ => gm_300
  | 1, _ => gm_302
  | 2, _ => gm_304
  | k + 3, h => absurd h (by omega)
theorem inX6 : ∀ w ∈ u_ws RX6 TX6 3, w ∈ gW := fun w hw => by
  obtain ⟨k, hk, rfl⟩ := List.mem_map.mp hw
  exact lyX6 k (List.mem_range.mp hk)
theorem lyX7 : ∀ k, k < 3 → u_lay RX7 TX7 k ∈ gW := fun k hk => match k, hk with
  | 0, _ => gm_108
  | 1, _ => gm_110
  | 2, _ => gm_112
  | k + 3, h => absurd h (by omega)
theorem inX7 : ∀ w ∈ u_ws RX7 TX7 3, w ∈ gW := fun w hw => by
  obtain ⟨k, hk, rfl⟩ := List.mem_map.mp hw
  exact lyX7 k (List.mem_range.mp hk)
theorem lyX8 : ∀ k, k < 15 → u_lay RX8 TX8 k ∈ gW := fun k hk => match k, hk with
  | 0, _ => gm_650
  | 1, _ => gm_652
  | 2, _ => gm_654
  | 3, _ => gm_656
  | 4, _ => gm_658
  | 5, _ => gm_660
  | 6, _ => gm_662
  | 7, _ => gm_664
  | 8, _ => gm_666
  | 9, _ => gm_668
  | 10, _ => gm_670
  | 11, _ => gm_672
  | 12, _ => gm_674
  | 13, _ => gm_676
  | 14, _ => gm_678
  | k + 15, h => absurd h (by omega)
theorem inX8 : ∀ w ∈ u_ws RX8 TX8 15, w ∈ gW := fun w hw => by
  obtain ⟨k, hk, rfl⟩ := List.mem_map.mp hw
  exact lyX8 k (List.mem_range.mp hk)
theorem lyX9 : ∀ k, k < 4 → u_lay RX9 TX9 k ∈ gW := fun k hk => match k, hk with
  | 0, _ => gm_777
  | 1, _ => gm_779
  | 2, _ => gm_781
  | 3, _ => gm_783
  | k + 4, h => absurd h (by omega)
theorem inX9 : ∀ w ∈ u_ws RX9 TX9 4, w ∈ gW := fun w hw => by
  obtain ⟨k, hk, rfl⟩ := List.mem_map.mp hw
  exact lyX9 k (List.mem_range.mp hk)
theorem lyX10 : ∀ k, k < 3 → u_lay RX10 TX10 k ∈ gW := fun k hk => match k, hk with
  | 0, _ => gm_264
  | 1, _ => gm_266
  | 2, _ => gm_268
  | k + 3, h => absurd h (by omega)
theorem inX10 : ∀ w ∈ u_ws RX10 TX10 3, w ∈ gW := fun w hw => by
  obtain ⟨k, hk, rfl⟩ := List.mem_map.mp hw
  exact lyX10 k (List.mem_range.mp hk)
theorem lyX11 : ∀ k, k < 20 → u_lay RX11 TX11 k ∈ gW := fun k hk => match k, hk with
  | 0, _ => gm_327
  | 1, _ => gm_329
  | 2, _ => gm_331
  | 3, _ => gm_333
  | 4, _ => gm_335
  | 5, _ => gm_337
  | 6, _ => gm_339
  | 7, _ => gm_341
  | 8, _ => gm_343
  | 9, _ => gm_345
  | 10, _ => gm_347
  | 11, _ => gm_349
  | 12, _ => gm_351
  | 13, _ => gm_353
  | 14, _ => gm_355
  | 15, _ => gm_357
  | 16, _ => gm_359
  | 17, _ => gm_361
  | 18, _ => gm_363
  | 19, _ => gm_365
  | k + 20, h => absurd h (by omega)
theorem inX11 : ∀ w ∈ u_ws RX11 TX11 20, w ∈ gW := fun w hw => by
  obtain ⟨k, hk, rfl⟩ := List.mem_map.mp hw
  exact lyX11 k (List.mem_range.mp hk)
theorem lyX12 : ∀ k, k < 82 → u_lay RX12 TX12 k ∈ gW := fun k hk => match k, hk with
  | 0, _ => gm_1074
  | 1, _ => gm_1076
  | 2, _ => gm_1078
  | 3, _ => gm_1080
  | 4, _ => gm_1082
  | 5, _ => gm_1084
  | 6, _ => gm_1086
  | 7, _ => gm_1088
  | 8, _ => gm_1090
  | 9, _ => gm_1092
  | 10, _ => gm_1094
  | 11, _ => gm_1096
  | 12, _ => gm_1098
  | 13, _ => gm_1100
  | 14, _ => gm_1102
  | 15, _ => gm_1104
  | 16, _ => gm_1106
  | 17, _ => gm_1108
  | 18, _ => gm_1110
  | 19, _ => gm_1112
  | 20, _ => gm_1114
  | 21, _ => gm_1116
  | 22, _ => gm_1118
  | 23, _ => gm_1120
  | 24, _ => gm_1122
  | 25, _ => gm_1124
  | 26, _ => gm_1126
  | 27, _ => gm_1128
  | 28, _ => gm_1130
  | 29, _ => gm_1132
  | 30, _ => gm_1134
  | 31, _ => gm_1136
  | 32, _ => gm_1138
  | 33, _ => gm_1140
  | 34, _ => gm_1142
  | 35, _ => gm_1144
  | 36, _ => gm_1146
  | 37, _ => gm_1148
  | 38, _ => gm_1150
  | 39, _ => gm_1152
  | 40, _ => gm_1154
  | 41, _ => gm_1156
  | 42, _ => gm_1158
  | 43, _ => gm_1160
  | 44, _ => gm_1162
  | 45, _ => gm_1164
  | 46, _ => gm_1166
  | 47, _ => gm_1168
  | 48, _ => gm_1170
  | 49, _ => gm_1172
  | 50, _ => gm_1174
  | 51, _ => gm_1176
  | 52, _ => gm_1178
  | 53, _ => gm_1180
  | 54, _ => gm_1182
  | 55, _ => gm_1184
  | 56, _ => gm_1186
  | 57, _ => gm_1188
  | 58, _ => gm_1190
  | 59, _ => gm_1192
  | 60, _ => gm_1194
  | 61, _ => gm_1196
  | 62, _ => gm_1198
  | 63, _ => gm_1200
  | 64, _ => gm_1202
  | 65, _ => gm_1204
  | 66, _ => gm_1206
  | 67, _ => gm_1208
  | 68, _ => gm_1210
  | 69, _ => gm_1212
  | 70, _ => gm_1214
  | 71, _ => gm_1216
  | 72, _ => gm_1218
  | 73, _ => gm_1220
  | 74, _ => gm_1222
  | 75, _ => gm_1224
  | 76, _ => gm_1226
  | 77, _ => gm_1228
  | 78, _ => gm_1230
  | 79, _ => gm_1232
  | 80, _ => gm_1234
  | 81, _ => gm_1236
  | k + 82, h => absurd h (by omega)
theorem inX12 : ∀ w ∈ u_ws RX12 TX12 82, w ∈ gW := fun w hw => by
  obtain ⟨k, hk, rfl⟩ := List.mem_map.mp hw
  exact lyX12 k (List.mem_range.mp hk)
theorem gW_good {y : MethodName} {b : ByteArray} {n : Nat} {r : Option FieldType} {y' : MethodName} {b' : ByteArray} {n' : Nat} {r' : Option FieldType} (h : Cond.code y' b' n' r' ∈ gW) : GoodIn (Cond.code y b n r :: gW) (Cond.code y' b' n' r' :: gW) := by
  intro w hw
  have hg : w ∈ gW := by
    rcases List.mem_cons.mp hw with e | e
    · rw [e]; exact h
    · exact e
  exact ⟨List.mem_cons_of_mem _ hg, good_of_word (List.mem_filter.mp hg).2⟩
theorem gW_good0 {y' : MethodName} {b' : ByteArray} {n' : Nat} {r' : Option FieldType} (h : Cond.code y' b' n' r' ∈ gW) : GoodIn gW (Cond.code y' b' n' r' :: gW) := by
  intro w hw
  have hg : w ∈ gW := by
    rcases List.mem_cons.mp hw with e | e
    · rw [e]; exact h
    · exact e
  exact ⟨hg, good_of_word (List.mem_filter.mp hg).2⟩
