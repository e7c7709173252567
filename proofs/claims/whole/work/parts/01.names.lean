def RX0 : String := "TwoServes$Court"
def TX0 : u_T := fun k => match k with
  | 0 => ("TwoServes$Court", "code", "[I", true)
  | 1 => ("TwoServes$Court", "size", "I", false)
  | 2 => ("TwoServes$Court", "sums", "[I", true)
  | 3 => ("TwoServes$Court", "amounts", "[I", true)
  | 4 => ("TwoServes$Court", "ends", "[I", true)
  | _ => ("TwoServes$Court", "clauses", "I", false)
def tyX0 : Nat → FieldType := fun k => match k with
  | 0 => .array .int
  | 1 => .int
  | 2 => .array .int
  | 3 => .array .int
  | 4 => .array .int
  | _ => .int
theorem nmX0 : ∀ a, a < 6 → ∀ b, b < 6 → a ≠ b → (TX0 a).2.1 ≠ (TX0 b).2.1 := by decide +kernel
theorem tyX0_ok : ∀ k, k < 6 → parseFieldDescriptor (TX0 k).2.2.1 = some (tyX0 k) := by decide +kernel
abbrev cX0_init : ByteArray := prog_2_method_1_code
def yX0_init : MethodName := ⟨RX0, "<init>", "()V"⟩
abbrev cX0_testOf : ByteArray := prog_2_method_2_code
def yX0_testOf : MethodName := ⟨RX0, "testOf", "(III)I"⟩
abbrev cX0_clear : ByteArray := prog_2_method_3_code
def yX0_clear : MethodName := ⟨RX0, "clear", "()V"⟩
abbrev cX0_add : ByteArray := prog_2_method_4_code
def yX0_add : MethodName := ⟨RX0, "add", "(I)V"⟩
abbrev cX0_closeClause : ByteArray := prog_2_method_5_code
def yX0_closeClause : MethodName := ⟨RX0, "closeClause", "(II)V"⟩
abbrev cX0_together : ByteArray := prog_2_method_6_code
def yX0_together : MethodName := ⟨RX0, "together", "(I[I)I"⟩
abbrev cX0_holds : ByteArray := prog_2_method_7_code
def yX0_holds : MethodName := ⟨RX0, "holds", "(II[I)Z"⟩
abbrev cX0_passes : ByteArray := prog_2_method_8_code
def yX0_passes : MethodName := ⟨RX0, "passes", "(I[I)Z"⟩
def RX1 : String := "TwoServes$Daring"
def TX1 : u_T := fun k => match k with
  | 0 => ("TwoServes$Server", "kind", "I", true)
  | 1 => ("TwoServes$Server", "number", "I", true)
  | _ => ("TwoServes$Server", "v", "I", true)
def tyX1 : Nat → FieldType := fun k => match k with
  | 0 => .int
  | 1 => .int
  | _ => .int
theorem nmX1 : ∀ a, a < 3 → ∀ b, b < 3 → a ≠ b → (TX1 a).2.1 ≠ (TX1 b).2.1 := by decide +kernel
theorem tyX1_ok : ∀ k, k < 3 → parseFieldDescriptor (TX1 k).2.2.1 = some (tyX1 k) := by decide +kernel
abbrev cX1_init : ByteArray := prog_3_method_1_code
def yX1_init : MethodName := ⟨RX1, "<init>", "(III)V"⟩
abbrev cX1_second : ByteArray := prog_3_method_2_code
def yX1_second : MethodName := ⟨RX1, "second", "(LTwoServes$Situation;)I"⟩
abbrev cX1_strikes : ByteArray := prog_3_method_3_code
def yX1_strikes : MethodName := ⟨RX1, "strikes", "(ILjava/util/ArrayList;)I"⟩
def RX2 : String := "TwoServes$Read"
def TX2 : u_T := fun k => match k with
  | 0 => ("TwoServes$Server", "kind", "I", true)
  | 1 => ("TwoServes$Server", "number", "I", true)
  | _ => ("TwoServes$Server", "v", "I", true)
def tyX2 : Nat → FieldType := fun k => match k with
  | 0 => .int
  | 1 => .int
  | _ => .int
theorem nmX2 : ∀ a, a < 3 → ∀ b, b < 3 → a ≠ b → (TX2 a).2.1 ≠ (TX2 b).2.1 := by decide +kernel
theorem tyX2_ok : ∀ k, k < 3 → parseFieldDescriptor (TX2 k).2.2.1 = some (tyX2 k) := by decide +kernel
abbrev cX2_init : ByteArray := prog_4_method_1_code
def yX2_init : MethodName := ⟨RX2, "<init>", "(III)V"⟩
abbrev cX2_winsAgainst : ByteArray := prog_4_method_2_code
def yX2_winsAgainst : MethodName := ⟨RX2, "winsAgainst", "(I)I"⟩
abbrev cX2_tosses : ByteArray := prog_4_method_3_code
def yX2_tosses : MethodName := ⟨RX2, "tosses", "(ILjava/util/ArrayList;)I"⟩
abbrev cX2_strikes : ByteArray := prog_4_method_4_code
def yX2_strikes : MethodName := ⟨RX2, "strikes", "(ILjava/util/ArrayList;)I"⟩
def RX3 : String := "TwoServes$Server"
def TX3 : u_T := fun k => match k with
  | 0 => ("TwoServes$Server", "kind", "I", true)
  | 1 => ("TwoServes$Server", "number", "I", true)
  | _ => ("TwoServes$Server", "v", "I", true)
def tyX3 : Nat → FieldType := fun k => match k with
  | 0 => .int
  | 1 => .int
  | _ => .int
theorem nmX3 : ∀ a, a < 3 → ∀ b, b < 3 → a ≠ b → (TX3 a).2.1 ≠ (TX3 b).2.1 := by decide +kernel
theorem tyX3_ok : ∀ k, k < 3 → parseFieldDescriptor (TX3 k).2.2.1 = some (tyX3 k) := by decide +kernel
abbrev cX3_init : ByteArray := prog_5_method_1_code
def yX3_init : MethodName := ⟨RX3, "<init>", "(III)V"⟩
abbrev cX3_first : ByteArray := prog_5_method_2_code
def yX3_first : MethodName := ⟨RX3, "first", "(LTwoServes$Situation;)I"⟩
abbrev cX3_second : ByteArray := prog_5_method_3_code
def yX3_second : MethodName := ⟨RX3, "second", "(LTwoServes$Situation;)I"⟩
abbrev cX3_winsAgainst : ByteArray := prog_5_method_4_code
def yX3_winsAgainst : MethodName := ⟨RX3, "winsAgainst", "(I)I"⟩
abbrev cX3_tosses : ByteArray := prog_5_method_5_code
def yX3_tosses : MethodName := ⟨RX3, "tosses", "(ILjava/util/ArrayList;)I"⟩
abbrev cX3_strikes : ByteArray := prog_5_method_6_code
def yX3_strikes : MethodName := ⟨RX3, "strikes", "(ILjava/util/ArrayList;)I"⟩
abbrev cX3_tells : ByteArray := prog_5_method_7_code
def yX3_tells : MethodName := ⟨RX3, "tells", "(ILjava/util/ArrayList;)I"⟩
def RX4 : String := "TwoServes$Situation"
def TX4 : u_T := fun k => match k with
  | 0 => ("TwoServes$Situation", "servers", "[LTwoServes$Server;", true)
  | 1 => ("TwoServes$Situation", "hard", "[I", true)
  | 2 => ("TwoServes$Situation", "soft", "[I", true)
  | 3 => ("TwoServes$Situation", "served", "[I", true)
  | 4 => ("TwoServes$Situation", "rows", "[I", true)
  | 5 => ("TwoServes$Situation", "count", "I", false)
  | 6 => ("TwoServes$Situation", "won", "I", false)
  | 7 => ("TwoServes$Situation", "lost", "I", false)
  | 8 => ("TwoServes$Situation", "stance", "I", false)
  | 9 => ("TwoServes$Situation", "seen", "[I", true)
  | 10 => ("TwoServes$Situation", "seenCount", "I", false)
  | 11 => ("TwoServes$Situation", "bookServer", "[I", true)
  | 12 => ("TwoServes$Situation", "bookD", "[I", true)
  | 13 => ("TwoServes$Situation", "bookE", "[I", true)
  | 14 => ("TwoServes$Situation", "bookCount", "I", false)
  | 15 => ("TwoServes$Situation", "court", "LTwoServes$Court;", false)
  | _ => ("TwoServes$Situation", "letters", "[I", true)
def tyX4 : Nat → FieldType := fun k => match k with
  | 0 => .array (.object "TwoServes$Server")
  | 1 => .array .int
  | 2 => .array .int
  | 3 => .array .int
  | 4 => .array .int
  | 5 => .int
  | 6 => .int
  | 7 => .int
  | 8 => .int
  | 9 => .array .int
  | 10 => .int
  | 11 => .array .int
  | 12 => .array .int
  | 13 => .array .int
  | 14 => .int
  | 15 => .object "TwoServes$Court"
  | _ => .array .int
theorem nmX4 : ∀ a, a < 17 → ∀ b, b < 17 → a ≠ b → (TX4 a).2.1 ≠ (TX4 b).2.1 := by decide +kernel
theorem tyX4_ok : ∀ k, k < 17 → parseFieldDescriptor (TX4 k).2.2.1 = some (tyX4 k) := by decide +kernel
abbrev cX4_init : ByteArray := prog_6_method_1_code
def yX4_init : MethodName := ⟨RX4, "<init>", "()V"⟩
abbrev cX4_takeFrom : ByteArray := prog_6_method_2_code
def yX4_takeFrom : MethodName := ⟨RX4, "takeFrom", "(LTwoServes$Situation;)V"⟩
abbrev cX4_welcome : ByteArray := prog_6_method_3_code
def yX4_welcome : MethodName := ⟨RX4, "welcome", "(LTwoServes$Server;II)I"⟩
abbrev cX4_books : ByteArray := prog_6_method_4_code
def yX4_books : MethodName := ⟨RX4, "books", "(III)Z"⟩
abbrev cX4_hasSeen : ByteArray := prog_6_method_5_code
def yX4_hasSeen : MethodName := ⟨RX4, "hasSeen", "(I)Z"⟩
abbrev cX4_isOver : ByteArray := prog_6_method_6_code
def yX4_isOver : MethodName := ⟨RX4, "isOver", "()Z"⟩
abbrev cX4_inOf : ByteArray := prog_6_method_7_code
def yX4_inOf : MethodName := ⟨RX4, "inOf", "(LTwoServes$Server;I)I"⟩
abbrev cX4_winsOf : ByteArray := prog_6_method_8_code
def yX4_winsOf : MethodName := ⟨RX4, "winsOf", "(LTwoServes$Server;I)I"⟩
abbrev cX4_percent : ByteArray := prog_6_method_9_code
def yX4_percent : MethodName := ⟨RX4, "percent", "(I)I"⟩
abbrev cX4_lettersOf : ByteArray := prog_6_method_10_code
def yX4_lettersOf : MethodName := ⟨RX4, "lettersOf", "(LTwoServes$Server;I)[I"⟩
abbrev cX4_chanceBy : ByteArray := prog_6_method_11_code
def yX4_chanceBy : MethodName := ⟨RX4, "chanceBy", "(LTwoServes$Server;II)I"⟩
abbrev cX4_chanceOf : ByteArray := prog_6_method_12_code
def yX4_chanceOf : MethodName := ⟨RX4, "chanceOf", "(LTwoServes$Server;)I"⟩
abbrev cX4_faultsBy : ByteArray := prog_6_method_13_code
def yX4_faultsBy : MethodName := ⟨RX4, "faultsBy", "(LTwoServes$Server;II)I"⟩
abbrev cX4_plays : ByteArray := prog_6_method_14_code
def yX4_plays : MethodName := ⟨RX4, "plays", "(LTwoServes$Server;II)Z"⟩
abbrev cX4_wins : ByteArray := prog_6_method_15_code
def yX4_wins : MethodName := ⟨RX4, "wins", "(LTwoServes$Server;II)Z"⟩
def RX5 : String := "TwoServes$Sure"
def TX5 : u_T := fun k => match k with
  | 0 => ("TwoServes$Server", "kind", "I", true)
  | 1 => ("TwoServes$Server", "number", "I", true)
  | _ => ("TwoServes$Server", "v", "I", true)
def tyX5 : Nat → FieldType := fun k => match k with
  | 0 => .int
  | 1 => .int
  | _ => .int
theorem nmX5 : ∀ a, a < 3 → ∀ b, b < 3 → a ≠ b → (TX5 a).2.1 ≠ (TX5 b).2.1 := by decide +kernel
theorem tyX5_ok : ∀ k, k < 3 → parseFieldDescriptor (TX5 k).2.2.1 = some (tyX5 k) := by decide +kernel
abbrev cX5_init : ByteArray := prog_7_method_1_code
def yX5_init : MethodName := ⟨RX5, "<init>", "(III)V"⟩
abbrev cX5_first : ByteArray := prog_7_method_2_code
def yX5_first : MethodName := ⟨RX5, "first", "(LTwoServes$Situation;)I"⟩
abbrev cX5_tells : ByteArray := prog_7_method_3_code
def yX5_tells : MethodName := ⟨RX5, "tells", "(ILjava/util/ArrayList;)I"⟩
def RX6 : String := "TwoServes$Tape"
def TX6 : u_T := fun k => match k with
  | 0 => ("TwoServes$Tape", "items", "[J", true)
  | 1 => ("TwoServes$Tape", "length", "I", false)
  | _ => ("TwoServes$Tape", "sort", "I", false)
def tyX6 : Nat → FieldType := fun k => match k with
  | 0 => .array .long
  | 1 => .int
  | _ => .int
theorem nmX6 : ∀ a, a < 3 → ∀ b, b < 3 → a ≠ b → (TX6 a).2.1 ≠ (TX6 b).2.1 := by decide +kernel
theorem tyX6_ok : ∀ k, k < 3 → parseFieldDescriptor (TX6 k).2.2.1 = some (tyX6 k) := by decide +kernel
abbrev cX6_init : ByteArray := prog_8_method_1_code
def yX6_init : MethodName := ⟨RX6, "<init>", "()V"⟩
abbrev cX6_become : ByteArray := prog_8_method_2_code
def yX6_become : MethodName := ⟨RX6, "become", "(II)V"⟩
abbrev cX6_has : ByteArray := prog_8_method_3_code
def yX6_has : MethodName := ⟨RX6, "has", "(J)Z"⟩
abbrev cX6_at : ByteArray := prog_8_method_4_code
def yX6_at : MethodName := ⟨RX6, "at", "(I)J"⟩
abbrev cX6_puts : ByteArray := prog_8_method_5_code
def yX6_puts : MethodName := ⟨RX6, "puts", "(IJ)Z"⟩
abbrev cX6_cut : ByteArray := prog_8_method_6_code
def yX6_cut : MethodName := ⟨RX6, "cut", "(J)J"⟩
abbrev cX6_spans : ByteArray := prog_8_method_7_code
def yX6_spans : MethodName := ⟨RX6, "spans", "(II)Z"⟩
abbrev cX6_takes : ByteArray := prog_8_method_8_code
def yX6_takes : MethodName := ⟨RX6, "takes", "(ILTwoServes$Tape;II)Z"⟩
def RX7 : String := "TwoServes$Text"
def TX7 : u_T := fun k => match k with
  | 0 => ("TwoServes$Text", "signs", "[C", true)
  | 1 => ("TwoServes$Text", "length", "I", false)
  | _ => ("TwoServes$Text", "place", "I", false)
def tyX7 : Nat → FieldType := fun k => match k with
  | 0 => .array .char
  | 1 => .int
  | _ => .int
theorem nmX7 : ∀ a, a < 3 → ∀ b, b < 3 → a ≠ b → (TX7 a).2.1 ≠ (TX7 b).2.1 := by decide +kernel
theorem tyX7_ok : ∀ k, k < 3 → parseFieldDescriptor (TX7 k).2.2.1 = some (tyX7 k) := by decide +kernel
abbrev cX7_init : ByteArray := prog_9_method_1_code
def yX7_init : MethodName := ⟨RX7, "<init>", "()V"⟩
abbrev cX7_takes : ByteArray := prog_9_method_2_code
def yX7_takes : MethodName := ⟨RX7, "takes", "(I)Z"⟩
abbrev cX7_readInto : ByteArray := prog_9_method_3_code
def yX7_readInto : MethodName := ⟨RX7, "readInto", "(LTwoServes$Court;)I"⟩
abbrev cX7_clause : ByteArray := prog_9_method_4_code
def yX7_clause : MethodName := ⟨RX7, "clause", "(LTwoServes$Court;)Z"⟩
abbrev cX7_anyOf : ByteArray := prog_9_method_5_code
def yX7_anyOf : MethodName := ⟨RX7, "anyOf", "(LTwoServes$Court;I)Z"⟩
abbrev cX7_allOf : ByteArray := prog_9_method_6_code
def yX7_allOf : MethodName := ⟨RX7, "allOf", "(LTwoServes$Court;I)Z"⟩
abbrev cX7_factor : ByteArray := prog_9_method_7_code
def yX7_factor : MethodName := ⟨RX7, "factor", "(LTwoServes$Court;I)Z"⟩
abbrev cX7_test : ByteArray := prog_9_method_8_code
def yX7_test : MethodName := ⟨RX7, "test", "(LTwoServes$Court;)Z"⟩
abbrev cX7_number : ByteArray := prog_9_method_9_code
def yX7_number : MethodName := ⟨RX7, "number", "()I"⟩
abbrev cX7_took : ByteArray := prog_9_method_10_code
def yX7_took : MethodName := ⟨RX7, "took", "(C)Z"⟩
abbrev cX7_sign : ByteArray := prog_9_method_11_code
def yX7_sign : MethodName := ⟨RX7, "sign", "()C"⟩
def RX8 : String := "TwoServes$Timid"
def TX8 : u_T := fun k => match k with
  | 0 => ("TwoServes$Server", "kind", "I", true)
  | 1 => ("TwoServes$Server", "number", "I", true)
  | _ => ("TwoServes$Server", "v", "I", true)
def tyX8 : Nat → FieldType := fun k => match k with
  | 0 => .int
  | 1 => .int
  | _ => .int
theorem nmX8 : ∀ a, a < 3 → ∀ b, b < 3 → a ≠ b → (TX8 a).2.1 ≠ (TX8 b).2.1 := by decide +kernel
theorem tyX8_ok : ∀ k, k < 3 → parseFieldDescriptor (TX8 k).2.2.1 = some (tyX8 k) := by decide +kernel
abbrev cX8_init : ByteArray := prog_10_method_1_code
def yX8_init : MethodName := ⟨RX8, "<init>", "(III)V"⟩
abbrev cX8_first : ByteArray := prog_10_method_2_code
def yX8_first : MethodName := ⟨RX8, "first", "(LTwoServes$Situation;)I"⟩
abbrev cX8_tosses : ByteArray := prog_10_method_3_code
def yX8_tosses : MethodName := ⟨RX8, "tosses", "(ILjava/util/ArrayList;)I"⟩
def RX9 : String := "TwoServes$Tiring"
def TX9 : u_T := fun k => match k with
  | 0 => ("TwoServes$Server", "kind", "I", true)
  | 1 => ("TwoServes$Server", "number", "I", true)
  | _ => ("TwoServes$Server", "v", "I", true)
def tyX9 : Nat → FieldType := fun k => match k with
  | 0 => .int
  | 1 => .int
  | _ => .int
theorem nmX9 : ∀ a, a < 3 → ∀ b, b < 3 → a ≠ b → (TX9 a).2.1 ≠ (TX9 b).2.1 := by decide +kernel
theorem tyX9_ok : ∀ k, k < 3 → parseFieldDescriptor (TX9 k).2.2.1 = some (tyX9 k) := by decide +kernel
abbrev cX9_init : ByteArray := prog_11_method_1_code
def yX9_init : MethodName := ⟨RX9, "<init>", "(III)V"⟩
abbrev cX9_first : ByteArray := prog_11_method_2_code
def yX9_first : MethodName := ⟨RX9, "first", "(LTwoServes$Situation;)I"⟩
abbrev cX9_tells : ByteArray := prog_11_method_3_code
def yX9_tells : MethodName := ⟨RX9, "tells", "(ILjava/util/ArrayList;)I"⟩
def RX10 : String := "TwoServes$Told"
def TX10 : u_T := fun k => match k with
  | 0 => ("TwoServes$Server", "kind", "I", true)
  | 1 => ("TwoServes$Server", "number", "I", true)
  | _ => ("TwoServes$Server", "v", "I", true)
def tyX10 : Nat → FieldType := fun k => match k with
  | 0 => .int
  | 1 => .int
  | _ => .int
theorem nmX10 : ∀ a, a < 3 → ∀ b, b < 3 → a ≠ b → (TX10 a).2.1 ≠ (TX10 b).2.1 := by decide +kernel
theorem tyX10_ok : ∀ k, k < 3 → parseFieldDescriptor (TX10 k).2.2.1 = some (tyX10 k) := by decide +kernel
abbrev cX10_init : ByteArray := prog_12_method_1_code
def yX10_init : MethodName := ⟨RX10, "<init>", "(III)V"⟩
abbrev cX10_first : ByteArray := prog_12_method_2_code
def yX10_first : MethodName := ⟨RX10, "first", "(LTwoServes$Situation;)I"⟩
abbrev cX10_strikes : ByteArray := prog_12_method_3_code
def yX10_strikes : MethodName := ⟨RX10, "strikes", "(ILjava/util/ArrayList;)I"⟩
abbrev cX10_tosses : ByteArray := prog_12_method_4_code
def yX10_tosses : MethodName := ⟨RX10, "tosses", "(ILjava/util/ArrayList;)I"⟩
def RX11 : String := "TwoServes"
def TX11 : u_T := fun k => match k with
  | 0 => ("TwoServes", "now", "LTwoServes$Situation;", true)
  | 1 => ("TwoServes", "kept", "LTwoServes$Situation;", true)
  | 2 => ("TwoServes", "supposed", "LTwoServes$Situation;", true)
  | 3 => ("TwoServes", "imageTaken", "Z", false)
  | 4 => ("TwoServes", "text", "LTwoServes$Text;", true)
  | 5 => ("TwoServes", "courts", "[LTwoServes$Court;", true)
  | 6 => ("TwoServes", "courtCount", "I", false)
  | 7 => ("TwoServes", "tapes", "[LTwoServes$Tape;", true)
  | 8 => ("TwoServes", "bodies", "Ljava/util/ArrayList;", true)
  | 9 => ("TwoServes", "ins", "[I", true)
  | 10 => ("TwoServes", "wins", "[I", true)
  | 11 => ("TwoServes", "games", "[[I", true)
  | _ => ("TwoServes", "matches", "[[I", true)
def tyX11 : Nat → FieldType := fun k => match k with
  | 0 => .object "TwoServes$Situation"
  | 1 => .object "TwoServes$Situation"
  | 2 => .object "TwoServes$Situation"
  | 3 => .boolean
  | 4 => .object "TwoServes$Text"
  | 5 => .array (.object "TwoServes$Court")
  | 6 => .int
  | 7 => .array (.object "TwoServes$Tape")
  | 8 => .object "java/util/ArrayList"
  | 9 => .array .int
  | 10 => .array .int
  | 11 => .array (.array .int)
  | _ => .array (.array .int)
theorem nmX11 : ∀ a, a < 13 → ∀ b, b < 13 → a ≠ b → (TX11 a).2.1 ≠ (TX11 b).2.1 := by decide +kernel
theorem tyX11_ok : ∀ k, k < 13 → parseFieldDescriptor (TX11 k).2.2.1 = some (tyX11 k) := by decide +kernel
abbrev cX11_init : ByteArray := prog_1_method_1_code
def yX11_init : MethodName := ⟨RX11, "<init>", "()V"⟩
abbrev cX11_server : ByteArray := prog_1_method_2_code
def yX11_server : MethodName := ⟨RX11, "server", "(IIII)I"⟩
abbrev cX11_of : ByteArray := prog_1_method_3_code
def yX11_of : MethodName := ⟨RX11, "of", "(II)I"⟩
abbrev cX11_set : ByteArray := prog_1_method_4_code
def yX11_set : MethodName := ⟨RX11, "set", "(III)I"⟩
abbrev cX11_row : ByteArray := prog_1_method_5_code
def yX11_row : MethodName := ⟨RX11, "row", "(III)I"⟩
abbrev cX11_feed : ByteArray := prog_1_method_6_code
def yX11_feed : MethodName := ⟨RX11, "feed", "(I)I"⟩
abbrev cX11_court : ByteArray := prog_1_method_7_code
def yX11_court : MethodName := ⟨RX11, "court", "()I"⟩
abbrev cX11_told : ByteArray := prog_1_method_8_code
def yX11_told : MethodName := ⟨RX11, "told", "(I)I"⟩
abbrev cX11_stance : ByteArray := prog_1_method_9_code
def yX11_stance : MethodName := ⟨RX11, "stance", "(I)I"⟩
abbrev cX11_score : ByteArray := prog_1_method_10_code
def yX11_score : MethodName := ⟨RX11, "score", "(II)I"⟩
abbrev cX11_chance : ByteArray := prog_1_method_11_code
def yX11_chance : MethodName := ⟨RX11, "chance", "(III)I"⟩
abbrev cX11_faults : ByteArray := prog_1_method_12_code
def yX11_faults : MethodName := ⟨RX11, "faults", "(III)I"⟩
abbrev cX11_play : ByteArray := prog_1_method_13_code
def yX11_play : MethodName := ⟨RX11, "play", "(III)I"⟩
abbrev cX11_best : ByteArray := prog_1_method_14_code
def yX11_best : MethodName := ⟨RX11, "best", "(II)I"⟩
abbrev cX11_risk : ByteArray := prog_1_method_15_code
def yX11_risk : MethodName := ⟨RX11, "risk", "(I)I"⟩
abbrev cX11_dare : ByteArray := prog_1_method_16_code
def yX11_dare : MethodName := ⟨RX11, "dare", "(I)I"⟩
abbrev cX11_more : ByteArray := prog_1_method_17_code
def yX11_more : MethodName := ⟨RX11, "more", "(II)I"⟩
abbrev cX11_safe : ByteArray := prog_1_method_18_code
def yX11_safe : MethodName := ⟨RX11, "safe", "(II)I"⟩
abbrev cX11_stand : ByteArray := prog_1_method_19_code
def yX11_stand : MethodName := ⟨RX11, "stand", "(II)I"⟩
abbrev cX11_game : ByteArray := prog_1_method_20_code
def yX11_game : MethodName := ⟨RX11, "game", "(II)I"⟩
abbrev cX11_swing : ByteArray := prog_1_method_21_code
def yX11_swing : MethodName := ⟨RX11, "swing", "(I)I"⟩
abbrev cX11_match : ByteArray := prog_1_method_22_code
def yX11_match : MethodName := ⟨RX11, "match", "(III)I"⟩
abbrev cX11_ahead : ByteArray := prog_1_method_23_code
def yX11_ahead : MethodName := ⟨RX11, "ahead", "(III)I"⟩
abbrev cX11_see : ByteArray := prog_1_method_24_code
def yX11_see : MethodName := ⟨RX11, "see", "(II)I"⟩
abbrev cX11_who : ByteArray := prog_1_method_25_code
def yX11_who : MethodName := ⟨RX11, "who", "()I"⟩
abbrev cX11_odds : ByteArray := prog_1_method_26_code
def yX11_odds : MethodName := ⟨RX11, "odds", "(II)J"⟩
abbrev cX11_mean : ByteArray := prog_1_method_27_code
def yX11_mean : MethodName := ⟨RX11, "mean", "(I)J"⟩
abbrev cX11_book : ByteArray := prog_1_method_28_code
def yX11_book : MethodName := ⟨RX11, "book", "(III)I"⟩
abbrev cX11_looked : ByteArray := prog_1_method_29_code
def yX11_looked : MethodName := ⟨RX11, "looked", "()I"⟩
abbrev cX11_judge : ByteArray := prog_1_method_30_code
def yX11_judge : MethodName := ⟨RX11, "judge", "(II)I"⟩
abbrev cX11_image : ByteArray := prog_1_method_31_code
def yX11_image : MethodName := ⟨RX11, "image", "()I"⟩
abbrev cX11_undo : ByteArray := prog_1_method_32_code
def yX11_undo : MethodName := ⟨RX11, "undo", "()I"⟩
abbrev cX11_act : ByteArray := prog_1_method_33_code
def yX11_act : MethodName := ⟨RX11, "act", "(III)I"⟩
abbrev cX11_trace : ByteArray := prog_1_method_34_code
def yX11_trace : MethodName := ⟨RX11, "trace", "(I)I"⟩
abbrev cX11_taken : ByteArray := prog_1_method_35_code
def yX11_taken : MethodName := ⟨RX11, "taken", "(II)I"⟩
abbrev cX11_count : ByteArray := prog_1_method_36_code
def yX11_count : MethodName := ⟨RX11, "count", "(I)I"⟩
abbrev cX11_tape : ByteArray := prog_1_method_37_code
def yX11_tape : MethodName := ⟨RX11, "tape", "(III)I"⟩
abbrev cX11_item : ByteArray := prog_1_method_38_code
def yX11_item : MethodName := ⟨RX11, "item", "(IIJ)I"⟩
abbrev cX11_read : ByteArray := prog_1_method_39_code
def yX11_read : MethodName := ⟨RX11, "read", "(II)J"⟩
abbrev cX11_shift : ByteArray := prog_1_method_40_code
def yX11_shift : MethodName := ⟨RX11, "shift", "(IIIII)I"⟩
abbrev cX11_within : ByteArray := prog_1_method_41_code
def yX11_within : MethodName := ⟨RX11, "within", "(II)Z"⟩
abbrev cX11_pair : ByteArray := prog_1_method_42_code
def yX11_pair : MethodName := ⟨RX11, "pair", "(II)I"⟩
abbrev cX11_replaced : ByteArray := prog_1_method_43_code
def yX11_replaced : MethodName := ⟨RX11, "replaced", "([III)I"⟩
abbrev cX11_serverAt : ByteArray := prog_1_method_44_code
def yX11_serverAt : MethodName := ⟨RX11, "serverAt", "(I)LTwoServes$Server;"⟩
abbrev cX11_tapeAt : ByteArray := prog_1_method_45_code
def yX11_tapeAt : MethodName := ⟨RX11, "tapeAt", "(I)LTwoServes$Tape;"⟩
abbrev cX11_born : ByteArray := prog_1_method_46_code
def yX11_born : MethodName := ⟨RX11, "born", "(III)LTwoServes$Server;"⟩
abbrev cX11_isOneOf : ByteArray := prog_1_method_47_code
def yX11_isOneOf : MethodName := ⟨RX11, "isOneOf", "(LTwoServes$Server;I)Z"⟩
abbrev cX11_bestOf : ByteArray := prog_1_method_48_code
def yX11_bestOf : MethodName := ⟨RX11, "bestOf", "(LTwoServes$Server;I)I"⟩
abbrev cX11_twoServes : ByteArray := prog_1_method_49_code
def yX11_twoServes : MethodName := ⟨RX11, "twoServes", "(IIII)I"⟩
abbrev cX11_chanceAgainst : ByteArray := prog_1_method_50_code
def yX11_chanceAgainst : MethodName := ⟨RX11, "chanceAgainst", "(LTwoServes$Server;I)I"⟩
abbrev cX11_gameOf : ByteArray := prog_1_method_51_code
def yX11_gameOf : MethodName := ⟨RX11, "gameOf", "(LTwoServes$Server;II)I"⟩
abbrev cX11_matchOf : ByteArray := prog_1_method_52_code
def yX11_matchOf : MethodName := ⟨RX11, "matchOf", "(III)I"⟩
abbrev cX11_mixed : ByteArray := prog_1_method_53_code
def yX11_mixed : MethodName := ⟨RX11, "mixed", "(JII)I"⟩
abbrev cX11_lowest : ByteArray := prog_1_method_54_code
def yX11_lowest : MethodName := ⟨RX11, "lowest", "(JJI)J"⟩
def RX12 : String := "TwoServesModel"
def TX12 : u_T := fun k => match k with
  | 0 => ("TwoServesModel", "servers", "I", false)
  | 1 => ("TwoServesModel", "won", "I", false)
  | 2 => ("TwoServesModel", "lost", "I", false)
  | 3 => ("TwoServesModel", "stance", "I", false)
  | 4 => ("TwoServesModel", "kind", "[I", true)
  | 5 => ("TwoServesModel", "v", "[I", true)
  | 6 => ("TwoServesModel", "hard", "[I", true)
  | 7 => ("TwoServesModel", "soft", "[I", true)
  | 8 => ("TwoServesModel", "served", "[I", true)
  | 9 => ("TwoServesModel", "rows", "[I", true)
  | 10 => ("TwoServesModel", "courts", "I", false)
  | 11 => ("TwoServesModel", "the", "I", false)
  | 12 => ("TwoServesModel", "fed", "I", false)
  | 13 => ("TwoServesModel", "at", "I", false)
  | 14 => ("TwoServesModel", "digits", "I", false)
  | 15 => ("TwoServesModel", "text", "[I", true)
  | 16 => ("TwoServesModel", "clauses", "[I", true)
  | 17 => ("TwoServesModel", "word", "[I", true)
  | 18 => ("TwoServesModel", "number", "[I", true)
  | 19 => ("TwoServesModel", "from", "[I", true)
  | 20 => ("TwoServesModel", "to", "[I", true)
  | 21 => ("TwoServesModel", "sign", "[I", true)
  | 22 => ("TwoServesModel", "waits", "[I", true)
  | 23 => ("TwoServesModel", "signs", "I", false)
  | 24 => ("TwoServesModel", "waiting", "I", false)
  | 25 => ("TwoServesModel", "open", "I", false)
  | 26 => ("TwoServesModel", "letters", "[I", true)
  | 27 => ("TwoServesModel", "pile", "[Z", true)
  | 28 => ("TwoServesModel", "games", "[I", true)
  | 29 => ("TwoServesModel", "matches", "[I", true)
  | 30 => ("TwoServesModel", "seen", "I", false)
  | 31 => ("TwoServesModel", "seenOne", "[I", true)
  | 32 => ("TwoServesModel", "seenTwo", "[I", true)
  | 33 => ("TwoServesModel", "books", "I", false)
  | 34 => ("TwoServesModel", "bookWho", "[I", true)
  | 35 => ("TwoServesModel", "bookOne", "[I", true)
  | 36 => ("TwoServesModel", "bookTwo", "[I", true)
  | 37 => ("TwoServesModel", "keptServed", "[I", true)
  | 38 => ("TwoServesModel", "hasImage", "Z", false)
  | 39 => ("TwoServesModel", "imageThe", "I", false)
  | 40 => ("TwoServesModel", "imageServers", "I", false)
  | 41 => ("TwoServesModel", "imageWon", "I", false)
  | 42 => ("TwoServesModel", "imageLost", "I", false)
  | 43 => ("TwoServesModel", "imageStance", "I", false)
  | 44 => ("TwoServesModel", "imageSeen", "I", false)
  | 45 => ("TwoServesModel", "imageBooks", "I", false)
  | 46 => ("TwoServesModel", "imageKind", "[I", true)
  | 47 => ("TwoServesModel", "imageV", "[I", true)
  | 48 => ("TwoServesModel", "imageHard", "[I", true)
  | 49 => ("TwoServesModel", "imageSoft", "[I", true)
  | 50 => ("TwoServesModel", "imageServed", "[I", true)
  | 51 => ("TwoServesModel", "imageRows", "[I", true)
  | 52 => ("TwoServesModel", "imageOne", "[I", true)
  | 53 => ("TwoServesModel", "imageTwo", "[I", true)
  | 54 => ("TwoServesModel", "imageWho", "[I", true)
  | 55 => ("TwoServesModel", "imageD", "[I", true)
  | 56 => ("TwoServesModel", "imageE", "[I", true)
  | 57 => ("TwoServesModel", "ran", "I", false)
  | 58 => ("TwoServesModel", "bodies", "[I", true)
  | 59 => ("TwoServesModel", "sort", "[I", true)
  | 60 => ("TwoServesModel", "length", "[I", true)
  | 61 => ("TwoServesModel", "item", "[J", true)
  | _ => ("TwoServesModel", "aside", "[J", true)
def tyX12 : Nat → FieldType := fun k => match k with
  | 0 => .int
  | 1 => .int
  | 2 => .int
  | 3 => .int
  | 4 => .array .int
  | 5 => .array .int
  | 6 => .array .int
  | 7 => .array .int
  | 8 => .array .int
  | 9 => .array .int
  | 10 => .int
  | 11 => .int
  | 12 => .int
  | 13 => .int
  | 14 => .int
  | 15 => .array .int
  | 16 => .array .int
  | 17 => .array .int
  | 18 => .array .int
  | 19 => .array .int
  | 20 => .array .int
  | 21 => .array .int
  | 22 => .array .int
  | 23 => .int
  | 24 => .int
  | 25 => .int
  | 26 => .array .int
  | 27 => .array .boolean
  | 28 => .array .int
  | 29 => .array .int
  | 30 => .int
  | 31 => .array .int
  | 32 => .array .int
  | 33 => .int
  | 34 => .array .int
  | 35 => .array .int
  | 36 => .array .int
  | 37 => .array .int
  | 38 => .boolean
  | 39 => .int
  | 40 => .int
  | 41 => .int
  | 42 => .int
  | 43 => .int
  | 44 => .int
  | 45 => .int
  | 46 => .array .int
  | 47 => .array .int
  | 48 => .array .int
  | 49 => .array .int
  | 50 => .array .int
  | 51 => .array .int
  | 52 => .array .int
  | 53 => .array .int
  | 54 => .array .int
  | 55 => .array .int
  | 56 => .array .int
  | 57 => .int
  | 58 => .array .int
  | 59 => .array .int
  | 60 => .array .int
  | 61 => .array .long
  | _ => .array .long
theorem nmX12 : ∀ a, a < 63 → ∀ b, b < 63 → a ≠ b → (TX12 a).2.1 ≠ (TX12 b).2.1 := by decide +kernel
theorem tyX12_ok : ∀ k, k < 63 → parseFieldDescriptor (TX12 k).2.2.1 = some (tyX12 k) := by decide +kernel
abbrev cX12_init : ByteArray := prog_14_method_1_code
def yX12_init : MethodName := ⟨RX12, "<init>", "()V"⟩
abbrev cX12_in : ByteArray := prog_14_method_2_code
def yX12_in : MethodName := ⟨RX12, "in", "(III)Z"⟩
abbrev cX12_isServer : ByteArray := prog_14_method_3_code
def yX12_isServer : MethodName := ⟨RX12, "isServer", "(I)Z"⟩
abbrev cX12_isForce : ByteArray := prog_14_method_4_code
def yX12_isForce : MethodName := ⟨RX12, "isForce", "(I)Z"⟩
abbrev cX12_server : ByteArray := prog_14_method_5_code
def yX12_server : MethodName := ⟨RX12, "server", "(IIII)I"⟩
abbrev cX12_set : ByteArray := prog_14_method_6_code
def yX12_set : MethodName := ⟨RX12, "set", "(III)I"⟩
abbrev cX12_row : ByteArray := prog_14_method_7_code
def yX12_row : MethodName := ⟨RX12, "row", "(III)I"⟩
abbrev cX12_feed : ByteArray := prog_14_method_8_code
def yX12_feed : MethodName := ⟨RX12, "feed", "(I)I"⟩
abbrev cX12_next : ByteArray := prog_14_method_9_code
def yX12_next : MethodName := ⟨RX12, "next", "()I"⟩
abbrev cX12_takes : ByteArray := prog_14_method_10_code
def yX12_takes : MethodName := ⟨RX12, "takes", "(I)Z"⟩
abbrev cX12_takesWord : ByteArray := prog_14_method_11_code
def yX12_takesWord : MethodName := ⟨RX12, "takesWord", "(II)Z"⟩
abbrev cX12_isDigit : ByteArray := prog_14_method_12_code
def yX12_isDigit : MethodName := ⟨RX12, "isDigit", "()Z"⟩
abbrev cX12_takesNumber : ByteArray := prog_14_method_13_code
def yX12_takesNumber : MethodName := ⟨RX12, "takesNumber", "()Z"⟩
abbrev cX12_emits : ByteArray := prog_14_method_14_code
def yX12_emits : MethodName := ⟨RX12, "emits", "(I)V"⟩
abbrev cX12_whole : ByteArray := prog_14_method_15_code
def yX12_whole : MethodName := ⟨RX12, "whole", "()V"⟩
abbrev cX12_settle : ByteArray := prog_14_method_16_code
def yX12_settle : MethodName := ⟨RX12, "settle", "(I)V"⟩
abbrev cX12_place : ByteArray := prog_14_method_17_code
def yX12_place : MethodName := ⟨RX12, "place", "(I)I"⟩
abbrev cX12_takesTest : ByteArray := prog_14_method_18_code
def yX12_takesTest : MethodName := ⟨RX12, "takesTest", "()Z"⟩
abbrev cX12_takesE : ByteArray := prog_14_method_19_code
def yX12_takesE : MethodName := ⟨RX12, "takesE", "(I)Z"⟩
abbrev cX12_takesHead : ByteArray := prog_14_method_20_code
def yX12_takesHead : MethodName := ⟨RX12, "takesHead", "(I)Z"⟩
abbrev cX12_takesClause : ByteArray := prog_14_method_21_code
def yX12_takesClause : MethodName := ⟨RX12, "takesClause", "(I)Z"⟩
abbrev cX12_goesText : ByteArray := prog_14_method_22_code
def yX12_goesText : MethodName := ⟨RX12, "goesText", "(I)Z"⟩
abbrev cX12_court : ByteArray := prog_14_method_23_code
def yX12_court : MethodName := ⟨RX12, "court", "()I"⟩
abbrev cX12_begin : ByteArray := prog_14_method_24_code
def yX12_begin : MethodName := ⟨RX12, "begin", "()I"⟩
abbrev cX12_behind : ByteArray := prog_14_method_25_code
def yX12_behind : MethodName := ⟨RX12, "behind", "()I"⟩
abbrev cX12_factOf : ByteArray := prog_14_method_26_code
def yX12_factOf : MethodName := ⟨RX12, "factOf", "(III)I"⟩
abbrev cX12_holds : ByteArray := prog_14_method_27_code
def yX12_holds : MethodName := ⟨RX12, "holds", "(III)Z"⟩
abbrev cX12_sumOf : ByteArray := prog_14_method_28_code
def yX12_sumOf : MethodName := ⟨RX12, "sumOf", "(III)I"⟩
abbrev cX12_percent : ByteArray := prog_14_method_29_code
def yX12_percent : MethodName := ⟨RX12, "percent", "(I)I"⟩
abbrev cX12_inOf : ByteArray := prog_14_method_30_code
def yX12_inOf : MethodName := ⟨RX12, "inOf", "(II)I"⟩
abbrev cX12_winsOf : ByteArray := prog_14_method_31_code
def yX12_winsOf : MethodName := ⟨RX12, "winsOf", "(II)I"⟩
abbrev cX12_firstOf : ByteArray := prog_14_method_32_code
def yX12_firstOf : MethodName := ⟨RX12, "firstOf", "(I)I"⟩
abbrev cX12_secondOf : ByteArray := prog_14_method_33_code
def yX12_secondOf : MethodName := ⟨RX12, "secondOf", "(I)I"⟩
abbrev cX12_of : ByteArray := prog_14_method_34_code
def yX12_of : MethodName := ⟨RX12, "of", "(II)I"⟩
abbrev cX12_told : ByteArray := prog_14_method_35_code
def yX12_told : MethodName := ⟨RX12, "told", "(I)I"⟩
abbrev cX12_stance : ByteArray := prog_14_method_36_code
def yX12_stance : MethodName := ⟨RX12, "stance", "(I)I"⟩
abbrev cX12_score : ByteArray := prog_14_method_37_code
def yX12_score : MethodName := ⟨RX12, "score", "(II)I"⟩
abbrev cX12_chanceOf : ByteArray := prog_14_method_38_code
def yX12_chanceOf : MethodName := ⟨RX12, "chanceOf", "(III)I"⟩
abbrev cX12_faultsOf : ByteArray := prog_14_method_39_code
def yX12_faultsOf : MethodName := ⟨RX12, "faultsOf", "(III)I"⟩
abbrev cX12_chance : ByteArray := prog_14_method_40_code
def yX12_chance : MethodName := ⟨RX12, "chance", "(III)I"⟩
abbrev cX12_faults : ByteArray := prog_14_method_41_code
def yX12_faults : MethodName := ⟨RX12, "faults", "(III)I"⟩
abbrev cX12_chanceNow : ByteArray := prog_14_method_42_code
def yX12_chanceNow : MethodName := ⟨RX12, "chanceNow", "(I)I"⟩
abbrev cX12_isOver : ByteArray := prog_14_method_43_code
def yX12_isOver : MethodName := ⟨RX12, "isOver", "()Z"⟩
abbrev cX12_areDraws : ByteArray := prog_14_method_44_code
def yX12_areDraws : MethodName := ⟨RX12, "areDraws", "(II)Z"⟩
abbrev cX12_goPoint : ByteArray := prog_14_method_45_code
def yX12_goPoint : MethodName := ⟨RX12, "goPoint", "(III)Z"⟩
abbrev cX12_play : ByteArray := prog_14_method_46_code
def yX12_play : MethodName := ⟨RX12, "play", "(III)I"⟩
abbrev cX12_best : ByteArray := prog_14_method_47_code
def yX12_best : MethodName := ⟨RX12, "best", "(II)I"⟩
abbrev cX12_risk : ByteArray := prog_14_method_48_code
def yX12_risk : MethodName := ⟨RX12, "risk", "(I)I"⟩
abbrev cX12_dare : ByteArray := prog_14_method_49_code
def yX12_dare : MethodName := ⟨RX12, "dare", "(I)I"⟩
abbrev cX12_more : ByteArray := prog_14_method_50_code
def yX12_more : MethodName := ⟨RX12, "more", "(II)I"⟩
abbrev cX12_safe : ByteArray := prog_14_method_51_code
def yX12_safe : MethodName := ⟨RX12, "safe", "(II)I"⟩
abbrev cX12_stand : ByteArray := prog_14_method_52_code
def yX12_stand : MethodName := ⟨RX12, "stand", "(II)I"⟩
abbrev cX12_layGames : ByteArray := prog_14_method_53_code
def yX12_layGames : MethodName := ⟨RX12, "layGames", "(I)V"⟩
abbrev cX12_gameNow : ByteArray := prog_14_method_54_code
def yX12_gameNow : MethodName := ⟨RX12, "gameNow", "(I)I"⟩
abbrev cX12_clean : ByteArray := prog_14_method_55_code
def yX12_clean : MethodName := ⟨RX12, "clean", "(I)I"⟩
abbrev cX12_game : ByteArray := prog_14_method_56_code
def yX12_game : MethodName := ⟨RX12, "game", "(II)I"⟩
abbrev cX12_swing : ByteArray := prog_14_method_57_code
def yX12_swing : MethodName := ⟨RX12, "swing", "(I)I"⟩
abbrev cX12_matchOf : ByteArray := prog_14_method_58_code
def yX12_matchOf : MethodName := ⟨RX12, "matchOf", "(III)I"⟩
abbrev cX12_match : ByteArray := prog_14_method_59_code
def yX12_match : MethodName := ⟨RX12, "match", "(III)I"⟩
abbrev cX12_ahead : ByteArray := prog_14_method_60_code
def yX12_ahead : MethodName := ⟨RX12, "ahead", "(III)I"⟩
abbrev cX12_see : ByteArray := prog_14_method_61_code
def yX12_see : MethodName := ⟨RX12, "see", "(II)I"⟩
abbrev cX12_who : ByteArray := prog_14_method_62_code
def yX12_who : MethodName := ⟨RX12, "who", "()I"⟩
abbrev cX12_divisor : ByteArray := prog_14_method_63_code
def yX12_divisor : MethodName := ⟨RX12, "divisor", "(II)I"⟩
abbrev cX12_lowest : ByteArray := prog_14_method_64_code
def yX12_lowest : MethodName := ⟨RX12, "lowest", "(III)J"⟩
abbrev cX12_odds : ByteArray := prog_14_method_65_code
def yX12_odds : MethodName := ⟨RX12, "odds", "(II)J"⟩
abbrev cX12_mean : ByteArray := prog_14_method_66_code
def yX12_mean : MethodName := ⟨RX12, "mean", "(I)J"⟩
abbrev cX12_book : ByteArray := prog_14_method_67_code
def yX12_book : MethodName := ⟨RX12, "book", "(III)I"⟩
abbrev cX12_looked : ByteArray := prog_14_method_68_code
def yX12_looked : MethodName := ⟨RX12, "looked", "()I"⟩
abbrev cX12_judge : ByteArray := prog_14_method_69_code
def yX12_judge : MethodName := ⟨RX12, "judge", "(II)I"⟩
abbrev cX12_image : ByteArray := prog_14_method_70_code
def yX12_image : MethodName := ⟨RX12, "image", "()I"⟩
abbrev cX12_undo : ByteArray := prog_14_method_71_code
def yX12_undo : MethodName := ⟨RX12, "undo", "()I"⟩
abbrev cX12_body : ByteArray := prog_14_method_72_code
def yX12_body : MethodName := ⟨RX12, "body", "(I)V"⟩
abbrev cX12_serverTosses : ByteArray := prog_14_method_73_code
def yX12_serverTosses : MethodName := ⟨RX12, "serverTosses", "(II)I"⟩
abbrev cX12_tossesAct : ByteArray := prog_14_method_74_code
def yX12_tossesAct : MethodName := ⟨RX12, "tossesAct", "(II)I"⟩
abbrev cX12_serverStrikes : ByteArray := prog_14_method_75_code
def yX12_serverStrikes : MethodName := ⟨RX12, "serverStrikes", "(II)I"⟩
abbrev cX12_daringStrikes : ByteArray := prog_14_method_76_code
def yX12_daringStrikes : MethodName := ⟨RX12, "daringStrikes", "(II)I"⟩
abbrev cX12_strikesAct : ByteArray := prog_14_method_77_code
def yX12_strikesAct : MethodName := ⟨RX12, "strikesAct", "(II)I"⟩
abbrev cX12_serverTells : ByteArray := prog_14_method_78_code
def yX12_serverTells : MethodName := ⟨RX12, "serverTells", "(II)I"⟩
abbrev cX12_tellsAct : ByteArray := prog_14_method_79_code
def yX12_tellsAct : MethodName := ⟨RX12, "tellsAct", "(II)I"⟩
abbrev cX12_act : ByteArray := prog_14_method_80_code
def yX12_act : MethodName := ⟨RX12, "act", "(III)I"⟩
abbrev cX12_trace : ByteArray := prog_14_method_81_code
def yX12_trace : MethodName := ⟨RX12, "trace", "(I)I"⟩
abbrev cX12_taken : ByteArray := prog_14_method_82_code
def yX12_taken : MethodName := ⟨RX12, "taken", "(II)I"⟩
abbrev cX12_count : ByteArray := prog_14_method_83_code
def yX12_count : MethodName := ⟨RX12, "count", "(I)I"⟩
abbrev cX12_isTape : ByteArray := prog_14_method_84_code
def yX12_isTape : MethodName := ⟨RX12, "isTape", "(I)Z"⟩
abbrev cX12_tape : ByteArray := prog_14_method_85_code
def yX12_tape : MethodName := ⟨RX12, "tape", "(III)I"⟩
abbrev cX12_narrow : ByteArray := prog_14_method_86_code
def yX12_narrow : MethodName := ⟨RX12, "narrow", "(IJ)J"⟩
abbrev cX12_item : ByteArray := prog_14_method_87_code
def yX12_item : MethodName := ⟨RX12, "item", "(IIJ)I"⟩
abbrev cX12_read : ByteArray := prog_14_method_88_code
def yX12_read : MethodName := ⟨RX12, "read", "(II)J"⟩
abbrev cX12_shift : ByteArray := prog_14_method_89_code
def yX12_shift : MethodName := ⟨RX12, "shift", "(IIIII)I"⟩
def RJx145de : String := "java/io/Serializable"
def TJx145de : u_T := fun k => match k with
  | _ => ("", "", "", false)
def tyJx145de : Nat → FieldType := fun k => match k with
  | _ => .int
theorem nmJx145de : ∀ a, a < 0 → ∀ b, b < 0 → a ≠ b → (TJx145de a).2.1 ≠ (TJx145de b).2.1 := by decide +kernel
theorem tyJx145de_ok : ∀ k, k < 0 → parseFieldDescriptor (TJx145de k).2.2.1 = some (tyJx145de k) := by decide +kernel
def RJx9f9b0 : String := "java/lang/CharSequence"
def TJx9f9b0 : u_T := fun k => match k with
  | _ => ("", "", "", false)
def tyJx9f9b0 : Nat → FieldType := fun k => match k with
  | _ => .int
theorem nmJx9f9b0 : ∀ a, a < 0 → ∀ b, b < 0 → a ≠ b → (TJx9f9b0 a).2.1 ≠ (TJx9f9b0 b).2.1 := by decide +kernel
theorem tyJx9f9b0_ok : ∀ k, k < 0 → parseFieldDescriptor (TJx9f9b0 k).2.2.1 = some (tyJx9f9b0 k) := by decide +kernel
def RJ11 : String := "java/lang/Character"
def TJ11 : u_T := fun k => match k with
  | _ => ("", "", "", false)
def tyJ11 : Nat → FieldType := fun k => match k with
  | _ => .int
theorem nmJ11 : ∀ a, a < 0 → ∀ b, b < 0 → a ≠ b → (TJ11 a).2.1 ≠ (TJ11 b).2.1 := by decide +kernel
theorem tyJ11_ok : ∀ k, k < 0 → parseFieldDescriptor (TJ11 k).2.2.1 = some (tyJ11 k) := by decide +kernel
abbrev cJ11_isValidCodePoint_9a6ad : ByteArray := prog_17_method_11_code
def yJ11_isValidCodePoint_9a6ad : MethodName := ⟨RJ11, "isValidCodePoint", "(I)Z"⟩
abbrev cJ11_highSurrogate_5068e : ByteArray := prog_17_method_28_code
def yJ11_highSurrogate_5068e : MethodName := ⟨RJ11, "highSurrogate", "(I)C"⟩
abbrev cJ11_lowSurrogate_5068e : ByteArray := prog_17_method_29_code
def yJ11_lowSurrogate_5068e : MethodName := ⟨RJ11, "lowSurrogate", "(I)C"⟩
def RJx8e188 : String := "java/lang/Cloneable"
def TJx8e188 : u_T := fun k => match k with
  | _ => ("", "", "", false)
def tyJx8e188 : Nat → FieldType := fun k => match k with
  | _ => .int
theorem nmJx8e188 : ∀ a, a < 0 → ∀ b, b < 0 → a ≠ b → (TJx8e188 a).2.1 ≠ (TJx8e188 b).2.1 := by decide +kernel
theorem tyJx8e188_ok : ∀ k, k < 0 → parseFieldDescriptor (TJx8e188 k).2.2.1 = some (tyJx8e188 k) := by decide +kernel
def RJxb160c : String := "java/lang/Comparable"
def TJxb160c : u_T := fun k => match k with
  | _ => ("", "", "", false)
def tyJxb160c : Nat → FieldType := fun k => match k with
  | _ => .int
theorem nmJxb160c : ∀ a, a < 0 → ∀ b, b < 0 → a ≠ b → (TJxb160c a).2.1 ≠ (TJxb160c b).2.1 := by decide +kernel
theorem tyJxb160c_ok : ∀ k, k < 0 → parseFieldDescriptor (TJxb160c k).2.2.1 = some (tyJxb160c k) := by decide +kernel
def RJxabbfe : String := "java/lang/Integer$IntegerCache"
def TJxabbfe : u_T := fun k => match k with
  | _ => ("", "", "", false)
def tyJxabbfe : Nat → FieldType := fun k => match k with
  | _ => .int
theorem nmJxabbfe : ∀ a, a < 0 → ∀ b, b < 0 → a ≠ b → (TJxabbfe a).2.1 ≠ (TJxabbfe b).2.1 := by decide +kernel
theorem tyJxabbfe_ok : ∀ k, k < 0 → parseFieldDescriptor (TJxabbfe k).2.2.1 = some (tyJxabbfe k) := by decide +kernel
def RJ6 : String := "java/lang/Integer"
def TJ6 : u_T := fun k => match k with
  | _ => ("java/lang/Integer", "value", "I", true)
def tyJ6 : Nat → FieldType := fun k => match k with
  | _ => .int
theorem nmJ6 : ∀ a, a < 1 → ∀ b, b < 1 → a ≠ b → (TJ6 a).2.1 ≠ (TJ6 b).2.1 := by decide +kernel
theorem tyJ6_ok : ∀ k, k < 1 → parseFieldDescriptor (TJ6 k).2.2.1 = some (tyJ6 k) := by decide +kernel
abbrev cJ6_valueOf_2dffe : ByteArray := prog_20_method_22_code
def yJ6_valueOf_2dffe : MethodName := ⟨RJ6, "valueOf", "(I)Ljava/lang/Integer;"⟩
abbrev cJ6_init_d00df : ByteArray := prog_20_method_23_code
def yJ6_init_d00df : MethodName := ⟨RJ6, "<init>", "(I)V"⟩
abbrev cJ6_intValue_8abf5 : ByteArray := prog_20_method_27_code
def yJ6_intValue_8abf5 : MethodName := ⟨RJ6, "intValue", "()I"⟩
def RJxab1ab : String := "java/lang/Iterable"
def TJxab1ab : u_T := fun k => match k with
  | _ => ("", "", "", false)
def tyJxab1ab : Nat → FieldType := fun k => match k with
  | _ => .int
theorem nmJxab1ab : ∀ a, a < 0 → ∀ b, b < 0 → a ≠ b → (TJxab1ab a).2.1 ≠ (TJxab1ab b).2.1 := by decide +kernel
theorem tyJxab1ab_ok : ∀ k, k < 0 → parseFieldDescriptor (TJxab1ab k).2.2.1 = some (tyJxab1ab k) := by decide +kernel
def RJ9 : String := "java/lang/Math"
def TJ9 : u_T := fun k => match k with
  | _ => ("", "", "", false)
def tyJ9 : Nat → FieldType := fun k => match k with
  | _ => .int
theorem nmJ9 : ∀ a, a < 0 → ∀ b, b < 0 → a ≠ b → (TJ9 a).2.1 ≠ (TJ9 b).2.1 := by decide +kernel
theorem tyJ9_ok : ∀ k, k < 0 → parseFieldDescriptor (TJ9 k).2.2.1 = some (tyJ9 k) := by decide +kernel
abbrev cJ9_max_7cf53 : ByteArray := prog_23_method_65_code
def yJ9_max_7cf53 : MethodName := ⟨RJ9, "max", "(II)I"⟩
abbrev cJ9_min_7cf53 : ByteArray := prog_23_method_69_code
def yJ9_min_7cf53 : MethodName := ⟨RJ9, "min", "(II)I"⟩
def RJxd2413 : String := "java/lang/Number"
def TJxd2413 : u_T := fun k => match k with
  | _ => ("", "", "", false)
def tyJxd2413 : Nat → FieldType := fun k => match k with
  | _ => .int
theorem nmJxd2413 : ∀ a, a < 0 → ∀ b, b < 0 → a ≠ b → (TJxd2413 a).2.1 ≠ (TJxd2413 b).2.1 := by decide +kernel
theorem tyJxd2413_ok : ∀ k, k < 0 → parseFieldDescriptor (TJxd2413 k).2.2.1 = some (tyJxd2413 k) := by decide +kernel
abbrev cJxd2413_init_da8c8 : ByteArray := prog_24_method_1_code
def yJxd2413_init_da8c8 : MethodName := ⟨RJxd2413, "<init>", "()V"⟩
def RJ0 : String := "java/lang/String"
def TJ0 : u_T := fun k => match k with
  | _ => ("", "", "", false)
def tyJ0 : Nat → FieldType := fun k => match k with
  | _ => .int
theorem nmJ0 : ∀ a, a < 0 → ∀ b, b < 0 → a ≠ b → (TJ0 a).2.1 ≠ (TJ0 b).2.1 := by decide +kernel
theorem tyJ0_ok : ∀ k, k < 0 → parseFieldDescriptor (TJ0 k).2.2.1 = some (tyJ0 k) := by decide +kernel
abbrev cJ0_length_8abf5 : ByteArray := prog_25_method_54_code
def yJ0_length_8abf5 : MethodName := ⟨RJ0, "length", "()I"⟩
abbrev cJ0_charAt_5068e : ByteArray := prog_25_method_56_code
def yJ0_charAt_5068e : MethodName := ⟨RJ0, "charAt", "(I)C"⟩
abbrev cJ0_indexOf_0f7a4 : ByteArray := prog_25_method_79_code
def yJ0_indexOf_0f7a4 : MethodName := ⟨RJ0, "indexOf", "(I)I"⟩
abbrev cJ0_indexOf_7cf53 : ByteArray := prog_25_method_80_code
def yJ0_indexOf_7cf53 : MethodName := ⟨RJ0, "indexOf", "(II)I"⟩
abbrev cJ0_coder_7d493 : ByteArray := prog_25_method_152_code
def yJ0_coder_7d493 : MethodName := ⟨RJ0, "coder", "()B"⟩
abbrev cJ0_isLatin1_aae02 : ByteArray := prog_25_method_154_code
def yJ0_isLatin1_aae02 : MethodName := ⟨RJ0, "isLatin1", "()Z"⟩
abbrev cJ0_checkIndex_df160 : ByteArray := prog_25_method_155_code
def yJ0_checkIndex_df160 : MethodName := ⟨RJ0, "checkIndex", "(II)V"⟩
abbrev cJ0_checkBoundsBeginEnd_23922 : ByteArray := prog_25_method_158_code
def yJ0_checkBoundsBeginEnd_23922 : MethodName := ⟨RJ0, "checkBoundsBeginEnd", "(III)V"⟩
def RJ1 : String := "java/lang/StringLatin1"
def TJ1 : u_T := fun k => match k with
  | _ => ("", "", "", false)
def tyJ1 : Nat → FieldType := fun k => match k with
  | _ => .int
theorem nmJ1 : ∀ a, a < 0 → ∀ b, b < 0 → a ≠ b → (TJ1 a).2.1 ≠ (TJ1 b).2.1 := by decide +kernel
theorem tyJ1_ok : ∀ k, k < 0 → parseFieldDescriptor (TJ1 k).2.2.1 = some (tyJ1 k) := by decide +kernel
abbrev cJ1_charAt_3b067 : ByteArray := prog_26_method_2_code
def yJ1_charAt_3b067 : MethodName := ⟨RJ1, "charAt", "([BI)C"⟩
abbrev cJ1_canEncode_9a6ad : ByteArray := prog_26_method_4_code
def yJ1_canEncode_9a6ad : MethodName := ⟨RJ1, "canEncode", "(I)Z"⟩
abbrev cJ1_indexOf_4cfef : ByteArray := prog_26_method_22_code
def yJ1_indexOf_4cfef : MethodName := ⟨RJ1, "indexOf", "([BIII)I"⟩
abbrev cJ1_indexOfChar_4cfef : ByteArray := prog_26_method_23_code
def yJ1_indexOfChar_4cfef : MethodName := ⟨RJ1, "indexOfChar", "([BIII)I"⟩
def RJ2 : String := "java/lang/StringUTF16"
def TJ2 : u_T := fun k => match k with
  | _ => ("", "", "", false)
def tyJ2 : Nat → FieldType := fun k => match k with
  | _ => .int
theorem nmJ2 : ∀ a, a < 0 → ∀ b, b < 0 → a ≠ b → (TJ2 a).2.1 ≠ (TJ2 b).2.1 := by decide +kernel
theorem tyJ2_ok : ∀ k, k < 0 → parseFieldDescriptor (TJ2 k).2.2.1 = some (tyJ2 k) := by decide +kernel
abbrev cJ2_getChar_3b067 : ByteArray := prog_27_method_5_code
def yJ2_getChar_3b067 : MethodName := ⟨RJ2, "getChar", "([BI)C"⟩
abbrev cJ2_length_9d52b : ByteArray := prog_27_method_6_code
def yJ2_length_9d52b : MethodName := ⟨RJ2, "length", "([B)I"⟩
abbrev cJ2_indexOf_4cfef : ByteArray := prog_27_method_40_code
def yJ2_indexOf_4cfef : MethodName := ⟨RJ2, "indexOf", "([BIII)I"⟩
abbrev cJ2_indexOfChar_4cfef : ByteArray := prog_27_method_47_code
def yJ2_indexOfChar_4cfef : MethodName := ⟨RJ2, "indexOfChar", "([BIII)I"⟩
abbrev cJ2_indexOfCharUnsafe_4cfef : ByteArray := prog_27_method_48_code
def yJ2_indexOfCharUnsafe_4cfef : MethodName := ⟨RJ2, "indexOfCharUnsafe", "([BIII)I"⟩
abbrev cJ2_indexOfSupplementary_4cfef : ByteArray := prog_27_method_49_code
def yJ2_indexOfSupplementary_4cfef : MethodName := ⟨RJ2, "indexOfSupplementary", "([BIII)I"⟩
abbrev cJ2_charAt_3b067 : ByteArray := prog_27_method_83_code
def yJ2_charAt_3b067 : MethodName := ⟨RJ2, "charAt", "([BI)C"⟩
abbrev cJ2_checkIndex_2214a : ByteArray := prog_27_method_91_code
def yJ2_checkIndex_2214a : MethodName := ⟨RJ2, "checkIndex", "(I[B)V"⟩
abbrev cJ2_checkBoundsBeginEnd_d044e : ByteArray := prog_27_method_93_code
def yJ2_checkBoundsBeginEnd_d044e : MethodName := ⟨RJ2, "checkBoundsBeginEnd", "(II[B)V"⟩
def RJ10 : String := "java/lang/System"
def TJ10 : u_T := fun k => match k with
  | _ => ("", "", "", false)
def tyJ10 : Nat → FieldType := fun k => match k with
  | _ => .int
theorem nmJ10 : ∀ a, a < 0 → ∀ b, b < 0 → a ≠ b → (TJ10 a).2.1 ≠ (TJ10 b).2.1 := by decide +kernel
theorem tyJ10_ok : ∀ k, k < 0 → parseFieldDescriptor (TJ10 k).2.2.1 = some (tyJ10 k) := by decide +kernel
def RJxfd54e : String := "java/lang/constant/Constable"
def TJxfd54e : u_T := fun k => match k with
  | _ => ("", "", "", false)
def tyJxfd54e : Nat → FieldType := fun k => match k with
  | _ => .int
theorem nmJxfd54e : ∀ a, a < 0 → ∀ b, b < 0 → a ≠ b → (TJxfd54e a).2.1 ≠ (TJxfd54e b).2.1 := by decide +kernel
theorem tyJxfd54e_ok : ∀ k, k < 0 → parseFieldDescriptor (TJxfd54e k).2.2.1 = some (tyJxfd54e k) := by decide +kernel
def RJx3cf43 : String := "java/lang/constant/ConstantDesc"
def TJx3cf43 : u_T := fun k => match k with
  | _ => ("", "", "", false)
def tyJx3cf43 : Nat → FieldType := fun k => match k with
  | _ => .int
theorem nmJx3cf43 : ∀ a, a < 0 → ∀ b, b < 0 → a ≠ b → (TJx3cf43 a).2.1 ≠ (TJx3cf43 b).2.1 := by decide +kernel
theorem tyJx3cf43_ok : ∀ k, k < 0 → parseFieldDescriptor (TJx3cf43 k).2.2.1 = some (tyJx3cf43 k) := by decide +kernel
def RJxa1e45 : String := "java/util/AbstractCollection"
def TJxa1e45 : u_T := fun k => match k with
  | _ => ("", "", "", false)
def tyJxa1e45 : Nat → FieldType := fun k => match k with
  | _ => .int
theorem nmJxa1e45 : ∀ a, a < 0 → ∀ b, b < 0 → a ≠ b → (TJxa1e45 a).2.1 ≠ (TJxa1e45 b).2.1 := by decide +kernel
theorem tyJxa1e45_ok : ∀ k, k < 0 → parseFieldDescriptor (TJxa1e45 k).2.2.1 = some (tyJxa1e45 k) := by decide +kernel
abbrev cJxa1e45_init_da8c8 : ByteArray := prog_31_method_1_code
def yJxa1e45_init_da8c8 : MethodName := ⟨RJxa1e45, "<init>", "()V"⟩
def RJxc12de : String := "java/util/AbstractList"
def TJxc12de : u_T := fun k => match k with
  | _ => ("", "", "", false)
def tyJxc12de : Nat → FieldType := fun k => match k with
  | _ => .int
theorem nmJxc12de : ∀ a, a < 0 → ∀ b, b < 0 → a ≠ b → (TJxc12de a).2.1 ≠ (TJxc12de b).2.1 := by decide +kernel
theorem tyJxc12de_ok : ∀ k, k < 0 → parseFieldDescriptor (TJxc12de k).2.2.1 = some (tyJxc12de k) := by decide +kernel
abbrev cJxc12de_init_da8c8 : ByteArray := prog_32_method_1_code
def yJxc12de_init_da8c8 : MethodName := ⟨RJxc12de, "<init>", "()V"⟩
def RJx4a65c : String := "java/util/ArrayList"
def TJx4a65c : u_T := fun k => match k with
  | 0 => ("java/util/AbstractList", "modCount", "I", false)
  | 1 => ("java/util/ArrayList", "elementData", "[Ljava/lang/Object;", false)
  | _ => ("java/util/ArrayList", "size", "I", false)
def tyJx4a65c : Nat → FieldType := fun k => match k with
  | 0 => .int
  | 1 => .array (.object "java/lang/Object")
  | _ => .int
theorem nmJx4a65c : ∀ a, a < 3 → ∀ b, b < 3 → a ≠ b → (TJx4a65c a).2.1 ≠ (TJx4a65c b).2.1 := by decide +kernel
theorem tyJx4a65c_ok : ∀ k, k < 3 → parseFieldDescriptor (TJx4a65c k).2.2.1 = some (tyJx4a65c k) := by decide +kernel
abbrev cJx4a65c_init_da8c8 : ByteArray := prog_33_method_2_code
def yJx4a65c_init_da8c8 : MethodName := ⟨RJx4a65c, "<init>", "()V"⟩
abbrev cJx4a65c_grow_92f84 : ByteArray := prog_33_method_6_code
def yJx4a65c_grow_92f84 : MethodName := ⟨RJx4a65c, "grow", "(I)[Ljava/lang/Object;"⟩
abbrev cJx4a65c_grow_d5877 : ByteArray := prog_33_method_7_code
def yJx4a65c_grow_d5877 : MethodName := ⟨RJx4a65c, "grow", "()[Ljava/lang/Object;"⟩
abbrev cJx4a65c_size_8abf5 : ByteArray := prog_33_method_8_code
def yJx4a65c_size_8abf5 : MethodName := ⟨RJx4a65c, "size", "()I"⟩
abbrev cJx4a65c_elementData_915e3 : ByteArray := prog_33_method_18_code
def yJx4a65c_elementData_915e3 : MethodName := ⟨RJx4a65c, "elementData", "(I)Ljava/lang/Object;"⟩
abbrev cJx4a65c_get_915e3 : ByteArray := prog_33_method_20_code
def yJx4a65c_get_915e3 : MethodName := ⟨RJx4a65c, "get", "(I)Ljava/lang/Object;"⟩
abbrev cJx4a65c_add_72be8 : ByteArray := prog_33_method_24_code
def yJx4a65c_add_72be8 : MethodName := ⟨RJx4a65c, "add", "(Ljava/lang/Object;[Ljava/lang/Object;I)V"⟩
abbrev cJx4a65c_add_9ea2d : ByteArray := prog_33_method_25_code
def yJx4a65c_add_9ea2d : MethodName := ⟨RJx4a65c, "add", "(Ljava/lang/Object;)Z"⟩
abbrev cJx4a65c_clear_da8c8 : ByteArray := prog_33_method_40_code
def yJx4a65c_clear_da8c8 : MethodName := ⟨RJx4a65c, "clear", "()V"⟩
def RJ7 : String := "java/util/Arrays"
def TJ7 : u_T := fun k => match k with
  | _ => ("", "", "", false)
def tyJ7 : Nat → FieldType := fun k => match k with
  | _ => .int
theorem nmJ7 : ∀ a, a < 0 → ∀ b, b < 0 → a ≠ b → (TJ7 a).2.1 ≠ (TJ7 b).2.1 := by decide +kernel
theorem tyJ7_ok : ∀ k, k < 0 → parseFieldDescriptor (TJ7 k).2.2.1 = some (tyJ7 k) := by decide +kernel
abbrev cJ7_fill_d0a16 : ByteArray := prog_34_method_101_code
def yJ7_fill_d0a16 : MethodName := ⟨RJ7, "fill", "([JJ)V"⟩
abbrev cJ7_copyOf_1904c : ByteArray := prog_34_method_119_code
def yJ7_copyOf_1904c : MethodName := ⟨RJ7, "copyOf", "([Ljava/lang/Object;I)[Ljava/lang/Object;"⟩
abbrev cJ7_copyOf_6403c : ByteArray := prog_34_method_120_code
def yJ7_copyOf_6403c : MethodName := ⟨RJ7, "copyOf", "([Ljava/lang/Object;ILjava/lang/Class;)[Ljava/lang/Object;"⟩
def RJx5ef63 : String := "java/util/Collection"
def TJx5ef63 : u_T := fun k => match k with
  | _ => ("", "", "", false)
def tyJx5ef63 : Nat → FieldType := fun k => match k with
  | _ => .int
theorem nmJx5ef63 : ∀ a, a < 0 → ∀ b, b < 0 → a ≠ b → (TJx5ef63 a).2.1 ≠ (TJx5ef63 b).2.1 := by decide +kernel
theorem tyJx5ef63_ok : ∀ k, k < 0 → parseFieldDescriptor (TJx5ef63 k).2.2.1 = some (tyJx5ef63 k) := by decide +kernel
def RJxbd725 : String := "java/util/List"
def TJxbd725 : u_T := fun k => match k with
  | _ => ("", "", "", false)
def tyJxbd725 : Nat → FieldType := fun k => match k with
  | _ => .int
theorem nmJxbd725 : ∀ a, a < 0 → ∀ b, b < 0 → a ≠ b → (TJxbd725 a).2.1 ≠ (TJxbd725 b).2.1 := by decide +kernel
theorem tyJxbd725_ok : ∀ k, k < 0 → parseFieldDescriptor (TJxbd725 k).2.2.1 = some (tyJxbd725 k) := by decide +kernel
def RJ15 : String := "java/util/Objects"
def TJ15 : u_T := fun k => match k with
  | _ => ("", "", "", false)
def tyJ15 : Nat → FieldType := fun k => match k with
  | _ => .int
theorem nmJ15 : ∀ a, a < 0 → ∀ b, b < 0 → a ≠ b → (TJ15 a).2.1 ≠ (TJ15 b).2.1 := by decide +kernel
theorem tyJ15_ok : ∀ k, k < 0 → parseFieldDescriptor (TJ15 k).2.2.1 = some (tyJ15 k) := by decide +kernel
abbrev cJ15_checkIndex_7cf53 : ByteArray := prog_37_method_17_code
def yJ15_checkIndex_7cf53 : MethodName := ⟨RJ15, "checkIndex", "(II)I"⟩
def RJxf0a74 : String := "java/util/RandomAccess"
def TJxf0a74 : u_T := fun k => match k with
  | _ => ("", "", "", false)
def tyJxf0a74 : Nat → FieldType := fun k => match k with
  | _ => .int
theorem nmJxf0a74 : ∀ a, a < 0 → ∀ b, b < 0 → a ≠ b → (TJxf0a74 a).2.1 ≠ (TJxf0a74 b).2.1 := by decide +kernel
theorem tyJxf0a74_ok : ∀ k, k < 0 → parseFieldDescriptor (TJxf0a74 k).2.2.1 = some (tyJxf0a74 k) := by decide +kernel
def RJxa66e6 : String := "java/util/SequencedCollection"
def TJxa66e6 : u_T := fun k => match k with
  | _ => ("", "", "", false)
def tyJxa66e6 : Nat → FieldType := fun k => match k with
  | _ => .int
theorem nmJxa66e6 : ∀ a, a < 0 → ∀ b, b < 0 → a ≠ b → (TJxa66e6 a).2.1 ≠ (TJxa66e6 b).2.1 := by decide +kernel
theorem tyJxa66e6_ok : ∀ k, k < 0 → parseFieldDescriptor (TJxa66e6 k).2.2.1 = some (tyJxa66e6 k) := by decide +kernel
def RJ8 : String := "jdk/internal/util/ArraysSupport"
def TJ8 : u_T := fun k => match k with
  | _ => ("", "", "", false)
def tyJ8 : Nat → FieldType := fun k => match k with
  | _ => .int
theorem nmJ8 : ∀ a, a < 0 → ∀ b, b < 0 → a ≠ b → (TJ8 a).2.1 ≠ (TJ8 b).2.1 := by decide +kernel
theorem tyJ8_ok : ∀ k, k < 0 → parseFieldDescriptor (TJ8 k).2.2.1 = some (tyJ8 k) := by decide +kernel
abbrev cJ8_newLength_cabcc : ByteArray := prog_40_method_27_code
def yJ8_newLength_cabcc : MethodName := ⟨RJ8, "newLength", "(III)I"⟩
abbrev cJ8_hugeLength_7cf53 : ByteArray := prog_40_method_28_code
def yJ8_hugeLength_7cf53 : MethodName := ⟨RJ8, "hugeLength", "(II)I"⟩
def RJ3 : String := "jdk/internal/util/Preconditions"
def TJ3 : u_T := fun k => match k with
  | _ => ("", "", "", false)
def tyJ3 : Nat → FieldType := fun k => match k with
  | _ => .int
theorem nmJ3 : ∀ a, a < 0 → ∀ b, b < 0 → a ≠ b → (TJ3 a).2.1 ≠ (TJ3 b).2.1 := by decide +kernel
theorem tyJ3_ok : ∀ k, k < 0 → parseFieldDescriptor (TJ3 k).2.2.1 = some (tyJ3 k) := by decide +kernel
abbrev cJ3_checkIndex_8e157 : ByteArray := prog_41_method_11_code
def yJ3_checkIndex_8e157 : MethodName := ⟨RJ3, "checkIndex", "(IILjava/util/function/BiFunction;)I"⟩
abbrev cJ3_checkFromToIndex_8c36e : ByteArray := prog_41_method_12_code
def yJ3_checkFromToIndex_8c36e : MethodName := ⟨RJ3, "checkFromToIndex", "(IIILjava/util/function/BiFunction;)I"⟩
def RL : String := "TwoServesLaw"
abbrev cL_law : ByteArray := code
def yL_law : MethodName := ⟨RL, "law", "([I)Z"⟩
abbrev vwCl : List vw_C := [(RJ6, TJ6, 1), (RJx4a65c, TJx4a65c, 3), (RX0, TX0, 6), (RX1, TX1, 3), (RX2, TX2, 3), (RX3, TX3, 3), (RX4, TX4, 17), (RX5, TX5, 3), (RX6, TX6, 3), (RX7, TX7, 3), (RX8, TX8, 3), (RX9, TX9, 3), (RX10, TX10, 3), (RX11, TX11, 13), (RX12, TX12, 63)]
