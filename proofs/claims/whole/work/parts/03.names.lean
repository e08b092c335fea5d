/-! ===== BEGIN printed: names, fields, word lists, decode rows ===== -/
def RX0 : String := "ContextUnfolder$BlockReader"
def TX0 : u_T := fun k => match k with
  | 0 => ("ContextUnfolder$BlockReader", "letters", "LContextUnfolder$LetterReader;", true)
  | 1 => ("ContextUnfolder$BlockReader", "commandCode", "LContextUnfolder$Code;", true)
  | 2 => ("ContextUnfolder$BlockReader", "distanceCode", "LContextUnfolder$Code;", true)
  | _ => ("ContextUnfolder$BlockReader", "end", "I", false)
def tyX0 : Nat → FieldType := fun k => match k with
  | 0 => .object "ContextUnfolder$LetterReader"
  | 1 => .object "ContextUnfolder$Code"
  | 2 => .object "ContextUnfolder$Code"
  | _ => .int
abbrev wsX00 : List Cond := u_ws RX0 TX0 4
theorem nmX0 : ∀ a, a < 4 → ∀ b, b < 4 → a ≠ b → (TX0 a).2.1 ≠ (TX0 b).2.1 := by decide +kernel
theorem tyX0_ok : ∀ k, k < 4 → parseFieldDescriptor (TX0 k).2.2.1 = some (tyX0 k) := by decide +kernel
abbrev cX0_init : ByteArray := prog_2_method_1_code
def yX0_init : MethodName := ⟨RX0, "<init>", "()V"⟩
abbrev cX0_readBlock : ByteArray := prog_2_method_2_code
def yX0_readBlock : MethodName := ⟨RX0, "readBlock", "(LContextUnfolder$Stream;LContextUnfolder$Output;)Z"⟩
abbrev cX0_readPlain : ByteArray := prog_2_method_3_code
def yX0_readPlain : MethodName := ⟨RX0, "readPlain", "(LContextUnfolder$Stream;LContextUnfolder$Output;)V"⟩
abbrev cX0_readCoded : ByteArray := prog_2_method_4_code
def yX0_readCoded : MethodName := ⟨RX0, "readCoded", "(LContextUnfolder$Stream;LContextUnfolder$Output;)V"⟩
abbrev cX0_readCommand : ByteArray := prog_2_method_5_code
def yX0_readCommand : MethodName := ⟨RX0, "readCommand", "(LContextUnfolder$Stream;LContextUnfolder$Output;)V"⟩
abbrev cX0_readPiece : ByteArray := prog_2_method_6_code
def yX0_readPiece : MethodName := ⟨RX0, "readPiece", "(LContextUnfolder$Stream;LContextUnfolder$Output;I)V"⟩
abbrev cX0_readDistance : ByteArray := prog_2_method_7_code
def yX0_readDistance : MethodName := ⟨RX0, "readDistance", "(LContextUnfolder$Stream;I)I"⟩
abbrev cX0_addWord : ByteArray := prog_2_method_8_code
def yX0_addWord : MethodName := ⟨RX0, "addWord", "(LContextUnfolder$Output;II)V"⟩
abbrev cX0_refuseBeyondEnd : ByteArray := prog_2_method_9_code
def yX0_refuseBeyondEnd : MethodName := ⟨RX0, "refuseBeyondEnd", "(LContextUnfolder$Output;I)V"⟩
def RX1 : String := "ContextUnfolder$Code"
def TX1 : u_T := fun k => match k with
  | 0 => ("ContextUnfolder$Code", "lengths", "[I", true)
  | 1 => ("ContextUnfolder$Code", "ordered", "[I", true)
  | _ => ("ContextUnfolder$Code", "wordsOfLength", "[I", true)
def tyX1 : Nat → FieldType := fun k => match k with
  | 0 => .array .int
  | 1 => .array .int
  | _ => .array .int
abbrev wsX10 : List Cond := u_ws RX1 TX1 3
theorem nmX1 : ∀ a, a < 3 → ∀ b, b < 3 → a ≠ b → (TX1 a).2.1 ≠ (TX1 b).2.1 := by decide +kernel
theorem tyX1_ok : ∀ k, k < 3 → parseFieldDescriptor (TX1 k).2.2.1 = some (tyX1 k) := by decide +kernel
abbrev cX1_init : ByteArray := prog_3_method_1_code
def yX1_init : MethodName := ⟨RX1, "<init>", "()V"⟩
abbrev cX1_readCode : ByteArray := prog_3_method_2_code
def yX1_readCode : MethodName := ⟨RX1, "readCode", "(LContextUnfolder$Stream;I)V"⟩
abbrev cX1_readSymbol : ByteArray := prog_3_method_3_code
def yX1_readSymbol : MethodName := ⟨RX1, "readSymbol", "(LContextUnfolder$Stream;)I"⟩
abbrev cX1_readSimple : ByteArray := prog_3_method_4_code
def yX1_readSimple : MethodName := ⟨RX1, "readSimple", "(LContextUnfolder$Stream;I)V"⟩
abbrev cX1_readLengths : ByteArray := prog_3_method_5_code
def yX1_readLengths : MethodName := ⟨RX1, "readLengths", "(LContextUnfolder$Stream;I)V"⟩
abbrev cX1_orderSymbols : ByteArray := prog_3_method_6_code
def yX1_orderSymbols : MethodName := ⟨RX1, "orderSymbols", "(I)V"⟩
abbrev cX1_symbolBits : ByteArray := prog_3_method_7_code
def yX1_symbolBits : MethodName := ⟨RX1, "symbolBits", "(I)I"⟩
def RX2 : String := "ContextUnfolder$LetterReader"
def TX2 : u_T := fun k => match k with
  | 0 => ("ContextUnfolder$LetterReader", "typeCode", "LContextUnfolder$Code;", true)
  | 1 => ("ContextUnfolder$LetterReader", "letterCodes", "[LContextUnfolder$Code;", true)
  | 2 => ("ContextUnfolder$LetterReader", "modes", "[I", true)
  | 3 => ("ContextUnfolder$LetterReader", "map", "[I", true)
  | 4 => ("ContextUnfolder$LetterReader", "row", "[I", true)
  | 5 => ("ContextUnfolder$LetterReader", "types", "I", false)
  | 6 => ("ContextUnfolder$LetterReader", "type", "I", false)
  | 7 => ("ContextUnfolder$LetterReader", "typeBefore", "I", false)
  | _ => ("ContextUnfolder$LetterReader", "stretchLeft", "I", false)
def tyX2 : Nat → FieldType := fun k => match k with
  | 0 => .object "ContextUnfolder$Code"
  | 1 => .array (.object "ContextUnfolder$Code")
  | 2 => .array .int
  | 3 => .array .int
  | 4 => .array .int
  | 5 => .int
  | 6 => .int
  | 7 => .int
  | _ => .int
abbrev wsX20 : List Cond := u_ws RX2 TX2 9
theorem nmX2 : ∀ a, a < 9 → ∀ b, b < 9 → a ≠ b → (TX2 a).2.1 ≠ (TX2 b).2.1 := by decide +kernel
theorem tyX2_ok : ∀ k, k < 9 → parseFieldDescriptor (TX2 k).2.2.1 = some (tyX2 k) := by decide +kernel
abbrev cX2_init : ByteArray := prog_4_method_1_code
def yX2_init : MethodName := ⟨RX2, "<init>", "()V"⟩
abbrev cX2_readTypes : ByteArray := prog_4_method_2_code
def yX2_readTypes : MethodName := ⟨RX2, "readTypes", "(LContextUnfolder$Stream;)V"⟩
abbrev cX2_readLetterCodes : ByteArray := prog_4_method_3_code
def yX2_readLetterCodes : MethodName := ⟨RX2, "readLetterCodes", "(LContextUnfolder$Stream;)V"⟩
abbrev cX2_stretchIsOver : ByteArray := prog_4_method_4_code
def yX2_stretchIsOver : MethodName := ⟨RX2, "stretchIsOver", "()Z"⟩
abbrev cX2_readStretch : ByteArray := prog_4_method_5_code
def yX2_readStretch : MethodName := ⟨RX2, "readStretch", "(LContextUnfolder$Stream;)V"⟩
abbrev cX2_readLetter : ByteArray := prog_4_method_6_code
def yX2_readLetter : MethodName := ⟨RX2, "readLetter", "(LContextUnfolder$Stream;II)I"⟩
abbrev cX2_readMap : ByteArray := prog_4_method_7_code
def yX2_readMap : MethodName := ⟨RX2, "readMap", "(LContextUnfolder$Stream;I)V"⟩
abbrev cX2_replacePlaces : ByteArray := prog_4_method_8_code
def yX2_replacePlaces : MethodName := ⟨RX2, "replacePlaces", "(I)V"⟩
abbrev cX2_context : ByteArray := prog_4_method_9_code
def yX2_context : MethodName := ⟨RX2, "context", "(III)I"⟩
def RX3 : String := "ContextUnfolder$Output"
def TX3 : u_T := fun k => match k with
  | 0 => ("ContextUnfolder$Output", "letters", "[I", true)
  | 1 => ("ContextUnfolder$Output", "counts", "[I", true)
  | _ => ("ContextUnfolder$Output", "size", "I", false)
def tyX3 : Nat → FieldType := fun k => match k with
  | 0 => .array .int
  | 1 => .array .int
  | _ => .int
abbrev wsX30 : List Cond := u_ws RX3 TX3 3
theorem nmX3 : ∀ a, a < 3 → ∀ b, b < 3 → a ≠ b → (TX3 a).2.1 ≠ (TX3 b).2.1 := by decide +kernel
theorem tyX3_ok : ∀ k, k < 3 → parseFieldDescriptor (TX3 k).2.2.1 = some (tyX3 k) := by decide +kernel
abbrev cX3_init : ByteArray := prog_5_method_1_code
def yX3_init : MethodName := ⟨RX3, "<init>", "()V"⟩
abbrev cX3_clear : ByteArray := prog_5_method_2_code
def yX3_clear : MethodName := ⟨RX3, "clear", "()V"⟩
abbrev cX3_add : ByteArray := prog_5_method_3_code
def yX3_add : MethodName := ⟨RX3, "add", "(II)V"⟩
abbrev cX3_back : ByteArray := prog_5_method_4_code
def yX3_back : MethodName := ⟨RX3, "back", "(I)I"⟩
abbrev cX3_remember : ByteArray := prog_5_method_5_code
def yX3_remember : MethodName := ⟨RX3, "remember", "(I)V"⟩
def RX4 : String := "ContextUnfolder$Stream"
def TX4 : u_T := fun k => match k with
  | 0 => ("ContextUnfolder$Stream", "bits", "[Z", true)
  | 1 => ("ContextUnfolder$Stream", "size", "I", false)
  | _ => ("ContextUnfolder$Stream", "position", "I", false)
def tyX4 : Nat → FieldType := fun k => match k with
  | 0 => .array .boolean
  | 1 => .int
  | _ => .int
abbrev wsX40 : List Cond := u_ws RX4 TX4 3
theorem nmX4 : ∀ a, a < 3 → ∀ b, b < 3 → a ≠ b → (TX4 a).2.1 ≠ (TX4 b).2.1 := by decide +kernel
theorem tyX4_ok : ∀ k, k < 3 → parseFieldDescriptor (TX4 k).2.2.1 = some (tyX4 k) := by decide +kernel
abbrev cX4_init : ByteArray := prog_6_method_1_code
def yX4_init : MethodName := ⟨RX4, "<init>", "()V"⟩
abbrev cX4_append : ByteArray := prog_6_method_2_code
def yX4_append : MethodName := ⟨RX4, "append", "(II)V"⟩
abbrev cX4_readNumber : ByteArray := prog_6_method_3_code
def yX4_readNumber : MethodName := ⟨RX4, "readNumber", "(I)I"⟩
def RX5 : String := "ContextUnfolder"
def TX5 : u_T := fun k => match k with
  | 0 => ("ContextUnfolder", "stream", "LContextUnfolder$Stream;", true)
  | 1 => ("ContextUnfolder", "blocks", "LContextUnfolder$BlockReader;", true)
  | 2 => ("ContextUnfolder", "shown", "LContextUnfolder$Output;", false)
  | _ => ("ContextUnfolder", "spare", "LContextUnfolder$Output;", false)
def tyX5 : Nat → FieldType := fun k => match k with
  | 0 => .object "ContextUnfolder$Stream"
  | 1 => .object "ContextUnfolder$BlockReader"
  | 2 => .object "ContextUnfolder$Output"
  | _ => .object "ContextUnfolder$Output"
abbrev wsX50 : List Cond := u_ws RX5 TX5 4
theorem nmX5 : ∀ a, a < 4 → ∀ b, b < 4 → a ≠ b → (TX5 a).2.1 ≠ (TX5 b).2.1 := by decide +kernel
theorem tyX5_ok : ∀ k, k < 4 → parseFieldDescriptor (TX5 k).2.2.1 = some (tyX5 k) := by decide +kernel
abbrev cX5_init : ByteArray := prog_1_method_1_code
def yX5_init : MethodName := ⟨RX5, "<init>", "()V"⟩
abbrev cX5_put : ByteArray := prog_1_method_2_code
def yX5_put : MethodName := ⟨RX5, "put", "(II)I"⟩
abbrev cX5_bit : ByteArray := prog_1_method_3_code
def yX5_bit : MethodName := ⟨RX5, "bit", "(I)Z"⟩
abbrev cX5_flip : ByteArray := prog_1_method_4_code
def yX5_flip : MethodName := ⟨RX5, "flip", "(I)V"⟩
abbrev cX5_cut : ByteArray := prog_1_method_5_code
def yX5_cut : MethodName := ⟨RX5, "cut", "(I)I"⟩
abbrev cX5_unfold : ByteArray := prog_1_method_6_code
def yX5_unfold : MethodName := ⟨RX5, "unfold", "()I"⟩
abbrev cX5_taken : ByteArray := prog_1_method_7_code
def yX5_taken : MethodName := ⟨RX5, "taken", "()I"⟩
abbrev cX5_letter : ByteArray := prog_1_method_8_code
def yX5_letter : MethodName := ⟨RX5, "letter", "(I)I"⟩
abbrev cX5_count : ByteArray := prog_1_method_9_code
def yX5_count : MethodName := ⟨RX5, "count", "(I)I"⟩
def RX6 : String := "ContextUnfolderModel"
def TX6 : u_T := fun k => match k with
  | 0 => ("ContextUnfolderModel", "thrown", "I", false)
  | 1 => ("ContextUnfolderModel", "length", "I", false)
  | 2 => ("ContextUnfolderModel", "stream", "[Z", false)
  | 3 => ("ContextUnfolderModel", "at", "I", false)
  | 4 => ("ContextUnfolderModel", "wrong", "Z", false)
  | 5 => ("ContextUnfolderModel", "letters", "I", false)
  | 6 => ("ContextUnfolderModel", "output", "[I", false)
  | 7 => ("ContextUnfolderModel", "made", "I", false)
  | 8 => ("ContextUnfolderModel", "making", "[I", false)
  | 9 => ("ContextUnfolderModel", "counts", "[I", false)
  | 10 => ("ContextUnfolderModel", "counting", "[I", false)
  | 11 => ("ContextUnfolderModel", "lengths", "[I", false)
  | 12 => ("ContextUnfolderModel", "alone", "[I", false)
  | 13 => ("ContextUnfolderModel", "simple", "[I", false)
  | 14 => ("ContextUnfolderModel", "types", "I", false)
  | 15 => ("ContextUnfolderModel", "type", "I", false)
  | 16 => ("ContextUnfolderModel", "before", "I", false)
  | 17 => ("ContextUnfolderModel", "stretch", "I", false)
  | 18 => ("ContextUnfolderModel", "modes", "[I", false)
  | 19 => ("ContextUnfolderModel", "map", "[I", false)
  | _ => ("ContextUnfolderModel", "row", "[I", false)
def tyX6 : Nat → FieldType := fun k => match k with
  | 0 => .int
  | 1 => .int
  | 2 => .array .boolean
  | 3 => .int
  | 4 => .boolean
  | 5 => .int
  | 6 => .array .int
  | 7 => .int
  | 8 => .array .int
  | 9 => .array .int
  | 10 => .array .int
  | 11 => .array .int
  | 12 => .array .int
  | 13 => .array .int
  | 14 => .int
  | 15 => .int
  | 16 => .int
  | 17 => .int
  | 18 => .array .int
  | 19 => .array .int
  | _ => .array .int
abbrev wsX60 : List Cond := u_ws RX6 TX6 21
theorem nmX6 : ∀ a, a < 21 → ∀ b, b < 21 → a ≠ b → (TX6 a).2.1 ≠ (TX6 b).2.1 := by decide +kernel
theorem tyX6_ok : ∀ k, k < 21 → parseFieldDescriptor (TX6 k).2.2.1 = some (tyX6 k) := by decide +kernel
abbrev cX6_init : ByteArray := prog_8_method_1_code
def yX6_init : MethodName := ⟨RX6, "<init>", "()V"⟩
abbrev cX6_thrown : ByteArray := prog_8_method_2_code
def yX6_thrown : MethodName := ⟨RX6, "thrown", "()I"⟩
abbrev cX6_first : ByteArray := prog_8_method_3_code
def yX6_first : MethodName := ⟨RX6, "first", "([I)V"⟩
abbrev cX6_put : ByteArray := prog_8_method_4_code
def yX6_put : MethodName := ⟨RX6, "put", "(II)I"⟩
abbrev cX6_noBit : ByteArray := prog_8_method_5_code
def yX6_noBit : MethodName := ⟨RX6, "noBit", "(I)Z"⟩
abbrev cX6_bit : ByteArray := prog_8_method_6_code
def yX6_bit : MethodName := ⟨RX6, "bit", "(I)Z"⟩
abbrev cX6_flip : ByteArray := prog_8_method_7_code
def yX6_flip : MethodName := ⟨RX6, "flip", "(I)V"⟩
abbrev cX6_cut : ByteArray := prog_8_method_8_code
def yX6_cut : MethodName := ⟨RX6, "cut", "(I)I"⟩
abbrev cX6_number : ByteArray := prog_8_method_9_code
def yX6_number : MethodName := ⟨RX6, "number", "(I)I"⟩
abbrev cX6_widthOf : ByteArray := prog_8_method_10_code
def yX6_widthOf : MethodName := ⟨RX6, "widthOf", "(I)I"⟩
abbrev cX6_readSimple : ByteArray := prog_8_method_11_code
def yX6_readSimple : MethodName := ⟨RX6, "readSimple", "(II)V"⟩
abbrev cX6_readCode : ByteArray := prog_8_method_12_code
def yX6_readCode : MethodName := ⟨RX6, "readCode", "(II)V"⟩
abbrev cX6_wordOf : ByteArray := prog_8_method_13_code
def yX6_wordOf : MethodName := ⟨RX6, "wordOf", "(II)I"⟩
abbrev cX6_symbol : ByteArray := prog_8_method_14_code
def yX6_symbol : MethodName := ⟨RX6, "symbol", "(I)I"⟩
abbrev cX6_plain : ByteArray := prog_8_method_15_code
def yX6_plain : MethodName := ⟨RX6, "plain", "(I)V"⟩
abbrev cX6_add : ByteArray := prog_8_method_16_code
def yX6_add : MethodName := ⟨RX6, "add", "(I)V"⟩
abbrev cX6_readMap : ByteArray := prog_8_method_17_code
def yX6_readMap : MethodName := ⟨RX6, "readMap", "(I)V"⟩
abbrev cX6_readHead : ByteArray := prog_8_method_18_code
def yX6_readHead : MethodName := ⟨RX6, "readHead", "()V"⟩
abbrev cX6_turn : ByteArray := prog_8_method_19_code
def yX6_turn : MethodName := ⟨RX6, "turn", "()V"⟩
abbrev cX6_context : ByteArray := prog_8_method_20_code
def yX6_context : MethodName := ⟨RX6, "context", "()I"⟩
abbrev cX6_readLetter : ByteArray := prog_8_method_21_code
def yX6_readLetter : MethodName := ⟨RX6, "readLetter", "()V"⟩
abbrev cX6_baseOf : ByteArray := prog_8_method_22_code
def yX6_baseOf : MethodName := ⟨RX6, "baseOf", "(II)I"⟩
abbrev cX6_wordLetter : ByteArray := prog_8_method_23_code
def yX6_wordLetter : MethodName := ⟨RX6, "wordLetter", "(III)I"⟩
abbrev cX6_dictionary : ByteArray := prog_8_method_24_code
def yX6_dictionary : MethodName := ⟨RX6, "dictionary", "(III)I"⟩
abbrev cX6_piece : ByteArray := prog_8_method_25_code
def yX6_piece : MethodName := ⟨RX6, "piece", "(II)I"⟩
abbrev cX6_commands : ByteArray := prog_8_method_26_code
def yX6_commands : MethodName := ⟨RX6, "commands", "(I)V"⟩
abbrev cX6_block : ByteArray := prog_8_method_27_code
def yX6_block : MethodName := ⟨RX6, "block", "()Z"⟩
abbrev cX6_unfold : ByteArray := prog_8_method_28_code
def yX6_unfold : MethodName := ⟨RX6, "unfold", "()I"⟩
abbrev cX6_taken : ByteArray := prog_8_method_29_code
def yX6_taken : MethodName := ⟨RX6, "taken", "()I"⟩
abbrev cX6_letter : ByteArray := prog_8_method_30_code
def yX6_letter : MethodName := ⟨RX6, "letter", "(I)I"⟩
abbrev cX6_count : ByteArray := prog_8_method_31_code
def yX6_count : MethodName := ⟨RX6, "count", "(I)I"⟩
def RJx8e188 : String := "java/lang/Cloneable"
def TJx8e188 : u_T := fun k => match k with
  | _ => ("", "", "", false)
def tyJx8e188 : Nat → FieldType := fun k => match k with
  | _ => .int
abbrev wsJx8e1880 : List Cond := u_ws RJx8e188 TJx8e188 0
theorem nmJx8e188 : ∀ a, a < 0 → ∀ b, b < 0 → a ≠ b → (TJx8e188 a).2.1 ≠ (TJx8e188 b).2.1 := by decide +kernel
theorem tyJx8e188_ok : ∀ k, k < 0 → parseFieldDescriptor (TJx8e188 k).2.2.1 = some (tyJx8e188 k) := by decide +kernel
def RJ0 : String := "java/lang/String"
def TJ0 : u_T := fun k => match k with
  | _ => ("", "", "", false)
def tyJ0 : Nat → FieldType := fun k => match k with
  | _ => .int
abbrev wsJ00 : List Cond := u_ws RJ0 TJ0 0
theorem nmJ0 : ∀ a, a < 0 → ∀ b, b < 0 → a ≠ b → (TJ0 a).2.1 ≠ (TJ0 b).2.1 := by decide +kernel
theorem tyJ0_ok : ∀ k, k < 0 → parseFieldDescriptor (TJ0 k).2.2.1 = some (tyJ0 k) := by decide +kernel
def RJ10 : String := "java/lang/System"
def TJ10 : u_T := fun k => match k with
  | _ => ("", "", "", false)
def tyJ10 : Nat → FieldType := fun k => match k with
  | _ => .int
abbrev wsJ100 : List Cond := u_ws RJ10 TJ10 0
theorem nmJ10 : ∀ a, a < 0 → ∀ b, b < 0 → a ≠ b → (TJ10 a).2.1 ≠ (TJ10 b).2.1 := by decide +kernel
theorem tyJ10_ok : ∀ k, k < 0 → parseFieldDescriptor (TJ10 k).2.2.1 = some (tyJ10 k) := by decide +kernel
def RJ7 : String := "java/util/Arrays"
def TJ7 : u_T := fun k => match k with
  | _ => ("", "", "", false)
def tyJ7 : Nat → FieldType := fun k => match k with
  | _ => .int
abbrev wsJ70 : List Cond := u_ws RJ7 TJ7 0
theorem nmJ7 : ∀ a, a < 0 → ∀ b, b < 0 → a ≠ b → (TJ7 a).2.1 ≠ (TJ7 b).2.1 := by decide +kernel
theorem tyJ7_ok : ∀ k, k < 0 → parseFieldDescriptor (TJ7 k).2.2.1 = some (tyJ7 k) := by decide +kernel
abbrev cJ7_fill_53178 : ByteArray := prog_18_method_103_code
def yJ7_fill_53178 : MethodName := ⟨RJ7, "fill", "([II)V"⟩
def RL : String := "ContextUnfolderLaw"
abbrev cL_put : ByteArray := method_3_code
def yL_put : MethodName := ⟨RL, "put", "(LContextUnfolder;II[J)I"⟩
abbrev cL_bit : ByteArray := method_4_code
def yL_bit : MethodName := ⟨RL, "bit", "(LContextUnfolder;I[J)I"⟩
abbrev cL_flip : ByteArray := method_5_code
def yL_flip : MethodName := ⟨RL, "flip", "(LContextUnfolder;I)I"⟩
abbrev cL_cut : ByteArray := method_6_code
def yL_cut : MethodName := ⟨RL, "cut", "(LContextUnfolder;I[J)I"⟩
abbrev cL_unfold : ByteArray := method_7_code
def yL_unfold : MethodName := ⟨RL, "unfold", "(LContextUnfolder;[J)I"⟩
abbrev cL_letter : ByteArray := method_8_code
def yL_letter : MethodName := ⟨RL, "letter", "(LContextUnfolder;I[J)I"⟩
abbrev cL_count : ByteArray := method_9_code
def yL_count : MethodName := ⟨RL, "count", "(LContextUnfolder;I[J)I"⟩
abbrev cL_law : ByteArray := code
def yL_law : MethodName := ⟨RL, "law", "([I)Z"⟩
abbrev vwCl : List vw_C := [(RX0, TX0, 4), (RX1, TX1, 3), (RX2, TX2, 9), (RX3, TX3, 3), (RX4, TX4, 3), (RX5, TX5, 4), (RX6, TX6, 21)]
