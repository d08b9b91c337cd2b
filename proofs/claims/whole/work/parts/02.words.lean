def R_gn : String := "GameNotation"
def R_fm : String := "GameNotation$Form"
def R_ln : String := "GameNotation$Line"
def R_ps : String := "GameNotation$Position"
def R_rd : String := "GameNotation$RecordReader"
def R_td : String := "GameNotation$Told"
def R_md : String := "GameNotationModel"
def R_lw : String := "GameNotationLaw"
def R_st : String := "java/lang/String"
def R_sl : String := "java/lang/StringLatin1"
def R_mt : String := "java/lang/Math"
def R_pc : String := "jdk/internal/util/Preconditions"
def R_ob : String := "java/lang/Object"
def T_fm : u_T := fun k => match k with
  | 0 => ("GameNotation$Form", "unsignedSize", "I", false)
  | 1 => ("GameNotation$Form", "sign", "I", false)
  | 2 => ("GameNotation$Form", "castling", "I", false)
  | 3 => ("GameNotation$Form", "kind", "I", false)
  | 4 => ("GameNotation$Form", "target", "I", false)
  | _ => ("GameNotation$Form", "becomes", "I", false)
def ty_fm : Nat → FieldType := fun k => match k with
  | 0 => .int
  | 1 => .int
  | 2 => .int
  | 3 => .int
  | 4 => .int
  | _ => .int
theorem nm_fm : ∀ a, a < 6 → ∀ b, b < 6 → a ≠ b → (T_fm a).2.1 ≠ (T_fm b).2.1 := by decide +kernel
theorem ty_fm_ok : ∀ k, k < 6 → parseFieldDescriptor (T_fm k).2.2.1 = some (ty_fm k) := by decide +kernel
def T_ln : u_T := fun k => match k with
  | 0 => ("GameNotation$Line", "letters", "[C", true)
  | _ => ("GameNotation$Line", "size", "I", false)
def ty_ln : Nat → FieldType := fun k => match k with
  | 0 => .array .char
  | _ => .int
theorem nm_ln : ∀ a, a < 2 → ∀ b, b < 2 → a ≠ b → (T_ln a).2.1 ≠ (T_ln b).2.1 := by decide +kernel
theorem ty_ln_ok : ∀ k, k < 2 → parseFieldDescriptor (T_ln k).2.2.1 = some (ty_ln k) := by decide +kernel
def T_ps : u_T := fun k => match k with
  | 0 => ("GameNotation$Position", "men", "[I", true)
  | 1 => ("GameNotation$Position", "side", "I", false)
  | 2 => ("GameNotation$Position", "rights", "I", false)
  | 3 => ("GameNotation$Position", "passant", "I", false)
  | 4 => ("GameNotation$Position", "clock", "I", false)
  | _ => ("GameNotation$Position", "number", "I", false)
def ty_ps : Nat → FieldType := fun k => match k with
  | 0 => .array .int
  | 1 => .int
  | 2 => .int
  | 3 => .int
  | 4 => .int
  | _ => .int
theorem nm_ps : ∀ a, a < 6 → ∀ b, b < 6 → a ≠ b → (T_ps a).2.1 ≠ (T_ps b).2.1 := by decide +kernel
theorem ty_ps_ok : ∀ k, k < 6 → parseFieldDescriptor (T_ps k).2.2.1 = some (ty_ps k) := by decide +kernel
def T_rd : u_T := fun k => match k with
  | _ => ("GameNotation$RecordReader", "place", "I", false)
def ty_rd : Nat → FieldType := fun k => match k with
  | _ => .int
theorem nm_rd : ∀ a, a < 1 → ∀ b, b < 1 → a ≠ b → (T_rd a).2.1 ≠ (T_rd b).2.1 := by decide +kernel
theorem ty_rd_ok : ∀ k, k < 1 → parseFieldDescriptor (T_rd k).2.2.1 = some (ty_rd k) := by decide +kernel
def T_td : u_T := fun k => match k with
  | 0 => ("GameNotation$Told", "moves", "[I", true)
  | 1 => ("GameNotation$Told", "signs", "[I", true)
  | _ => ("GameNotation$Told", "count", "I", false)
def ty_td : Nat → FieldType := fun k => match k with
  | 0 => .array .int
  | 1 => .array .int
  | _ => .int
theorem nm_td : ∀ a, a < 3 → ∀ b, b < 3 → a ≠ b → (T_td a).2.1 ≠ (T_td b).2.1 := by decide +kernel
theorem ty_td_ok : ∀ k, k < 3 → parseFieldDescriptor (T_td k).2.2.1 = some (ty_td k) := by decide +kernel
def T_gn : u_T := fun k => match k with
  | 0 => ("GameNotation", "line", "LGameNotation$Line;", true)
  | 1 => ("GameNotation", "trial", "LGameNotation$Line;", true)
  | 2 => ("GameNotation", "reader", "LGameNotation$RecordReader;", true)
  | 3 => ("GameNotation", "told", "LGameNotation$Told;", true)
  | 4 => ("GameNotation", "form", "LGameNotation$Form;", true)
  | 5 => ("GameNotation", "position", "LGameNotation$Position;", false)
  | _ => ("GameNotation", "spare", "LGameNotation$Position;", false)
def ty_gn : Nat → FieldType := fun k => match k with
  | 0 => .object "GameNotation$Line"
  | 1 => .object "GameNotation$Line"
  | 2 => .object "GameNotation$RecordReader"
  | 3 => .object "GameNotation$Told"
  | 4 => .object "GameNotation$Form"
  | 5 => .object "GameNotation$Position"
  | _ => .object "GameNotation$Position"
theorem nm_gn : ∀ a, a < 7 → ∀ b, b < 7 → a ≠ b → (T_gn a).2.1 ≠ (T_gn b).2.1 := by decide +kernel
theorem ty_gn_ok : ∀ k, k < 7 → parseFieldDescriptor (T_gn k).2.2.1 = some (ty_gn k) := by decide +kernel
def T_md : u_T := fun k => match k with
  | 0 => ("GameNotationModel", "thrown", "I", false)
  | 1 => ("GameNotationModel", "board", "[I", true)
  | 2 => ("GameNotationModel", "side", "I", false)
  | 3 => ("GameNotationModel", "rights", "I", false)
  | 4 => ("GameNotationModel", "passant", "I", false)
  | 5 => ("GameNotationModel", "clock", "I", false)
  | 6 => ("GameNotationModel", "number", "I", false)
  | 7 => ("GameNotationModel", "text", "[I", true)
  | 8 => ("GameNotationModel", "size", "I", false)
  | 9 => ("GameNotationModel", "told", "I", false)
  | 10 => ("GameNotationModel", "moves", "[I", true)
  | 11 => ("GameNotationModel", "signs", "[I", true)
  | 12 => ("GameNotationModel", "at", "I", false)
  | 13 => ("GameNotationModel", "newBoard", "[I", true)
  | 14 => ("GameNotationModel", "newSide", "I", false)
  | 15 => ("GameNotationModel", "newRights", "I", false)
  | 16 => ("GameNotationModel", "newPassant", "I", false)
  | 17 => ("GameNotationModel", "newClock", "I", false)
  | 18 => ("GameNotationModel", "newNumber", "I", false)
  | 19 => ("GameNotationModel", "out", "[I", true)
  | _ => ("GameNotationModel", "outs", "I", false)
def ty_md : Nat → FieldType := fun k => match k with
  | 0 => .int
  | 1 => .array .int
  | 2 => .int
  | 3 => .int
  | 4 => .int
  | 5 => .int
  | 6 => .int
  | 7 => .array .int
  | 8 => .int
  | 9 => .int
  | 10 => .array .int
  | 11 => .array .int
  | 12 => .int
  | 13 => .array .int
  | 14 => .int
  | 15 => .int
  | 16 => .int
  | 17 => .int
  | 18 => .int
  | 19 => .array .int
  | _ => .int
theorem nm_md : ∀ a, a < 21 → ∀ b, b < 21 → a ≠ b → (T_md a).2.1 ≠ (T_md b).2.1 := by decide +kernel
theorem ty_md_ok : ∀ k, k < 21 → parseFieldDescriptor (T_md k).2.2.1 = some (ty_md k) := by decide +kernel
abbrev vwCl : List vw_C := [(R_fm, T_fm, 6), (R_ln, T_ln, 2), (R_ps, T_ps, 6), (R_rd, T_rd, 1), (R_td, T_td, 3), (R_gn, T_gn, 7), (R_md, T_md, 21)]
abbrev b_gn_init : ByteArray := prog_1_method_1_code
def y_gn_init : MethodName := ⟨R_gn, "<init>", "()V"⟩
abbrev b_gn_addEmpty : ByteArray := prog_1_method_18_code
def y_gn_addEmpty : MethodName := ⟨R_gn, "addEmpty", "(I)V"⟩
abbrev b_gn_addPassant : ByteArray := prog_1_method_20_code
def y_gn_addPassant : MethodName := ⟨R_gn, "addPassant", "()V"⟩
abbrev b_gn_addRank : ByteArray := prog_1_method_17_code
def y_gn_addRank : MethodName := ⟨R_gn, "addRank", "(I)V"⟩
abbrev b_gn_addRanks : ByteArray := prog_1_method_16_code
def y_gn_addRanks : MethodName := ⟨R_gn, "addRanks", "()V"⟩
abbrev b_gn_addRights : ByteArray := prog_1_method_19_code
def y_gn_addRights : MethodName := ⟨R_gn, "addRights", "()V"⟩
abbrev b_gn_at : ByteArray := prog_1_method_9_code
def y_gn_at : MethodName := ⟨R_gn, "at", "(I)I"⟩
abbrev b_gn_attacked : ByteArray := prog_1_method_10_code
def y_gn_attacked : MethodName := ⟨R_gn, "attacked", "(II)Z"⟩
abbrev b_gn_becomesOf : ByteArray := prog_1_method_37_code
def y_gn_becomesOf : MethodName := ⟨R_gn, "becomesOf", "(I)I"⟩
abbrev b_gn_byteOf : ByteArray := prog_1_method_22_code
def y_gn_byteOf : MethodName := ⟨R_gn, "byteOf", "(JI)I"⟩
abbrev b_gn_castlingOf : ByteArray := prog_1_method_38_code
def y_gn_castlingOf : MethodName := ⟨R_gn, "castlingOf", "(ILGameNotation$Position;)I"⟩
abbrev b_gn_closeness : ByteArray := prog_1_method_21_code
def y_gn_closeness : MethodName := ⟨R_gn, "closeness", "(I)I"⟩
abbrev b_gn_fileOf : ByteArray := prog_1_method_26_code
def y_gn_fileOf : MethodName := ⟨R_gn, "fileOf", "(I)I"⟩
abbrev b_gn_find : ByteArray := prog_1_method_14_code
def y_gn_find : MethodName := ⟨R_gn, "find", "()I"⟩
abbrev b_gn_forget : ByteArray := prog_1_method_12_code
def y_gn_forget : MethodName := ⟨R_gn, "forget", "()V"⟩
abbrev b_gn_fromOf : ByteArray := prog_1_method_35_code
def y_gn_fromOf : MethodName := ⟨R_gn, "fromOf", "(I)I"⟩
abbrev b_gn_isMove : ByteArray := prog_1_method_33_code
def y_gn_isMove : MethodName := ⟨R_gn, "isMove", "(I)Z"⟩
abbrev b_gn_isPromotion : ByteArray := prog_1_method_34_code
def y_gn_isPromotion : MethodName := ⟨R_gn, "isPromotion", "(I)Z"⟩
abbrev b_gn_isSide : ByteArray := prog_1_method_25_code
def y_gn_isSide : MethodName := ⟨R_gn, "isSide", "(I)Z"⟩
abbrev b_gn_isSquare : ByteArray := prog_1_method_24_code
def y_gn_isSquare : MethodName := ⟨R_gn, "isSquare", "(I)Z"⟩
abbrev b_gn_kindOf : ByteArray := prog_1_method_30_code
def y_gn_kindOf : MethodName := ⟨R_gn, "kindOf", "(I)I"⟩
abbrev b_gn_look : ByteArray := prog_1_method_15_code
def y_gn_look : MethodName := ⟨R_gn, "look", "(I)I"⟩
abbrev b_gn_manOf : ByteArray := prog_1_method_29_code
def y_gn_manOf : MethodName := ⟨R_gn, "manOf", "(II)I"⟩
abbrev b_gn_ownRank : ByteArray := prog_1_method_31_code
def y_gn_ownRank : MethodName := ⟨R_gn, "ownRank", "(II)I"⟩
abbrev b_gn_passantRank : ByteArray := prog_1_method_32_code
def y_gn_passantRank : MethodName := ⟨R_gn, "passantRank", "(I)C"⟩
abbrev b_gn_pick : ByteArray := prog_1_method_23_code
def y_gn_pick : MethodName := ⟨R_gn, "pick", "(Ljava/lang/String;I)C"⟩
abbrev b_gn_put : ByteArray := prog_1_method_7_code
def y_gn_put : MethodName := ⟨R_gn, "put", "(II)Z"⟩
abbrev b_gn_rankOf : ByteArray := prog_1_method_27_code
def y_gn_rankOf : MethodName := ⟨R_gn, "rankOf", "(I)I"⟩
abbrev b_gn_record : ByteArray := prog_1_method_5_code
def y_gn_record : MethodName := ⟨R_gn, "record", "()I"⟩
abbrev b_gn_spell : ByteArray := prog_1_method_13_code
def y_gn_spell : MethodName := ⟨R_gn, "spell", "(I)I"⟩
abbrev b_gn_squareOf : ByteArray := prog_1_method_28_code
def y_gn_squareOf : MethodName := ⟨R_gn, "squareOf", "(II)I"⟩
abbrev b_gn_state : ByteArray := prog_1_method_8_code
def y_gn_state : MethodName := ⟨R_gn, "state", "(IIIII)Z"⟩
abbrev b_gn_tell : ByteArray := prog_1_method_11_code
def y_gn_tell : MethodName := ⟨R_gn, "tell", "(II)Z"⟩
abbrev b_gn_text : ByteArray := prog_1_method_4_code
def y_gn_text : MethodName := ⟨R_gn, "text", "(I)I"⟩
abbrev b_gn_toOf : ByteArray := prog_1_method_36_code
def y_gn_toOf : MethodName := ⟨R_gn, "toOf", "(I)I"⟩
abbrev b_gn_type : ByteArray := prog_1_method_2_code
def y_gn_type : MethodName := ⟨R_gn, "type", "(J)Z"⟩
abbrev b_gn_wipe : ByteArray := prog_1_method_3_code
def y_gn_wipe : MethodName := ⟨R_gn, "wipe", "()V"⟩
abbrev b_gn_write : ByteArray := prog_1_method_6_code
def y_gn_write : MethodName := ⟨R_gn, "write", "()I"⟩
abbrev b_fm_init : ByteArray := prog_2_method_1_code
def y_fm_init : MethodName := ⟨R_fm, "<init>", "()V"⟩
abbrev b_fm_fileIn : ByteArray := prog_2_method_9_code
def y_fm_fileIn : MethodName := ⟨R_fm, "fileIn", "(LGameNotation$Line;I)I"⟩
abbrev b_fm_fits : ByteArray := prog_2_method_5_code
def y_fm_fits : MethodName := ⟨R_fm, "fits", "(ILGameNotation$Position;)Z"⟩
abbrev b_fm_isCastling : ByteArray := prog_2_method_6_code
def y_fm_isCastling : MethodName := ⟨R_fm, "isCastling", "(LGameNotation$Line;)Z"⟩
abbrev b_fm_isManMove : ByteArray := prog_2_method_7_code
def y_fm_isManMove : MethodName := ⟨R_fm, "isManMove", "(LGameNotation$Line;)Z"⟩
abbrev b_fm_isOf : ByteArray := prog_2_method_4_code
def y_fm_isOf : MethodName := ⟨R_fm, "isOf", "(LGameNotation$Line;)Z"⟩
abbrev b_fm_isPawnMove : ByteArray := prog_2_method_8_code
def y_fm_isPawnMove : MethodName := ⟨R_fm, "isPawnMove", "(LGameNotation$Line;)Z"⟩
abbrev b_fm_rankIn : ByteArray := prog_2_method_10_code
def y_fm_rankIn : MethodName := ⟨R_fm, "rankIn", "(LGameNotation$Line;I)I"⟩
abbrev b_fm_sign : ByteArray := prog_2_method_3_code
def y_fm_sign : MethodName := ⟨R_fm, "sign", "()I"⟩
abbrev b_fm_squareIn : ByteArray := prog_2_method_11_code
def y_fm_squareIn : MethodName := ⟨R_fm, "squareIn", "(LGameNotation$Line;I)I"⟩
abbrev b_fm_unsignedSize : ByteArray := prog_2_method_2_code
def y_fm_unsignedSize : MethodName := ⟨R_fm, "unsignedSize", "()I"⟩
abbrev b_ln_init : ByteArray := prog_3_method_1_code
def y_ln_init : MethodName := ⟨R_ln, "<init>", "()V"⟩
abbrev b_ln_add : ByteArray := prog_3_method_5_code
def y_ln_add : MethodName := ⟨R_ln, "add", "(C)V"⟩
abbrev b_ln_addAll : ByteArray := prog_3_method_6_code
def y_ln_addAll : MethodName := ⟨R_ln, "addAll", "(Ljava/lang/String;)V"⟩
abbrev b_ln_addNumber : ByteArray := prog_3_method_7_code
def y_ln_addNumber : MethodName := ⟨R_ln, "addNumber", "(I)V"⟩
abbrev b_ln_addSquare : ByteArray := prog_3_method_8_code
def y_ln_addSquare : MethodName := ⟨R_ln, "addSquare", "(I)V"⟩
abbrev b_ln_beginsWith : ByteArray := prog_3_method_9_code
def y_ln_beginsWith : MethodName := ⟨R_ln, "beginsWith", "(LGameNotation$Line;I)Z"⟩
abbrev b_ln_beginsWithWord : ByteArray := prog_3_method_10_code
def y_ln_beginsWithWord : MethodName := ⟨R_ln, "beginsWithWord", "(Ljava/lang/String;I)Z"⟩
abbrev b_ln_clear : ByteArray := prog_3_method_3_code
def y_ln_clear : MethodName := ⟨R_ln, "clear", "()V"⟩
abbrev b_ln_letter : ByteArray := prog_3_method_4_code
def y_ln_letter : MethodName := ⟨R_ln, "letter", "(I)C"⟩
abbrev b_ln_size : ByteArray := prog_3_method_2_code
def y_ln_size : MethodName := ⟨R_ln, "size", "()I"⟩
abbrev b_ps_init : ByteArray := prog_4_method_1_code
def y_ps_init : MethodName := ⟨R_ps, "<init>", "()V"⟩
abbrev b_ps_clearBoard : ByteArray := prog_4_method_2_code
def y_ps_clearBoard : MethodName := ⟨R_ps, "clearBoard", "()V"⟩
abbrev b_ps_count : ByteArray := prog_4_method_13_code
def y_ps_count : MethodName := ⟨R_ps, "count", "(I)I"⟩
abbrev b_ps_extra : ByteArray := prog_4_method_17_code
def y_ps_extra : MethodName := ⟨R_ps, "extra", "(III)I"⟩
abbrev b_ps_firstFault : ByteArray := prog_4_method_7_code
def y_ps_firstFault : MethodName := ⟨R_ps, "firstFault", "()I"⟩
abbrev b_ps_firstInLine : ByteArray := prog_4_method_12_code
def y_ps_firstInLine : MethodName := ⟨R_ps, "firstInLine", "(III)I"⟩
abbrev b_ps_hasMisplacedPawn : ByteArray := prog_4_method_15_code
def y_ps_hasMisplacedPawn : MethodName := ⟨R_ps, "hasMisplacedPawn", "()Z"⟩
abbrev b_ps_hasRight : ByteArray := prog_4_method_6_code
def y_ps_hasRight : MethodName := ⟨R_ps, "hasRight", "(I)Z"⟩
abbrev b_ps_hasTooMany : ByteArray := prog_4_method_16_code
def y_ps_hasTooMany : MethodName := ⟨R_ps, "hasTooMany", "(I)Z"⟩
abbrev b_ps_isAttacked : ByteArray := prog_4_method_8_code
def y_ps_isAttacked : MethodName := ⟨R_ps, "isAttacked", "(II)Z"⟩
abbrev b_ps_isAttackedByPawn : ByteArray := prog_4_method_10_code
def y_ps_isAttackedByPawn : MethodName := ⟨R_ps, "isAttackedByPawn", "(II)Z"⟩
abbrev b_ps_isInLine : ByteArray := prog_4_method_11_code
def y_ps_isInLine : MethodName := ⟨R_ps, "isInLine", "(III[I[I)Z"⟩
abbrev b_ps_isNear : ByteArray := prog_4_method_9_code
def y_ps_isNear : MethodName := ⟨R_ps, "isNear", "(II[I[I)Z"⟩
abbrev b_ps_kingSquare : ByteArray := prog_4_method_14_code
def y_ps_kingSquare : MethodName := ⟨R_ps, "kingSquare", "(I)I"⟩
abbrev b_ps_manAt : ByteArray := prog_4_method_5_code
def y_ps_manAt : MethodName := ⟨R_ps, "manAt", "(II)I"⟩
abbrev b_ps_manOn : ByteArray := prog_4_method_4_code
def y_ps_manOn : MethodName := ⟨R_ps, "manOn", "(I)I"⟩
abbrev b_ps_passantHolds : ByteArray := prog_4_method_20_code
def y_ps_passantHolds : MethodName := ⟨R_ps, "passantHolds", "()Z"⟩
abbrev b_ps_place : ByteArray := prog_4_method_3_code
def y_ps_place : MethodName := ⟨R_ps, "place", "(II)V"⟩
abbrev b_ps_rightHolds : ByteArray := prog_4_method_19_code
def y_ps_rightHolds : MethodName := ⟨R_ps, "rightHolds", "(I)Z"⟩
abbrev b_ps_rightsHold : ByteArray := prog_4_method_18_code
def y_ps_rightsHold : MethodName := ⟨R_ps, "rightsHold", "()Z"⟩
abbrev b_rd_init : ByteArray := prog_5_method_1_code
def y_rd_init : MethodName := ⟨R_rd, "<init>", "()V"⟩
abbrev b_rd_isDigit : ByteArray := prog_5_method_10_code
def y_rd_isDigit : MethodName := ⟨R_rd, "isDigit", "(C)Z"⟩
abbrev b_rd_passes : ByteArray := prog_5_method_3_code
def y_rd_passes : MethodName := ⟨R_rd, "passes", "(LGameNotation$Line;C)Z"⟩
abbrev b_rd_readInto : ByteArray := prog_5_method_2_code
def y_rd_readInto : MethodName := ⟨R_rd, "readInto", "(LGameNotation$Position;LGameNotation$Line;)I"⟩
abbrev b_rd_readNumber : ByteArray := prog_5_method_9_code
def y_rd_readNumber : MethodName := ⟨R_rd, "readNumber", "(LGameNotation$Line;I)I"⟩
abbrev b_rd_readPassant : ByteArray := prog_5_method_8_code
def y_rd_readPassant : MethodName := ⟨R_rd, "readPassant", "(LGameNotation$Position;LGameNotation$Line;)Z"⟩
abbrev b_rd_readRank : ByteArray := prog_5_method_5_code
def y_rd_readRank : MethodName := ⟨R_rd, "readRank", "(LGameNotation$Position;LGameNotation$Line;I)Z"⟩
abbrev b_rd_readRanks : ByteArray := prog_5_method_4_code
def y_rd_readRanks : MethodName := ⟨R_rd, "readRanks", "(LGameNotation$Position;LGameNotation$Line;)Z"⟩
abbrev b_rd_readRights : ByteArray := prog_5_method_7_code
def y_rd_readRights : MethodName := ⟨R_rd, "readRights", "(LGameNotation$Position;LGameNotation$Line;)Z"⟩
abbrev b_rd_readSide : ByteArray := prog_5_method_6_code
def y_rd_readSide : MethodName := ⟨R_rd, "readSide", "(LGameNotation$Position;LGameNotation$Line;)Z"⟩
abbrev b_td_init : ByteArray := prog_6_method_1_code
def y_td_init : MethodName := ⟨R_td, "<init>", "()V"⟩
abbrev b_td_addManMove : ByteArray := prog_6_method_11_code
def y_td_addManMove : MethodName := ⟨R_td, "addManMove", "(LGameNotation$Line;ILGameNotation$Position;)V"⟩
abbrev b_td_addOrigin : ByteArray := prog_6_method_12_code
def y_td_addOrigin : MethodName := ⟨R_td, "addOrigin", "(LGameNotation$Line;ILGameNotation$Position;)V"⟩
abbrev b_td_addPawnMove : ByteArray := prog_6_method_10_code
def y_td_addPawnMove : MethodName := ⟨R_td, "addPawnMove", "(LGameNotation$Line;I)V"⟩
abbrev b_td_addUnsigned : ByteArray := prog_6_method_8_code
def y_td_addUnsigned : MethodName := ⟨R_td, "addUnsigned", "(LGameNotation$Line;ILGameNotation$Position;)V"⟩
abbrev b_td_clear : ByteArray := prog_6_method_3_code
def y_td_clear : MethodName := ⟨R_td, "clear", "()V"⟩
abbrev b_td_count : ByteArray := prog_6_method_2_code
def y_td_count : MethodName := ⟨R_td, "count", "()I"⟩
abbrev b_td_has : ByteArray := prog_6_method_9_code
def y_td_has : MethodName := ⟨R_td, "has", "(I)Z"⟩
abbrev b_td_indexOf : ByteArray := prog_6_method_6_code
def y_td_indexOf : MethodName := ⟨R_td, "indexOf", "(I)I"⟩
abbrev b_td_isRival : ByteArray := prog_6_method_13_code
def y_td_isRival : MethodName := ⟨R_td, "isRival", "(IILGameNotation$Position;)Z"⟩
abbrev b_td_move : ByteArray := prog_6_method_4_code
def y_td_move : MethodName := ⟨R_td, "move", "(I)I"⟩
abbrev b_td_sign : ByteArray := prog_6_method_5_code
def y_td_sign : MethodName := ⟨R_td, "sign", "(I)I"⟩
abbrev b_td_take : ByteArray := prog_6_method_7_code
def y_td_take : MethodName := ⟨R_td, "take", "(II)Z"⟩
abbrev b_md_init : ByteArray := prog_8_method_1_code
def y_md_init : MethodName := ⟨R_md, "<init>", "()V"⟩
abbrev b_md_above : ByteArray := prog_8_method_20_code
def y_md_above : MethodName := ⟨R_md, "above", "(II)I"⟩
abbrev b_md_at : ByteArray := prog_8_method_32_code
def y_md_at : MethodName := ⟨R_md, "at", "(I)I"⟩
abbrev b_md_attacked : ByteArray := prog_8_method_33_code
def y_md_attacked : MethodName := ⟨R_md, "attacked", "(II)Z"⟩
abbrev b_md_bare : ByteArray := prog_8_method_53_code
def y_md_bare : MethodName := ⟨R_md, "bare", "()I"⟩
abbrev b_md_castles : ByteArray := prog_8_method_41_code
def y_md_castles : MethodName := ⟨R_md, "castles", "(I)I"⟩
abbrev b_md_eat : ByteArray := prog_8_method_7_code
def y_md_eat : MethodName := ⟨R_md, "eat", "(I)Z"⟩
abbrev b_md_find : ByteArray := prog_8_method_58_code
def y_md_find : MethodName := ⟨R_md, "find", "()I"⟩
abbrev b_md_forget : ByteArray := prog_8_method_39_code
def y_md_forget : MethodName := ⟨R_md, "forget", "()V"⟩
abbrev b_md_form : ByteArray := prog_8_method_54_code
def y_md_form : MethodName := ⟨R_md, "form", "()I"⟩
abbrev b_md_fromOf : ByteArray := prog_8_method_34_code
def y_md_fromOf : MethodName := ⟨R_md, "fromOf", "(I)I"⟩
abbrev b_md_howMany : ByteArray := prog_8_method_16_code
def y_md_howMany : MethodName := ⟨R_md, "howMany", "(I)I"⟩
abbrev b_md_isAttacked : ByteArray := prog_8_method_22_code
def y_md_isAttacked : MethodName := ⟨R_md, "isAttacked", "([III)Z"⟩
abbrev b_md_isDigit : ByteArray := prog_8_method_10_code
def y_md_isDigit : MethodName := ⟨R_md, "isDigit", "(I)Z"⟩
abbrev b_md_isFile : ByteArray := prog_8_method_50_code
def y_md_isFile : MethodName := ⟨R_md, "isFile", "()Z"⟩
abbrev b_md_isLike : ByteArray := prog_8_method_57_code
def y_md_isLike : MethodName := ⟨R_md, "isLike", "(II)Z"⟩
abbrev b_md_isOfficer : ByteArray := prog_8_method_52_code
def y_md_isOfficer : MethodName := ⟨R_md, "isOfficer", "(IZ)Z"⟩
abbrev b_md_isOfficerForm : ByteArray := prog_8_method_55_code
def y_md_isOfficerForm : MethodName := ⟨R_md, "isOfficerForm", "(I)Z"⟩
abbrev b_md_isOpen : ByteArray := prog_8_method_23_code
def y_md_isOpen : MethodName := ⟨R_md, "isOpen", "([III)Z"⟩
abbrev b_md_isPawn : ByteArray := prog_8_method_37_code
def y_md_isPawn : MethodName := ⟨R_md, "isPawn", "(I)Z"⟩
abbrev b_md_isPawnForm : ByteArray := prog_8_method_56_code
def y_md_isPawnForm : MethodName := ⟨R_md, "isPawnForm", "(I)Z"⟩
abbrev b_md_isRank : ByteArray := prog_8_method_51_code
def y_md_isRank : MethodName := ⟨R_md, "isRank", "()Z"⟩
abbrev b_md_isText : ByteArray := prog_8_method_49_code
def y_md_isText : MethodName := ⟨R_md, "isText", "(I)Z"⟩
abbrev b_md_kingOf : ByteArray := prog_8_method_24_code
def y_md_kingOf : MethodName := ⟨R_md, "kingOf", "(I)I"⟩
abbrev b_md_letter : ByteArray := prog_8_method_8_code
def y_md_letter : MethodName := ⟨R_md, "letter", "(I)I"⟩
abbrev b_md_look : ByteArray := prog_8_method_59_code
def y_md_look : MethodName := ⟨R_md, "look", "(I)I"⟩
abbrev b_md_manOf : ByteArray := prog_8_method_9_code
def y_md_manOf : MethodName := ⟨R_md, "manOf", "(I)I"⟩
abbrev b_md_passantFits : ByteArray := prog_8_method_18_code
def y_md_passantFits : MethodName := ⟨R_md, "passantFits", "()Z"⟩
abbrev b_md_pawnsFit : ByteArray := prog_8_method_19_code
def y_md_pawnsFit : MethodName := ⟨R_md, "pawnsFit", "()Z"⟩
abbrev b_md_peek : ByteArray := prog_8_method_6_code
def y_md_peek : MethodName := ⟨R_md, "peek", "()I"⟩
abbrev b_md_place : ByteArray := prog_8_method_36_code
def y_md_place : MethodName := ⟨R_md, "place", "(I)I"⟩
abbrev b_md_put : ByteArray := prog_8_method_30_code
def y_md_put : MethodName := ⟨R_md, "put", "(II)Z"⟩
abbrev b_md_put1 : ByteArray := prog_8_method_26_code
def y_md_put1 : MethodName := ⟨R_md, "put1", "(I)V"⟩
abbrev b_md_putNumber : ByteArray := prog_8_method_27_code
def y_md_putNumber : MethodName := ⟨R_md, "putNumber", "(I)V"⟩
abbrev b_md_putRank : ByteArray := prog_8_method_28_code
def y_md_putRank : MethodName := ⟨R_md, "putRank", "(I)V"⟩
abbrev b_md_readBoard : ByteArray := prog_8_method_11_code
def y_md_readBoard : MethodName := ⟨R_md, "readBoard", "()Z"⟩
abbrev b_md_readFields : ByteArray := prog_8_method_15_code
def y_md_readFields : MethodName := ⟨R_md, "readFields", "()I"⟩
abbrev b_md_readNumber : ByteArray := prog_8_method_14_code
def y_md_readNumber : MethodName := ⟨R_md, "readNumber", "(I)I"⟩
abbrev b_md_readPassant : ByteArray := prog_8_method_13_code
def y_md_readPassant : MethodName := ⟨R_md, "readPassant", "()Z"⟩
abbrev b_md_readRights : ByteArray := prog_8_method_12_code
def y_md_readRights : MethodName := ⟨R_md, "readRights", "()Z"⟩
abbrev b_md_record : ByteArray := prog_8_method_25_code
def y_md_record : MethodName := ⟨R_md, "record", "()I"⟩
abbrev b_md_rightsFit : ByteArray := prog_8_method_17_code
def y_md_rightsFit : MethodName := ⟨R_md, "rightsFit", "()Z"⟩
abbrev b_md_rivals : ByteArray := prog_8_method_44_code
def y_md_rivals : MethodName := ⟨R_md, "rivals", "(II)I"⟩
abbrev b_md_say : ByteArray := prog_8_method_40_code
def y_md_say : MethodName := ⟨R_md, "say", "(I)V"⟩
abbrev b_md_sayCastling : ByteArray := prog_8_method_42_code
def y_md_sayCastling : MethodName := ⟨R_md, "sayCastling", "(I)V"⟩
abbrev b_md_sayOrigin : ByteArray := prog_8_method_45_code
def y_md_sayOrigin : MethodName := ⟨R_md, "sayOrigin", "(I)V"⟩
abbrev b_md_saySign : ByteArray := prog_8_method_47_code
def y_md_saySign : MethodName := ⟨R_md, "saySign", "(I)V"⟩
abbrev b_md_saySquare : ByteArray := prog_8_method_43_code
def y_md_saySquare : MethodName := ⟨R_md, "saySquare", "(I)V"⟩
abbrev b_md_spell : ByteArray := prog_8_method_48_code
def y_md_spell : MethodName := ⟨R_md, "spell", "(I)I"⟩
abbrev b_md_spelling : ByteArray := prog_8_method_46_code
def y_md_spelling : MethodName := ⟨R_md, "spelling", "(I)V"⟩
abbrev b_md_state : ByteArray := prog_8_method_31_code
def y_md_state : MethodName := ⟨R_md, "state", "(IIIII)Z"⟩
abbrev b_md_tell : ByteArray := prog_8_method_38_code
def y_md_tell : MethodName := ⟨R_md, "tell", "(II)Z"⟩
abbrev b_md_text : ByteArray := prog_8_method_5_code
def y_md_text : MethodName := ⟨R_md, "text", "(I)I"⟩
abbrev b_md_thrown : ByteArray := prog_8_method_2_code
def y_md_thrown : MethodName := ⟨R_md, "thrown", "()I"⟩
abbrev b_md_toOf : ByteArray := prog_8_method_35_code
def y_md_toOf : MethodName := ⟨R_md, "toOf", "(I)I"⟩
abbrev b_md_tooMany : ByteArray := prog_8_method_21_code
def y_md_tooMany : MethodName := ⟨R_md, "tooMany", "(I)Z"⟩
abbrev b_md_type : ByteArray := prog_8_method_3_code
def y_md_type : MethodName := ⟨R_md, "type", "(J)Z"⟩
abbrev b_md_wipe : ByteArray := prog_8_method_4_code
def y_md_wipe : MethodName := ⟨R_md, "wipe", "()V"⟩
abbrev b_md_write : ByteArray := prog_8_method_29_code
def y_md_write : MethodName := ⟨R_md, "write", "()I"⟩
abbrev b_mt_max : ByteArray := prog_13_method_65_code
def y_mt_max : MethodName := ⟨R_mt, "max", "(II)I"⟩
abbrev b_mt_min : ByteArray := prog_13_method_69_code
def y_mt_min : MethodName := ⟨R_mt, "min", "(II)I"⟩
abbrev b_ob_init : ByteArray := object_method_1_code
def y_ob_init : MethodName := ⟨R_ob, "<init>", "()V"⟩
abbrev b_st_charAt : ByteArray := prog_15_method_56_code
def y_st_charAt : MethodName := ⟨R_st, "charAt", "(I)C"⟩
abbrev b_st_checkBoundsBeginEnd : ByteArray := prog_15_method_158_code
def y_st_checkBoundsBeginEnd : MethodName := ⟨R_st, "checkBoundsBeginEnd", "(III)V"⟩
abbrev b_st_checkIndex : ByteArray := prog_15_method_155_code
def y_st_checkIndex : MethodName := ⟨R_st, "checkIndex", "(II)V"⟩
abbrev b_st_coder : ByteArray := prog_15_method_152_code
def y_st_coder : MethodName := ⟨R_st, "coder", "()B"⟩
abbrev b_st_indexOf : ByteArray := prog_15_method_79_code
def y_st_indexOf : MethodName := ⟨R_st, "indexOf", "(I)I"⟩
abbrev b_st_indexOf2 : ByteArray := prog_15_method_80_code
def y_st_indexOf2 : MethodName := ⟨R_st, "indexOf", "(II)I"⟩
abbrev b_st_isLatin1 : ByteArray := prog_15_method_154_code
def y_st_isLatin1 : MethodName := ⟨R_st, "isLatin1", "()Z"⟩
abbrev b_st_length : ByteArray := prog_15_method_54_code
def y_st_length : MethodName := ⟨R_st, "length", "()I"⟩
abbrev b_sl_canEncode : ByteArray := prog_16_method_4_code
def y_sl_canEncode : MethodName := ⟨R_sl, "canEncode", "(I)Z"⟩
abbrev b_sl_charAt : ByteArray := prog_16_method_2_code
def y_sl_charAt : MethodName := ⟨R_sl, "charAt", "([BI)C"⟩
abbrev b_sl_indexOf : ByteArray := prog_16_method_22_code
def y_sl_indexOf : MethodName := ⟨R_sl, "indexOf", "([BIII)I"⟩
abbrev b_sl_indexOfChar : ByteArray := prog_16_method_23_code
def y_sl_indexOfChar : MethodName := ⟨R_sl, "indexOfChar", "([BIII)I"⟩
abbrev b_pc_checkFromToIndex : ByteArray := prog_19_method_12_code
def y_pc_checkFromToIndex : MethodName := ⟨R_pc, "checkFromToIndex", "(IIILjava/util/function/BiFunction;)I"⟩
abbrev b_pc_checkIndex : ByteArray := prog_19_method_11_code
def y_pc_checkIndex : MethodName := ⟨R_pc, "checkIndex", "(IILjava/util/function/BiFunction;)I"⟩
def gw : List Cond := lw_tbl.filter goodWord
theorem gw_t {w : Cond} (h : w ∈ tables_1) (hg : goodWord w = true) : w ∈ gw := List.mem_filter.mpr ⟨List.mem_append_right _ h, hg⟩
theorem gw_s {w : Cond} (h : w ∈ k2_sels lw_privs) (hg : goodWord w = true) : w ∈ gw := List.mem_filter.mpr ⟨List.mem_append_left _ h, hg⟩
theorem g_all {ws : List Cond} (h : ∀ w ∈ ws, w ∈ gw) : GoodIn gw ws := fun w hw => ⟨h w hw, good_of_word (List.mem_filter.mp (h w hw)).2⟩
theorem g_w {c : Cond} (h : c ∈ gw) : GoodIn gw (c :: gw) := g_all (fun w hw => (List.mem_cons.mp hw).elim (fun e => e ▸ h) id)
theorem g_V {own : String} {idx : Nat} {C : String} {y : MethodName} {ws : List Cond} (h1 : Cond.methodLink own idx y ∈ gw) (h2 : Cond.instanceMethod y ∈ gw) (h3 : Cond.selects C y y ∈ gw) (h4 : Cond.initialized C ∈ gw) (h5 : GoodIn gw ws) : GoodIn gw (wsV own idx C y ws) := by
  refine g_all (fun w hw => ?_)
  rcases List.mem_append.mp hw with h | h
  · simp only [List.mem_cons, List.not_mem_nil, or_false] at h
    rcases h with h | h | h | h <;> subst h <;> assumption
  · exact (h5 w h).1
theorem g_S {own : String} {idx : Nat} {y : MethodName} {ws : List Cond} (h1 : Cond.methodLink own idx y ∈ gw) (h2 : Cond.static y ∈ gw) (h3 : Cond.initialized y.cls ∈ gw) (h5 : GoodIn gw ws) : GoodIn gw (va_wsS own idx y ws) := by
  refine g_all (fun w hw => ?_)
  rcases List.mem_append.mp hw with h | h
  · simp only [List.mem_cons, List.not_mem_nil, or_false] at h
    rcases h with h | h | h <;> subst h <;> assumption
  · exact (h5 w h).1
def w_gn_init : List Cond := .code y_gn_init b_gn_init 1 none :: gw
def w_gn_addEmpty : List Cond := .code y_gn_addEmpty b_gn_addEmpty 2 none :: gw
def w_gn_addPassant : List Cond := .code y_gn_addPassant b_gn_addPassant 1 none :: gw
def w_gn_addRank : List Cond := .code y_gn_addRank b_gn_addRank 5 none :: gw
def w_gn_addRanks : List Cond := .code y_gn_addRanks b_gn_addRanks 2 none :: gw
def w_gn_addRights : List Cond := .code y_gn_addRights b_gn_addRights 2 none :: gw
def w_gn_at : List Cond := .code y_gn_at b_gn_at 2 (some .int) :: gw
def w_gn_attacked : List Cond := .code y_gn_attacked b_gn_attacked 3 (some .boolean) :: gw
def w_gn_becomesOf : List Cond := .code y_gn_becomesOf b_gn_becomesOf 1 (some .int) :: gw
def w_gn_byteOf : List Cond := .code y_gn_byteOf b_gn_byteOf 3 (some .int) :: gw
def w_gn_castlingOf : List Cond := .code y_gn_castlingOf b_gn_castlingOf 3 (some .int) :: gw
def w_gn_closeness : List Cond := .code y_gn_closeness b_gn_closeness 2 (some .int) :: gw
def w_gn_fileOf : List Cond := .code y_gn_fileOf b_gn_fileOf 1 (some .int) :: gw
def w_gn_find : List Cond := .code y_gn_find b_gn_find 4 (some .int) :: gw
def w_gn_forget : List Cond := .code y_gn_forget b_gn_forget 1 none :: gw
def w_gn_fromOf : List Cond := .code y_gn_fromOf b_gn_fromOf 1 (some .int) :: gw
def w_gn_isMove : List Cond := .code y_gn_isMove b_gn_isMove 2 (some .boolean) :: gw
def w_gn_isPromotion : List Cond := .code y_gn_isPromotion b_gn_isPromotion 1 (some .boolean) :: gw
def w_gn_isSide : List Cond := .code y_gn_isSide b_gn_isSide 1 (some .boolean) :: gw
def w_gn_isSquare : List Cond := .code y_gn_isSquare b_gn_isSquare 1 (some .boolean) :: gw
def w_gn_kindOf : List Cond := .code y_gn_kindOf b_gn_kindOf 1 (some .int) :: gw
def w_gn_look : List Cond := .code y_gn_look b_gn_look 2 (some .int) :: gw
def w_gn_manOf : List Cond := .code y_gn_manOf b_gn_manOf 2 (some .int) :: gw
def w_gn_ownRank : List Cond := .code y_gn_ownRank b_gn_ownRank 2 (some .int) :: gw
def w_gn_passantRank : List Cond := .code y_gn_passantRank b_gn_passantRank 1 (some .char) :: gw
def w_gn_pick : List Cond := .code y_gn_pick b_gn_pick 2 (some .char) :: gw
def w_gn_put : List Cond := .code y_gn_put b_gn_put 3 (some .boolean) :: gw
def w_gn_rankOf : List Cond := .code y_gn_rankOf b_gn_rankOf 1 (some .int) :: gw
def w_gn_record : List Cond := .code y_gn_record b_gn_record 3 (some .int) :: gw
def w_gn_spell : List Cond := .code y_gn_spell b_gn_spell 4 (some .int) :: gw
def w_gn_squareOf : List Cond := .code y_gn_squareOf b_gn_squareOf 2 (some .int) :: gw
def w_gn_state : List Cond := .code y_gn_state b_gn_state 6 (some .boolean) :: gw
def w_gn_tell : List Cond := .code y_gn_tell b_gn_tell 4 (some .boolean) :: gw
def w_gn_text : List Cond := .code y_gn_text b_gn_text 2 (some .int) :: gw
def w_gn_toOf : List Cond := .code y_gn_toOf b_gn_toOf 1 (some .int) :: gw
def w_gn_type : List Cond := .code y_gn_type b_gn_type 6 (some .boolean) :: gw
def w_gn_wipe : List Cond := .code y_gn_wipe b_gn_wipe 1 none :: gw
def w_gn_write : List Cond := .code y_gn_write b_gn_write 1 (some .int) :: gw
def w_fm_init : List Cond := .code y_fm_init b_fm_init 1 none :: gw
def w_fm_fileIn : List Cond := .code y_fm_fileIn b_fm_fileIn 2 (some .int) :: gw
def w_fm_fits : List Cond := .code y_fm_fits b_fm_fits 4 (some .boolean) :: gw
def w_fm_isCastling : List Cond := .code y_fm_isCastling b_fm_isCastling 2 (some .boolean) :: gw
def w_fm_isManMove : List Cond := .code y_fm_isManMove b_fm_isManMove 3 (some .boolean) :: gw
def w_fm_isOf : List Cond := .code y_fm_isOf b_fm_isOf 2 (some .boolean) :: gw
def w_fm_isPawnMove : List Cond := .code y_fm_isPawnMove b_fm_isPawnMove 4 (some .boolean) :: gw
def w_fm_rankIn : List Cond := .code y_fm_rankIn b_fm_rankIn 2 (some .int) :: gw
def w_fm_sign : List Cond := .code y_fm_sign b_fm_sign 1 (some .int) :: gw
def w_fm_squareIn : List Cond := .code y_fm_squareIn b_fm_squareIn 2 (some .int) :: gw
def w_fm_unsignedSize : List Cond := .code y_fm_unsignedSize b_fm_unsignedSize 1 (some .int) :: gw
def w_ln_init : List Cond := .code y_ln_init b_ln_init 1 none :: gw
def w_ln_add : List Cond := .code y_ln_add b_ln_add 2 none :: gw
def w_ln_addAll : List Cond := .code y_ln_addAll b_ln_addAll 3 none :: gw
def w_ln_addNumber : List Cond := .code y_ln_addNumber b_ln_addNumber 3 none :: gw
def w_ln_addSquare : List Cond := .code y_ln_addSquare b_ln_addSquare 2 none :: gw
def w_ln_beginsWith : List Cond := .code y_ln_beginsWith b_ln_beginsWith 4 (some .boolean) :: gw
def w_ln_beginsWithWord : List Cond := .code y_ln_beginsWithWord b_ln_beginsWithWord 4 (some .boolean) :: gw
def w_ln_clear : List Cond := .code y_ln_clear b_ln_clear 1 none :: gw
def w_ln_letter : List Cond := .code y_ln_letter b_ln_letter 2 (some .char) :: gw
def w_ln_size : List Cond := .code y_ln_size b_ln_size 1 (some .int) :: gw
def w_ps_init : List Cond := .code y_ps_init b_ps_init 1 none :: gw
def w_ps_clearBoard : List Cond := .code y_ps_clearBoard b_ps_clearBoard 2 none :: gw
def w_ps_count : List Cond := .code y_ps_count b_ps_count 4 (some .int) :: gw
def w_ps_extra : List Cond := .code y_ps_extra b_ps_extra 4 (some .int) :: gw
def w_ps_firstFault : List Cond := .code y_ps_firstFault b_ps_firstFault 1 (some .int) :: gw
def w_ps_firstInLine : List Cond := .code y_ps_firstInLine b_ps_firstInLine 6 (some .int) :: gw
def w_ps_hasMisplacedPawn : List Cond := .code y_ps_hasMisplacedPawn b_ps_hasMisplacedPawn 2 (some .boolean) :: gw
def w_ps_hasRight : List Cond := .code y_ps_hasRight b_ps_hasRight 2 (some .boolean) :: gw
def w_ps_hasTooMany : List Cond := .code y_ps_hasTooMany b_ps_hasTooMany 3 (some .boolean) :: gw
def w_ps_isAttacked : List Cond := .code y_ps_isAttacked b_ps_isAttacked 3 (some .boolean) :: gw
def w_ps_isAttackedByPawn : List Cond := .code y_ps_isAttackedByPawn b_ps_isAttackedByPawn 5 (some .boolean) :: gw
def w_ps_isInLine : List Cond := .code y_ps_isInLine b_ps_isInLine 8 (some .boolean) :: gw
def w_ps_isNear : List Cond := .code y_ps_isNear b_ps_isNear 6 (some .boolean) :: gw
def w_ps_kingSquare : List Cond := .code y_ps_kingSquare b_ps_kingSquare 3 (some .int) :: gw
def w_ps_manAt : List Cond := .code y_ps_manAt b_ps_manAt 4 (some .int) :: gw
def w_ps_manOn : List Cond := .code y_ps_manOn b_ps_manOn 2 (some .int) :: gw
def w_ps_passantHolds : List Cond := .code y_ps_passantHolds b_ps_passantHolds 2 (some .boolean) :: gw
def w_ps_place : List Cond := .code y_ps_place b_ps_place 3 none :: gw
def w_ps_rightHolds : List Cond := .code y_ps_rightHolds b_ps_rightHolds 5 (some .boolean) :: gw
def w_ps_rightsHold : List Cond := .code y_ps_rightsHold b_ps_rightsHold 2 (some .boolean) :: gw
def w_rd_init : List Cond := .code y_rd_init b_rd_init 1 none :: gw
def w_rd_isDigit : List Cond := .code y_rd_isDigit b_rd_isDigit 1 (some .boolean) :: gw
def w_rd_passes : List Cond := .code y_rd_passes b_rd_passes 3 (some .boolean) :: gw
def w_rd_readInto : List Cond := .code y_rd_readInto b_rd_readInto 3 (some .int) :: gw
def w_rd_readNumber : List Cond := .code y_rd_readNumber b_rd_readNumber 7 (some .int) :: gw
def w_rd_readPassant : List Cond := .code y_rd_readPassant b_rd_readPassant 3 (some .boolean) :: gw
def w_rd_readRank : List Cond := .code y_rd_readRank b_rd_readRank 9 (some .boolean) :: gw
def w_rd_readRanks : List Cond := .code y_rd_readRanks b_rd_readRanks 4 (some .boolean) :: gw
def w_rd_readRights : List Cond := .code y_rd_readRights b_rd_readRights 4 (some .boolean) :: gw
def w_rd_readSide : List Cond := .code y_rd_readSide b_rd_readSide 3 (some .boolean) :: gw
def w_td_init : List Cond := .code y_td_init b_td_init 1 none :: gw
def w_td_addManMove : List Cond := .code y_td_addManMove b_td_addManMove 4 none :: gw
def w_td_addOrigin : List Cond := .code y_td_addOrigin b_td_addOrigin 10 none :: gw
def w_td_addPawnMove : List Cond := .code y_td_addPawnMove b_td_addPawnMove 3 none :: gw
def w_td_addUnsigned : List Cond := .code y_td_addUnsigned b_td_addUnsigned 6 none :: gw
def w_td_clear : List Cond := .code y_td_clear b_td_clear 1 none :: gw
def w_td_count : List Cond := .code y_td_count b_td_count 1 (some .int) :: gw
def w_td_has : List Cond := .code y_td_has b_td_has 2 (some .boolean) :: gw
def w_td_indexOf : List Cond := .code y_td_indexOf b_td_indexOf 3 (some .int) :: gw
def w_td_isRival : List Cond := .code y_td_isRival b_td_isRival 3 (some .boolean) :: gw
def w_td_move : List Cond := .code y_td_move b_td_move 2 (some .int) :: gw
def w_td_sign : List Cond := .code y_td_sign b_td_sign 2 (some .int) :: gw
def w_td_take : List Cond := .code y_td_take b_td_take 3 (some .boolean) :: gw
def w_md_init : List Cond := .code y_md_init b_md_init 1 none :: gw
def w_md_above : List Cond := .code y_md_above b_md_above 2 (some .int) :: gw
def w_md_at : List Cond := .code y_md_at b_md_at 2 (some .int) :: gw
def w_md_attacked : List Cond := .code y_md_attacked b_md_attacked 3 (some .boolean) :: gw
def w_md_bare : List Cond := .code y_md_bare b_md_bare 1 (some .int) :: gw
def w_md_castles : List Cond := .code y_md_castles b_md_castles 4 (some .int) :: gw
def w_md_eat : List Cond := .code y_md_eat b_md_eat 2 (some .boolean) :: gw
def w_md_find : List Cond := .code y_md_find b_md_find 5 (some .int) :: gw
def w_md_forget : List Cond := .code y_md_forget b_md_forget 1 none :: gw
def w_md_form : List Cond := .code y_md_form b_md_form 4 (some .int) :: gw
def w_md_fromOf : List Cond := .code y_md_fromOf b_md_fromOf 1 (some .int) :: gw
def w_md_howMany : List Cond := .code y_md_howMany b_md_howMany 4 (some .int) :: gw
def w_md_isAttacked : List Cond := .code y_md_isAttacked b_md_isAttacked 15 (some .boolean) :: gw
def w_md_isDigit : List Cond := .code y_md_isDigit b_md_isDigit 1 (some .boolean) :: gw
def w_md_isFile : List Cond := .code y_md_isFile b_md_isFile 1 (some .boolean) :: gw
def w_md_isLike : List Cond := .code y_md_isLike b_md_isLike 9 (some .boolean) :: gw
def w_md_isOfficer : List Cond := .code y_md_isOfficer b_md_isOfficer 2 (some .boolean) :: gw
def w_md_isOfficerForm : List Cond := .code y_md_isOfficerForm b_md_isOfficerForm 3 (some .boolean) :: gw
def w_md_isOpen : List Cond := .code y_md_isOpen b_md_isOpen 7 (some .boolean) :: gw
def w_md_isPawn : List Cond := .code y_md_isPawn b_md_isPawn 2 (some .boolean) :: gw
def w_md_isPawnForm : List Cond := .code y_md_isPawnForm b_md_isPawnForm 2 (some .boolean) :: gw
def w_md_isRank : List Cond := .code y_md_isRank b_md_isRank 1 (some .boolean) :: gw
def w_md_isText : List Cond := .code y_md_isText b_md_isText 4 (some .boolean) :: gw
def w_md_kingOf : List Cond := .code y_md_kingOf b_md_kingOf 4 (some .int) :: gw
def w_md_letter : List Cond := .code y_md_letter b_md_letter 3 (some .int) :: gw
def w_md_look : List Cond := .code y_md_look b_md_look 2 (some .int) :: gw
def w_md_manOf : List Cond := .code y_md_manOf b_md_manOf 3 (some .int) :: gw
def w_md_passantFits : List Cond := .code y_md_passantFits b_md_passantFits 3 (some .boolean) :: gw
def w_md_pawnsFit : List Cond := .code y_md_pawnsFit b_md_pawnsFit 3 (some .boolean) :: gw
def w_md_peek : List Cond := .code y_md_peek b_md_peek 1 (some .int) :: gw
def w_md_place : List Cond := .code y_md_place b_md_place 4 (some .int) :: gw
def w_md_put : List Cond := .code y_md_put b_md_put 3 (some .boolean) :: gw
def w_md_put1 : List Cond := .code y_md_put1 b_md_put1 2 none :: gw
def w_md_putNumber : List Cond := .code y_md_putNumber b_md_putNumber 4 none :: gw
def w_md_putRank : List Cond := .code y_md_putRank b_md_putRank 5 none :: gw
def w_md_readBoard : List Cond := .code y_md_readBoard b_md_readBoard 8 (some .boolean) :: gw
def w_md_readFields : List Cond := .code y_md_readFields b_md_readFields 1 (some .int) :: gw
def w_md_readNumber : List Cond := .code y_md_readNumber b_md_readNumber 5 (some .int) :: gw
def w_md_readPassant : List Cond := .code y_md_readPassant b_md_readPassant 1 (some .boolean) :: gw
def w_md_readRights : List Cond := .code y_md_readRights b_md_readRights 1 (some .boolean) :: gw
def w_md_record : List Cond := .code y_md_record b_md_record 3 (some .int) :: gw
def w_md_rightsFit : List Cond := .code y_md_rightsFit b_md_rightsFit 6 (some .boolean) :: gw
def w_md_rivals : List Cond := .code y_md_rivals b_md_rivals 8 (some .int) :: gw
def w_md_say : List Cond := .code y_md_say b_md_say 2 none :: gw
def w_md_sayCastling : List Cond := .code y_md_sayCastling b_md_sayCastling 2 none :: gw
def w_md_sayOrigin : List Cond := .code y_md_sayOrigin b_md_sayOrigin 5 none :: gw
def w_md_saySign : List Cond := .code y_md_saySign b_md_saySign 2 none :: gw
def w_md_saySquare : List Cond := .code y_md_saySquare b_md_saySquare 2 none :: gw
def w_md_spell : List Cond := .code y_md_spell b_md_spell 4 (some .int) :: gw
def w_md_spelling : List Cond := .code y_md_spelling b_md_spelling 5 none :: gw
def w_md_state : List Cond := .code y_md_state b_md_state 7 (some .boolean) :: gw
def w_md_tell : List Cond := .code y_md_tell b_md_tell 5 (some .boolean) :: gw
def w_md_text : List Cond := .code y_md_text b_md_text 2 (some .int) :: gw
def w_md_thrown : List Cond := .code y_md_thrown b_md_thrown 1 (some .int) :: gw
def w_md_toOf : List Cond := .code y_md_toOf b_md_toOf 1 (some .int) :: gw
def w_md_tooMany : List Cond := .code y_md_tooMany b_md_tooMany 4 (some .boolean) :: gw
def w_md_type : List Cond := .code y_md_type b_md_type 6 (some .boolean) :: gw
def w_md_wipe : List Cond := .code y_md_wipe b_md_wipe 1 none :: gw
def w_md_write : List Cond := .code y_md_write b_md_write 2 (some .int) :: gw
def w_mt_max : List Cond := .code y_mt_max b_mt_max 2 (some .int) :: gw
def w_mt_min : List Cond := .code y_mt_min b_mt_min 2 (some .int) :: gw
def w_ob_init : List Cond := .code y_ob_init b_ob_init 1 none :: gw
def w_st_charAt : List Cond := .code y_st_charAt b_st_charAt 2 (some .char) :: gw
def w_st_checkBoundsBeginEnd : List Cond := .code y_st_checkBoundsBeginEnd b_st_checkBoundsBeginEnd 3 none :: gw
def w_st_checkIndex : List Cond := .code y_st_checkIndex b_st_checkIndex 2 none :: gw
def w_st_coder : List Cond := .code y_st_coder b_st_coder 1 (some .byte) :: gw
def w_st_indexOf : List Cond := .code y_st_indexOf b_st_indexOf 2 (some .int) :: gw
def w_st_indexOf2 : List Cond := .code y_st_indexOf2 b_st_indexOf2 3 (some .int) :: gw
def w_st_isLatin1 : List Cond := .code y_st_isLatin1 b_st_isLatin1 1 (some .boolean) :: gw
def w_st_length : List Cond := .code y_st_length b_st_length 1 (some .int) :: gw
def w_sl_canEncode : List Cond := .code y_sl_canEncode b_sl_canEncode 1 (some .boolean) :: gw
def w_sl_charAt : List Cond := .code y_sl_charAt b_sl_charAt 2 (some .char) :: gw
def w_sl_indexOf : List Cond := .code y_sl_indexOf b_sl_indexOf 4 (some .int) :: gw
def w_sl_indexOfChar : List Cond := .code y_sl_indexOfChar b_sl_indexOfChar 6 (some .int) :: gw
def w_pc_checkFromToIndex : List Cond := .code y_pc_checkFromToIndex b_pc_checkFromToIndex 4 (some .int) :: gw
def w_pc_checkIndex : List Cond := .code y_pc_checkIndex b_pc_checkIndex 3 (some .int) :: gw
theorem q_1 : (.initialized "GameNotation" : Cond) ∈ gw := gw_t (List.mem_of_getElem? (i := 1) (by decide +kernel)) (by decide +kernel)
theorem q_2 : (.initialized "GameNotation$Line" : Cond) ∈ gw := gw_t (List.mem_of_getElem? (i := 2) (by decide +kernel)) (by decide +kernel)
theorem q_3 : (.initialized "GameNotation$RecordReader" : Cond) ∈ gw := gw_t (List.mem_of_getElem? (i := 3) (by decide +kernel)) (by decide +kernel)
theorem q_4 : (.initialized "GameNotation$Told" : Cond) ∈ gw := gw_t (List.mem_of_getElem? (i := 4) (by decide +kernel)) (by decide +kernel)
theorem q_5 : (.initialized "GameNotation$Form" : Cond) ∈ gw := gw_t (List.mem_of_getElem? (i := 5) (by decide +kernel)) (by decide +kernel)
theorem q_6 : (.initialized "GameNotation$Position" : Cond) ∈ gw := gw_t (List.mem_of_getElem? (i := 6) (by decide +kernel)) (by decide +kernel)
theorem q_8 : (.initialized "java/lang/String" : Cond) ∈ gw := gw_t (List.mem_of_getElem? (i := 8) (by decide +kernel)) (by decide +kernel)
theorem q_9 : (.initialized "java/lang/StringLatin1" : Cond) ∈ gw := gw_t (List.mem_of_getElem? (i := 9) (by decide +kernel)) (by decide +kernel)
theorem q_10 : (.initialized "java/lang/Math" : Cond) ∈ gw := gw_t (List.mem_of_getElem? (i := 10) (by decide +kernel)) (by decide +kernel)
theorem q_12 : (.initialized "jdk/internal/util/Preconditions" : Cond) ∈ gw := gw_t (List.mem_of_getElem? (i := 12) (by decide +kernel)) (by decide +kernel)
theorem q_33 : (.fieldLink "GameNotation$Line" 9 "GameNotation$Line" "letters" "[C" : Cond) ∈ gw := gw_t (List.mem_of_getElem? (i := 33) (by decide +kernel)) (by decide +kernel)
theorem q_34 : (.fieldLink "GameNotation$Line" 15 "GameNotation$Line" "size" "I" : Cond) ∈ gw := gw_t (List.mem_of_getElem? (i := 34) (by decide +kernel)) (by decide +kernel)
theorem q_47 : (.fieldLink "GameNotation$RecordReader" 9 "GameNotation$RecordReader" "place" "I" : Cond) ∈ gw := gw_t (List.mem_of_getElem? (i := 47) (by decide +kernel)) (by decide +kernel)
theorem q_57 : (.fieldLink "GameNotation$Told" 9 "GameNotation$Told" "moves" "[I" : Cond) ∈ gw := gw_t (List.mem_of_getElem? (i := 57) (by decide +kernel)) (by decide +kernel)
theorem q_58 : (.fieldLink "GameNotation$Told" 15 "GameNotation$Told" "signs" "[I" : Cond) ∈ gw := gw_t (List.mem_of_getElem? (i := 58) (by decide +kernel)) (by decide +kernel)
theorem q_59 : (.fieldLink "GameNotation$Told" 18 "GameNotation$Told" "count" "I" : Cond) ∈ gw := gw_t (List.mem_of_getElem? (i := 59) (by decide +kernel)) (by decide +kernel)
theorem q_74 : (.fieldLink "GameNotation$Form" 9 "GameNotation$Form" "unsignedSize" "I" : Cond) ∈ gw := gw_t (List.mem_of_getElem? (i := 74) (by decide +kernel)) (by decide +kernel)
theorem q_75 : (.fieldLink "GameNotation$Form" 15 "GameNotation$Form" "sign" "I" : Cond) ∈ gw := gw_t (List.mem_of_getElem? (i := 75) (by decide +kernel)) (by decide +kernel)
theorem q_76 : (.fieldLink "GameNotation$Form" 50 "GameNotation$Form" "castling" "I" : Cond) ∈ gw := gw_t (List.mem_of_getElem? (i := 76) (by decide +kernel)) (by decide +kernel)
theorem q_77 : (.fieldLink "GameNotation$Form" 64 "GameNotation$Form" "kind" "I" : Cond) ∈ gw := gw_t (List.mem_of_getElem? (i := 77) (by decide +kernel)) (by decide +kernel)
theorem q_78 : (.fieldLink "GameNotation$Form" 70 "GameNotation$Form" "target" "I" : Cond) ∈ gw := gw_t (List.mem_of_getElem? (i := 78) (by decide +kernel)) (by decide +kernel)
theorem q_79 : (.fieldLink "GameNotation$Form" 76 "GameNotation$Form" "becomes" "I" : Cond) ∈ gw := gw_t (List.mem_of_getElem? (i := 79) (by decide +kernel)) (by decide +kernel)
theorem q_99 : (.fieldLink "GameNotation$Position" 9 "GameNotation$Position" "men" "[I" : Cond) ∈ gw := gw_t (List.mem_of_getElem? (i := 99) (by decide +kernel)) (by decide +kernel)
theorem q_102 : (.fieldLink "GameNotation$Position" 50 "GameNotation$Position" "side" "I" : Cond) ∈ gw := gw_t (List.mem_of_getElem? (i := 102) (by decide +kernel)) (by decide +kernel)
theorem q_103 : (.fieldLink "GameNotation$Position" 26 "GameNotation$Position" "rights" "I" : Cond) ∈ gw := gw_t (List.mem_of_getElem? (i := 103) (by decide +kernel)) (by decide +kernel)
theorem q_106 : (.fieldLink "GameNotation$Position" 15 "GameNotation$Position" "passant" "I" : Cond) ∈ gw := gw_t (List.mem_of_getElem? (i := 106) (by decide +kernel)) (by decide +kernel)
theorem q_111 : (.fieldLink "GameNotation$Position" 130 "GameNotation$Position" "clock" "I" : Cond) ∈ gw := gw_t (List.mem_of_getElem? (i := 111) (by decide +kernel)) (by decide +kernel)
theorem q_128 : (.fieldLink "GameNotation" 10 "GameNotation" "line" "LGameNotation$Line;" : Cond) ∈ gw := gw_t (List.mem_of_getElem? (i := 128) (by decide +kernel)) (by decide +kernel)
theorem q_129 : (.fieldLink "GameNotation" 16 "GameNotation" "trial" "LGameNotation$Line;" : Cond) ∈ gw := gw_t (List.mem_of_getElem? (i := 129) (by decide +kernel)) (by decide +kernel)
theorem q_131 : (.fieldLink "GameNotation" 29 "GameNotation" "told" "LGameNotation$Told;" : Cond) ∈ gw := gw_t (List.mem_of_getElem? (i := 131) (by decide +kernel)) (by decide +kernel)
theorem q_132 : (.fieldLink "GameNotation" 36 "GameNotation" "form" "LGameNotation$Form;" : Cond) ∈ gw := gw_t (List.mem_of_getElem? (i := 132) (by decide +kernel)) (by decide +kernel)
theorem q_133 : (.fieldLink "GameNotation" 43 "GameNotation" "position" "LGameNotation$Position;" : Cond) ∈ gw := gw_t (List.mem_of_getElem? (i := 133) (by decide +kernel)) (by decide +kernel)
theorem q_154 : (.methodLink "GameNotation" 50 y_gn_byteOf : Cond) ∈ gw := gw_t (List.mem_of_getElem? (i := 154) (by decide +kernel)) (by decide +kernel)
theorem q_155 : (.static y_gn_byteOf : Cond) ∈ gw := gw_t (List.mem_of_getElem? (i := 155) (by decide +kernel)) (by decide +kernel)
theorem q_156 : (.code y_gn_byteOf prog_1_method_22_code 3 (some .int) : Cond) ∈ gw := gw_t (List.mem_of_getElem? (i := 156) (by decide +kernel)) (by decide +kernel)
theorem q_157 : (.methodLink "GameNotation" 54 y_ln_size : Cond) ∈ gw := gw_t (List.mem_of_getElem? (i := 157) (by decide +kernel)) (by decide +kernel)
theorem q_158 : (.instanceMethod y_ln_size : Cond) ∈ gw := gw_t (List.mem_of_getElem? (i := 158) (by decide +kernel)) (by decide +kernel)
theorem q_159 : (.selects "GameNotation$Line" y_ln_size y_ln_size : Cond) ∈ gw := gw_t (List.mem_of_getElem? (i := 159) (by decide +kernel)) (by decide +kernel)
theorem q_160 : (.code y_ln_size prog_3_method_2_code 1 (some .int) : Cond) ∈ gw := gw_t (List.mem_of_getElem? (i := 160) (by decide +kernel)) (by decide +kernel)
theorem q_161 : (.methodLink "GameNotation" 58 y_ln_add : Cond) ∈ gw := gw_t (List.mem_of_getElem? (i := 161) (by decide +kernel)) (by decide +kernel)
theorem q_162 : (.instanceMethod y_ln_add : Cond) ∈ gw := gw_t (List.mem_of_getElem? (i := 162) (by decide +kernel)) (by decide +kernel)
theorem q_163 : (.selects "GameNotation$Line" y_ln_add y_ln_add : Cond) ∈ gw := gw_t (List.mem_of_getElem? (i := 163) (by decide +kernel)) (by decide +kernel)
theorem q_164 : (.code y_ln_add prog_3_method_5_code 2 none : Cond) ∈ gw := gw_t (List.mem_of_getElem? (i := 164) (by decide +kernel)) (by decide +kernel)
theorem q_169 : (.methodLink "GameNotation" 62 y_ln_clear : Cond) ∈ gw := gw_t (List.mem_of_getElem? (i := 169) (by decide +kernel)) (by decide +kernel)
theorem q_170 : (.instanceMethod y_ln_clear : Cond) ∈ gw := gw_t (List.mem_of_getElem? (i := 170) (by decide +kernel)) (by decide +kernel)
theorem q_171 : (.selects "GameNotation$Line" y_ln_clear y_ln_clear : Cond) ∈ gw := gw_t (List.mem_of_getElem? (i := 171) (by decide +kernel)) (by decide +kernel)
theorem q_172 : (.code y_ln_clear prog_3_method_3_code 1 none : Cond) ∈ gw := gw_t (List.mem_of_getElem? (i := 172) (by decide +kernel)) (by decide +kernel)
theorem q_177 : (.methodLink "GameNotation" 65 y_ln_letter : Cond) ∈ gw := gw_t (List.mem_of_getElem? (i := 177) (by decide +kernel)) (by decide +kernel)
theorem q_178 : (.instanceMethod y_ln_letter : Cond) ∈ gw := gw_t (List.mem_of_getElem? (i := 178) (by decide +kernel)) (by decide +kernel)
theorem q_179 : (.selects "GameNotation$Line" y_ln_letter y_ln_letter : Cond) ∈ gw := gw_t (List.mem_of_getElem? (i := 179) (by decide +kernel)) (by decide +kernel)
theorem q_180 : (.code y_ln_letter prog_3_method_4_code 2 (some .char) : Cond) ∈ gw := gw_t (List.mem_of_getElem? (i := 180) (by decide +kernel)) (by decide +kernel)
theorem q_189 : (.methodLink "GameNotation$RecordReader" 15 y_ps_clearBoard : Cond) ∈ gw := gw_t (List.mem_of_getElem? (i := 189) (by decide +kernel)) (by decide +kernel)
theorem q_190 : (.instanceMethod y_ps_clearBoard : Cond) ∈ gw := gw_t (List.mem_of_getElem? (i := 190) (by decide +kernel)) (by decide +kernel)
theorem q_191 : (.selects "GameNotation$Position" y_ps_clearBoard y_ps_clearBoard : Cond) ∈ gw := gw_t (List.mem_of_getElem? (i := 191) (by decide +kernel)) (by decide +kernel)
theorem q_192 : (.code y_ps_clearBoard prog_4_method_2_code 2 none : Cond) ∈ gw := gw_t (List.mem_of_getElem? (i := 192) (by decide +kernel)) (by decide +kernel)
theorem q_193 : (.methodLink "GameNotation$RecordReader" 20 y_rd_readRanks : Cond) ∈ gw := gw_t (List.mem_of_getElem? (i := 193) (by decide +kernel)) (by decide +kernel)
theorem q_195 : (.instanceMethod y_rd_readRanks : Cond) ∈ gw := gw_t (List.mem_of_getElem? (i := 195) (by decide +kernel)) (by decide +kernel)
theorem q_196 : (.code y_rd_readRanks prog_5_method_4_code 4 (some .boolean) : Cond) ∈ gw := gw_t (List.mem_of_getElem? (i := 196) (by decide +kernel)) (by decide +kernel)
theorem q_197 : (.methodLink "GameNotation$RecordReader" 57 y_rd_readRank : Cond) ∈ gw := gw_t (List.mem_of_getElem? (i := 197) (by decide +kernel)) (by decide +kernel)
theorem q_199 : (.instanceMethod y_rd_readRank : Cond) ∈ gw := gw_t (List.mem_of_getElem? (i := 199) (by decide +kernel)) (by decide +kernel)
theorem q_200 : (.code y_rd_readRank prog_5_method_5_code 9 (some .boolean) : Cond) ∈ gw := gw_t (List.mem_of_getElem? (i := 200) (by decide +kernel)) (by decide +kernel)
theorem q_202 : (.methodLink "GameNotation$RecordReader" 53 y_ln_letter : Cond) ∈ gw := gw_t (List.mem_of_getElem? (i := 202) (by decide +kernel)) (by decide +kernel)
theorem q_203 : (.methodLink "GameNotation$RecordReader" 63 y_st_indexOf : Cond) ∈ gw := gw_t (List.mem_of_getElem? (i := 203) (by decide +kernel)) (by decide +kernel)
theorem q_204 : (.instanceMethod y_st_indexOf : Cond) ∈ gw := gw_t (List.mem_of_getElem? (i := 204) (by decide +kernel)) (by decide +kernel)
theorem q_205 : (.selects "java/lang/String" y_st_indexOf y_st_indexOf : Cond) ∈ gw := gw_t (List.mem_of_getElem? (i := 205) (by decide +kernel)) (by decide +kernel)
theorem q_206 : (.code y_st_indexOf prog_15_method_79_code 2 (some .int) : Cond) ∈ gw := gw_t (List.mem_of_getElem? (i := 206) (by decide +kernel)) (by decide +kernel)
theorem q_207 : (.methodLink "java/lang/String" 633 y_st_indexOf2 : Cond) ∈ gw := gw_t (List.mem_of_getElem? (i := 207) (by decide +kernel)) (by decide +kernel)
theorem q_208 : (.instanceMethod y_st_indexOf2 : Cond) ∈ gw := gw_t (List.mem_of_getElem? (i := 208) (by decide +kernel)) (by decide +kernel)
theorem q_209 : (.selects "java/lang/String" y_st_indexOf2 y_st_indexOf2 : Cond) ∈ gw := gw_t (List.mem_of_getElem? (i := 209) (by decide +kernel)) (by decide +kernel)
theorem q_210 : (.code y_st_indexOf2 prog_15_method_80_code 3 (some .int) : Cond) ∈ gw := gw_t (List.mem_of_getElem? (i := 210) (by decide +kernel)) (by decide +kernel)
theorem q_211 : (.methodLink "java/lang/String" 492 y_st_isLatin1 : Cond) ∈ gw := gw_t (List.mem_of_getElem? (i := 211) (by decide +kernel)) (by decide +kernel)
theorem q_212 : (.instanceMethod y_st_isLatin1 : Cond) ∈ gw := gw_t (List.mem_of_getElem? (i := 212) (by decide +kernel)) (by decide +kernel)
theorem q_213 : (.selects "java/lang/String" y_st_isLatin1 y_st_isLatin1 : Cond) ∈ gw := gw_t (List.mem_of_getElem? (i := 213) (by decide +kernel)) (by decide +kernel)
theorem q_214 : (.code y_st_isLatin1 prog_15_method_154_code 1 (some .boolean) : Cond) ∈ gw := gw_t (List.mem_of_getElem? (i := 214) (by decide +kernel)) (by decide +kernel)
theorem q_215 : (.fieldLink "java/lang/String" 38 "java/lang/String" "COMPACT_STRINGS" "Z" : Cond) ∈ gw := gw_t (List.mem_of_getElem? (i := 215) (by decide +kernel)) (by decide +kernel)
theorem q_217 : (.methodLink "java/lang/String" 505 y_st_length : Cond) ∈ gw := gw_t (List.mem_of_getElem? (i := 217) (by decide +kernel)) (by decide +kernel)
theorem q_218 : (.instanceMethod y_st_length : Cond) ∈ gw := gw_t (List.mem_of_getElem? (i := 218) (by decide +kernel)) (by decide +kernel)
theorem q_219 : (.selects "java/lang/String" y_st_length y_st_length : Cond) ∈ gw := gw_t (List.mem_of_getElem? (i := 219) (by decide +kernel)) (by decide +kernel)
theorem q_220 : (.code y_st_length prog_15_method_54_code 1 (some .int) : Cond) ∈ gw := gw_t (List.mem_of_getElem? (i := 220) (by decide +kernel)) (by decide +kernel)
theorem q_221 : (.methodLink "java/lang/String" 335 y_st_coder : Cond) ∈ gw := gw_t (List.mem_of_getElem? (i := 221) (by decide +kernel)) (by decide +kernel)
theorem q_222 : (.instanceMethod y_st_coder : Cond) ∈ gw := gw_t (List.mem_of_getElem? (i := 222) (by decide +kernel)) (by decide +kernel)
theorem q_223 : (.selects "java/lang/String" y_st_coder y_st_coder : Cond) ∈ gw := gw_t (List.mem_of_getElem? (i := 223) (by decide +kernel)) (by decide +kernel)
theorem q_224 : (.code y_st_coder prog_15_method_152_code 1 (some .byte) : Cond) ∈ gw := gw_t (List.mem_of_getElem? (i := 224) (by decide +kernel)) (by decide +kernel)
theorem q_225 : (.methodLink "java/lang/String" 637 y_sl_indexOf : Cond) ∈ gw := gw_t (List.mem_of_getElem? (i := 225) (by decide +kernel)) (by decide +kernel)
theorem q_226 : (.static y_sl_indexOf : Cond) ∈ gw := gw_t (List.mem_of_getElem? (i := 226) (by decide +kernel)) (by decide +kernel)
theorem q_227 : (.code y_sl_indexOf prog_16_method_22_code 4 (some .int) : Cond) ∈ gw := gw_t (List.mem_of_getElem? (i := 227) (by decide +kernel)) (by decide +kernel)
theorem q_228 : (.methodLink "java/lang/StringLatin1" 88 y_sl_canEncode : Cond) ∈ gw := gw_t (List.mem_of_getElem? (i := 228) (by decide +kernel)) (by decide +kernel)
theorem q_229 : (.static y_sl_canEncode : Cond) ∈ gw := gw_t (List.mem_of_getElem? (i := 229) (by decide +kernel)) (by decide +kernel)
theorem q_230 : (.code y_sl_canEncode prog_16_method_4_code 1 (some .boolean) : Cond) ∈ gw := gw_t (List.mem_of_getElem? (i := 230) (by decide +kernel)) (by decide +kernel)
theorem q_231 : (.methodLink "java/lang/StringLatin1" 92 y_mt_max : Cond) ∈ gw := gw_t (List.mem_of_getElem? (i := 231) (by decide +kernel)) (by decide +kernel)
theorem q_232 : (.static y_mt_max : Cond) ∈ gw := gw_t (List.mem_of_getElem? (i := 232) (by decide +kernel)) (by decide +kernel)
theorem q_233 : (.code y_mt_max prog_13_method_65_code 2 (some .int) : Cond) ∈ gw := gw_t (List.mem_of_getElem? (i := 233) (by decide +kernel)) (by decide +kernel)
theorem q_234 : (.methodLink "java/lang/StringLatin1" 38 y_mt_min : Cond) ∈ gw := gw_t (List.mem_of_getElem? (i := 234) (by decide +kernel)) (by decide +kernel)
theorem q_235 : (.static y_mt_min : Cond) ∈ gw := gw_t (List.mem_of_getElem? (i := 235) (by decide +kernel)) (by decide +kernel)
theorem q_236 : (.code y_mt_min prog_13_method_69_code 2 (some .int) : Cond) ∈ gw := gw_t (List.mem_of_getElem? (i := 236) (by decide +kernel)) (by decide +kernel)
theorem q_237 : (.methodLink "java/lang/StringLatin1" 95 y_sl_indexOfChar : Cond) ∈ gw := gw_t (List.mem_of_getElem? (i := 237) (by decide +kernel)) (by decide +kernel)
theorem q_238 : (.static y_sl_indexOfChar : Cond) ∈ gw := gw_t (List.mem_of_getElem? (i := 238) (by decide +kernel)) (by decide +kernel)
theorem q_239 : (.code y_sl_indexOfChar prog_16_method_23_code 6 (some .int) : Cond) ∈ gw := gw_t (List.mem_of_getElem? (i := 239) (by decide +kernel)) (by decide +kernel)
theorem q_258 : (.fieldLink "java/lang/String" 1053 "jdk/internal/util/Preconditions" "SIOOBE_FORMATTER" "Ljava/util/function/BiFunction;" : Cond) ∈ gw := gw_t (List.mem_of_getElem? (i := 258) (by decide +kernel)) (by decide +kernel)
theorem q_291 : (.static y_gn_squareOf : Cond) ∈ gw := gw_t (List.mem_of_getElem? (i := 291) (by decide +kernel)) (by decide +kernel)
theorem q_292 : (.code y_gn_squareOf prog_1_method_28_code 2 (some .int) : Cond) ∈ gw := gw_t (List.mem_of_getElem? (i := 292) (by decide +kernel)) (by decide +kernel)
theorem q_293 : (.methodLink "GameNotation$RecordReader" 75 y_ps_place : Cond) ∈ gw := gw_t (List.mem_of_getElem? (i := 293) (by decide +kernel)) (by decide +kernel)
theorem q_294 : (.instanceMethod y_ps_place : Cond) ∈ gw := gw_t (List.mem_of_getElem? (i := 294) (by decide +kernel)) (by decide +kernel)
theorem q_295 : (.selects "GameNotation$Position" y_ps_place y_ps_place : Cond) ∈ gw := gw_t (List.mem_of_getElem? (i := 295) (by decide +kernel)) (by decide +kernel)
theorem q_296 : (.code y_ps_place prog_4_method_3_code 3 none : Cond) ∈ gw := gw_t (List.mem_of_getElem? (i := 296) (by decide +kernel)) (by decide +kernel)
theorem q_298 : (.static y_gn_isSquare : Cond) ∈ gw := gw_t (List.mem_of_getElem? (i := 298) (by decide +kernel)) (by decide +kernel)
theorem q_299 : (.code y_gn_isSquare prog_1_method_24_code 1 (some .boolean) : Cond) ∈ gw := gw_t (List.mem_of_getElem? (i := 299) (by decide +kernel)) (by decide +kernel)
theorem q_300 : (.methodLink "GameNotation$RecordReader" 24 y_rd_passes : Cond) ∈ gw := gw_t (List.mem_of_getElem? (i := 300) (by decide +kernel)) (by decide +kernel)
theorem q_302 : (.instanceMethod y_rd_passes : Cond) ∈ gw := gw_t (List.mem_of_getElem? (i := 302) (by decide +kernel)) (by decide +kernel)
theorem q_303 : (.code y_rd_passes prog_5_method_3_code 3 (some .boolean) : Cond) ∈ gw := gw_t (List.mem_of_getElem? (i := 303) (by decide +kernel)) (by decide +kernel)
theorem q_304 : (.methodLink "GameNotation$RecordReader" 28 y_rd_readSide : Cond) ∈ gw := gw_t (List.mem_of_getElem? (i := 304) (by decide +kernel)) (by decide +kernel)
theorem q_306 : (.instanceMethod y_rd_readSide : Cond) ∈ gw := gw_t (List.mem_of_getElem? (i := 306) (by decide +kernel)) (by decide +kernel)
theorem q_307 : (.code y_rd_readSide prog_5_method_6_code 3 (some .boolean) : Cond) ∈ gw := gw_t (List.mem_of_getElem? (i := 307) (by decide +kernel)) (by decide +kernel)
theorem q_308 : (.methodLink "GameNotation$RecordReader" 31 y_rd_readRights : Cond) ∈ gw := gw_t (List.mem_of_getElem? (i := 308) (by decide +kernel)) (by decide +kernel)
theorem q_310 : (.instanceMethod y_rd_readRights : Cond) ∈ gw := gw_t (List.mem_of_getElem? (i := 310) (by decide +kernel)) (by decide +kernel)
theorem q_311 : (.code y_rd_readRights prog_5_method_7_code 4 (some .boolean) : Cond) ∈ gw := gw_t (List.mem_of_getElem? (i := 311) (by decide +kernel)) (by decide +kernel)
theorem q_313 : (.methodLink "GameNotation$RecordReader" 86 y_st_length : Cond) ∈ gw := gw_t (List.mem_of_getElem? (i := 313) (by decide +kernel)) (by decide +kernel)
theorem q_315 : (.static y_gn_pick : Cond) ∈ gw := gw_t (List.mem_of_getElem? (i := 315) (by decide +kernel)) (by decide +kernel)
theorem q_316 : (.code y_gn_pick prog_1_method_23_code 2 (some .char) : Cond) ∈ gw := gw_t (List.mem_of_getElem? (i := 316) (by decide +kernel)) (by decide +kernel)
theorem q_317 : (.methodLink "GameNotation" 205 y_st_length : Cond) ∈ gw := gw_t (List.mem_of_getElem? (i := 317) (by decide +kernel)) (by decide +kernel)
theorem q_318 : (.methodLink "GameNotation" 231 y_st_charAt : Cond) ∈ gw := gw_t (List.mem_of_getElem? (i := 318) (by decide +kernel)) (by decide +kernel)
theorem q_319 : (.instanceMethod y_st_charAt : Cond) ∈ gw := gw_t (List.mem_of_getElem? (i := 319) (by decide +kernel)) (by decide +kernel)
theorem q_320 : (.selects "java/lang/String" y_st_charAt y_st_charAt : Cond) ∈ gw := gw_t (List.mem_of_getElem? (i := 320) (by decide +kernel)) (by decide +kernel)
theorem q_321 : (.code y_st_charAt prog_15_method_56_code 2 (some .char) : Cond) ∈ gw := gw_t (List.mem_of_getElem? (i := 321) (by decide +kernel)) (by decide +kernel)
theorem q_322 : (.methodLink "java/lang/String" 495 y_sl_charAt : Cond) ∈ gw := gw_t (List.mem_of_getElem? (i := 322) (by decide +kernel)) (by decide +kernel)
theorem q_323 : (.static y_sl_charAt : Cond) ∈ gw := gw_t (List.mem_of_getElem? (i := 323) (by decide +kernel)) (by decide +kernel)
theorem q_324 : (.code y_sl_charAt prog_16_method_2_code 2 (some .char) : Cond) ∈ gw := gw_t (List.mem_of_getElem? (i := 324) (by decide +kernel)) (by decide +kernel)
theorem q_325 : (.methodLink "java/lang/StringLatin1" 9 y_st_checkIndex : Cond) ∈ gw := gw_t (List.mem_of_getElem? (i := 325) (by decide +kernel)) (by decide +kernel)
theorem q_326 : (.static y_st_checkIndex : Cond) ∈ gw := gw_t (List.mem_of_getElem? (i := 326) (by decide +kernel)) (by decide +kernel)
theorem q_327 : (.code y_st_checkIndex prog_15_method_155_code 2 none : Cond) ∈ gw := gw_t (List.mem_of_getElem? (i := 327) (by decide +kernel)) (by decide +kernel)
theorem q_328 : (.methodLink "java/lang/String" 1059 y_pc_checkIndex : Cond) ∈ gw := gw_t (List.mem_of_getElem? (i := 328) (by decide +kernel)) (by decide +kernel)
theorem q_329 : (.static y_pc_checkIndex : Cond) ∈ gw := gw_t (List.mem_of_getElem? (i := 329) (by decide +kernel)) (by decide +kernel)
theorem q_330 : (.code y_pc_checkIndex prog_19_method_11_code 3 (some .int) : Cond) ∈ gw := gw_t (List.mem_of_getElem? (i := 330) (by decide +kernel)) (by decide +kernel)
theorem q_338 : (.methodLink "GameNotation$RecordReader" 34 y_rd_readPassant : Cond) ∈ gw := gw_t (List.mem_of_getElem? (i := 338) (by decide +kernel)) (by decide +kernel)
theorem q_340 : (.instanceMethod y_rd_readPassant : Cond) ∈ gw := gw_t (List.mem_of_getElem? (i := 340) (by decide +kernel)) (by decide +kernel)
theorem q_341 : (.code y_rd_readPassant prog_5_method_8_code 3 (some .boolean) : Cond) ∈ gw := gw_t (List.mem_of_getElem? (i := 341) (by decide +kernel)) (by decide +kernel)
theorem q_344 : (.static y_gn_passantRank : Cond) ∈ gw := gw_t (List.mem_of_getElem? (i := 344) (by decide +kernel)) (by decide +kernel)
theorem q_345 : (.code y_gn_passantRank prog_1_method_32_code 1 (some .char) : Cond) ∈ gw := gw_t (List.mem_of_getElem? (i := 345) (by decide +kernel)) (by decide +kernel)
theorem q_346 : (.methodLink "GameNotation$RecordReader" 37 y_rd_readNumber : Cond) ∈ gw := gw_t (List.mem_of_getElem? (i := 346) (by decide +kernel)) (by decide +kernel)
theorem q_348 : (.instanceMethod y_rd_readNumber : Cond) ∈ gw := gw_t (List.mem_of_getElem? (i := 348) (by decide +kernel)) (by decide +kernel)
theorem q_349 : (.code y_rd_readNumber prog_5_method_9_code 7 (some .int) : Cond) ∈ gw := gw_t (List.mem_of_getElem? (i := 349) (by decide +kernel)) (by decide +kernel)
theorem q_350 : (.methodLink "GameNotation$RecordReader" 101 y_rd_isDigit : Cond) ∈ gw := gw_t (List.mem_of_getElem? (i := 350) (by decide +kernel)) (by decide +kernel)
theorem q_351 : (.static y_rd_isDigit : Cond) ∈ gw := gw_t (List.mem_of_getElem? (i := 351) (by decide +kernel)) (by decide +kernel)
theorem q_352 : (.code y_rd_isDigit prog_5_method_10_code 1 (some .boolean) : Cond) ∈ gw := gw_t (List.mem_of_getElem? (i := 352) (by decide +kernel)) (by decide +kernel)
theorem q_353 : (.methodLink "GameNotation$RecordReader" 47 y_ln_size : Cond) ∈ gw := gw_t (List.mem_of_getElem? (i := 353) (by decide +kernel)) (by decide +kernel)
theorem q_359 : (.static y_gn_manOf : Cond) ∈ gw := gw_t (List.mem_of_getElem? (i := 359) (by decide +kernel)) (by decide +kernel)
theorem q_360 : (.code y_gn_manOf prog_1_method_29_code 2 (some .int) : Cond) ∈ gw := gw_t (List.mem_of_getElem? (i := 360) (by decide +kernel)) (by decide +kernel)
theorem q_361 : (.methodLink "GameNotation$Position" 33 y_ps_count : Cond) ∈ gw := gw_t (List.mem_of_getElem? (i := 361) (by decide +kernel)) (by decide +kernel)
theorem q_363 : (.instanceMethod y_ps_count : Cond) ∈ gw := gw_t (List.mem_of_getElem? (i := 363) (by decide +kernel)) (by decide +kernel)
theorem q_364 : (.code y_ps_count prog_4_method_13_code 4 (some .int) : Cond) ∈ gw := gw_t (List.mem_of_getElem? (i := 364) (by decide +kernel)) (by decide +kernel)
theorem q_365 : (.methodLink "GameNotation$Position" 37 y_ps_hasMisplacedPawn : Cond) ∈ gw := gw_t (List.mem_of_getElem? (i := 365) (by decide +kernel)) (by decide +kernel)
theorem q_367 : (.instanceMethod y_ps_hasMisplacedPawn : Cond) ∈ gw := gw_t (List.mem_of_getElem? (i := 367) (by decide +kernel)) (by decide +kernel)
theorem q_368 : (.code y_ps_hasMisplacedPawn prog_4_method_15_code 2 (some .boolean) : Cond) ∈ gw := gw_t (List.mem_of_getElem? (i := 368) (by decide +kernel)) (by decide +kernel)
theorem q_369 : (.methodLink "GameNotation$Position" 95 y_ps_manAt : Cond) ∈ gw := gw_t (List.mem_of_getElem? (i := 369) (by decide +kernel)) (by decide +kernel)
theorem q_370 : (.instanceMethod y_ps_manAt : Cond) ∈ gw := gw_t (List.mem_of_getElem? (i := 370) (by decide +kernel)) (by decide +kernel)
theorem q_371 : (.selects "GameNotation$Position" y_ps_manAt y_ps_manAt : Cond) ∈ gw := gw_t (List.mem_of_getElem? (i := 371) (by decide +kernel)) (by decide +kernel)
theorem q_372 : (.code y_ps_manAt prog_4_method_5_code 4 (some .int) : Cond) ∈ gw := gw_t (List.mem_of_getElem? (i := 372) (by decide +kernel)) (by decide +kernel)
theorem q_374 : (.static y_gn_kindOf : Cond) ∈ gw := gw_t (List.mem_of_getElem? (i := 374) (by decide +kernel)) (by decide +kernel)
theorem q_375 : (.code y_gn_kindOf prog_1_method_30_code 1 (some .int) : Cond) ∈ gw := gw_t (List.mem_of_getElem? (i := 375) (by decide +kernel)) (by decide +kernel)
theorem q_376 : (.methodLink "GameNotation$Position" 41 y_ps_hasTooMany : Cond) ∈ gw := gw_t (List.mem_of_getElem? (i := 376) (by decide +kernel)) (by decide +kernel)
theorem q_378 : (.instanceMethod y_ps_hasTooMany : Cond) ∈ gw := gw_t (List.mem_of_getElem? (i := 378) (by decide +kernel)) (by decide +kernel)
theorem q_379 : (.code y_ps_hasTooMany prog_4_method_16_code 3 (some .boolean) : Cond) ∈ gw := gw_t (List.mem_of_getElem? (i := 379) (by decide +kernel)) (by decide +kernel)
theorem q_380 : (.methodLink "GameNotation$Position" 105 y_ps_extra : Cond) ∈ gw := gw_t (List.mem_of_getElem? (i := 380) (by decide +kernel)) (by decide +kernel)
theorem q_382 : (.instanceMethod y_ps_extra : Cond) ∈ gw := gw_t (List.mem_of_getElem? (i := 382) (by decide +kernel)) (by decide +kernel)
theorem q_383 : (.code y_ps_extra prog_4_method_17_code 4 (some .int) : Cond) ∈ gw := gw_t (List.mem_of_getElem? (i := 383) (by decide +kernel)) (by decide +kernel)
theorem q_384 : (.methodLink "GameNotation$Position" 108 y_mt_max : Cond) ∈ gw := gw_t (List.mem_of_getElem? (i := 384) (by decide +kernel)) (by decide +kernel)
theorem q_385 : (.methodLink "GameNotation$Position" 44 y_ps_rightsHold : Cond) ∈ gw := gw_t (List.mem_of_getElem? (i := 385) (by decide +kernel)) (by decide +kernel)
theorem q_387 : (.instanceMethod y_ps_rightsHold : Cond) ∈ gw := gw_t (List.mem_of_getElem? (i := 387) (by decide +kernel)) (by decide +kernel)
theorem q_388 : (.code y_ps_rightsHold prog_4_method_18_code 2 (some .boolean) : Cond) ∈ gw := gw_t (List.mem_of_getElem? (i := 388) (by decide +kernel)) (by decide +kernel)
theorem q_390 : (.methodLink "GameNotation$Position" 115 y_st_length : Cond) ∈ gw := gw_t (List.mem_of_getElem? (i := 390) (by decide +kernel)) (by decide +kernel)
theorem q_391 : (.methodLink "GameNotation$Position" 121 y_ps_hasRight : Cond) ∈ gw := gw_t (List.mem_of_getElem? (i := 391) (by decide +kernel)) (by decide +kernel)
theorem q_392 : (.instanceMethod y_ps_hasRight : Cond) ∈ gw := gw_t (List.mem_of_getElem? (i := 392) (by decide +kernel)) (by decide +kernel)
theorem q_393 : (.selects "GameNotation$Position" y_ps_hasRight y_ps_hasRight : Cond) ∈ gw := gw_t (List.mem_of_getElem? (i := 393) (by decide +kernel)) (by decide +kernel)
theorem q_394 : (.code y_ps_hasRight prog_4_method_6_code 2 (some .boolean) : Cond) ∈ gw := gw_t (List.mem_of_getElem? (i := 394) (by decide +kernel)) (by decide +kernel)
theorem q_395 : (.methodLink "GameNotation$Position" 124 y_ps_rightHolds : Cond) ∈ gw := gw_t (List.mem_of_getElem? (i := 395) (by decide +kernel)) (by decide +kernel)
theorem q_397 : (.instanceMethod y_ps_rightHolds : Cond) ∈ gw := gw_t (List.mem_of_getElem? (i := 397) (by decide +kernel)) (by decide +kernel)
theorem q_398 : (.code y_ps_rightHolds prog_4_method_19_code 5 (some .boolean) : Cond) ∈ gw := gw_t (List.mem_of_getElem? (i := 398) (by decide +kernel)) (by decide +kernel)
theorem q_400 : (.static y_gn_ownRank : Cond) ∈ gw := gw_t (List.mem_of_getElem? (i := 400) (by decide +kernel)) (by decide +kernel)
theorem q_401 : (.code y_gn_ownRank prog_1_method_31_code 2 (some .int) : Cond) ∈ gw := gw_t (List.mem_of_getElem? (i := 401) (by decide +kernel)) (by decide +kernel)
theorem q_402 : (.methodLink "GameNotation$Position" 47 y_ps_passantHolds : Cond) ∈ gw := gw_t (List.mem_of_getElem? (i := 402) (by decide +kernel)) (by decide +kernel)
theorem q_404 : (.instanceMethod y_ps_passantHolds : Cond) ∈ gw := gw_t (List.mem_of_getElem? (i := 404) (by decide +kernel)) (by decide +kernel)
theorem q_405 : (.code y_ps_passantHolds prog_4_method_20_code 2 (some .boolean) : Cond) ∈ gw := gw_t (List.mem_of_getElem? (i := 405) (by decide +kernel)) (by decide +kernel)
theorem q_406 : (.methodLink "GameNotation$Position" 53 y_ps_kingSquare : Cond) ∈ gw := gw_t (List.mem_of_getElem? (i := 406) (by decide +kernel)) (by decide +kernel)
theorem q_408 : (.instanceMethod y_ps_kingSquare : Cond) ∈ gw := gw_t (List.mem_of_getElem? (i := 408) (by decide +kernel)) (by decide +kernel)
theorem q_409 : (.code y_ps_kingSquare prog_4_method_14_code 3 (some .int) : Cond) ∈ gw := gw_t (List.mem_of_getElem? (i := 409) (by decide +kernel)) (by decide +kernel)
theorem q_410 : (.methodLink "GameNotation$Position" 56 y_ps_isAttacked : Cond) ∈ gw := gw_t (List.mem_of_getElem? (i := 410) (by decide +kernel)) (by decide +kernel)
theorem q_411 : (.instanceMethod y_ps_isAttacked : Cond) ∈ gw := gw_t (List.mem_of_getElem? (i := 411) (by decide +kernel)) (by decide +kernel)
theorem q_412 : (.selects "GameNotation$Position" y_ps_isAttacked y_ps_isAttacked : Cond) ∈ gw := gw_t (List.mem_of_getElem? (i := 412) (by decide +kernel)) (by decide +kernel)
theorem q_413 : (.code y_ps_isAttacked prog_4_method_8_code 3 (some .boolean) : Cond) ∈ gw := gw_t (List.mem_of_getElem? (i := 413) (by decide +kernel)) (by decide +kernel)
theorem q_418 : (.methodLink "GameNotation$Position" 66 y_ps_isNear : Cond) ∈ gw := gw_t (List.mem_of_getElem? (i := 418) (by decide +kernel)) (by decide +kernel)
theorem q_420 : (.instanceMethod y_ps_isNear : Cond) ∈ gw := gw_t (List.mem_of_getElem? (i := 420) (by decide +kernel)) (by decide +kernel)
theorem q_421 : (.code y_ps_isNear prog_4_method_9_code 6 (some .boolean) : Cond) ∈ gw := gw_t (List.mem_of_getElem? (i := 421) (by decide +kernel)) (by decide +kernel)
theorem q_423 : (.static y_gn_fileOf : Cond) ∈ gw := gw_t (List.mem_of_getElem? (i := 423) (by decide +kernel)) (by decide +kernel)
theorem q_424 : (.code y_gn_fileOf prog_1_method_26_code 1 (some .int) : Cond) ∈ gw := gw_t (List.mem_of_getElem? (i := 424) (by decide +kernel)) (by decide +kernel)
theorem q_426 : (.static y_gn_rankOf : Cond) ∈ gw := gw_t (List.mem_of_getElem? (i := 426) (by decide +kernel)) (by decide +kernel)
theorem q_427 : (.code y_gn_rankOf prog_1_method_27_code 1 (some .int) : Cond) ∈ gw := gw_t (List.mem_of_getElem? (i := 427) (by decide +kernel)) (by decide +kernel)
theorem q_436 : (.methodLink "GameNotation$Position" 82 y_ps_isAttackedByPawn : Cond) ∈ gw := gw_t (List.mem_of_getElem? (i := 436) (by decide +kernel)) (by decide +kernel)
theorem q_438 : (.instanceMethod y_ps_isAttackedByPawn : Cond) ∈ gw := gw_t (List.mem_of_getElem? (i := 438) (by decide +kernel)) (by decide +kernel)
theorem q_439 : (.code y_ps_isAttackedByPawn prog_4_method_10_code 5 (some .boolean) : Cond) ∈ gw := gw_t (List.mem_of_getElem? (i := 439) (by decide +kernel)) (by decide +kernel)
theorem q_440 : (.methodLink "GameNotation$Position" 85 y_ps_isInLine : Cond) ∈ gw := gw_t (List.mem_of_getElem? (i := 440) (by decide +kernel)) (by decide +kernel)
theorem q_442 : (.instanceMethod y_ps_isInLine : Cond) ∈ gw := gw_t (List.mem_of_getElem? (i := 442) (by decide +kernel)) (by decide +kernel)
theorem q_443 : (.code y_ps_isInLine prog_4_method_11_code 8 (some .boolean) : Cond) ∈ gw := gw_t (List.mem_of_getElem? (i := 443) (by decide +kernel)) (by decide +kernel)
theorem q_444 : (.methodLink "GameNotation$Position" 98 y_ps_firstInLine : Cond) ∈ gw := gw_t (List.mem_of_getElem? (i := 444) (by decide +kernel)) (by decide +kernel)
theorem q_446 : (.instanceMethod y_ps_firstInLine : Cond) ∈ gw := gw_t (List.mem_of_getElem? (i := 446) (by decide +kernel)) (by decide +kernel)
theorem q_447 : (.code y_ps_firstInLine prog_4_method_12_code 6 (some .int) : Cond) ∈ gw := gw_t (List.mem_of_getElem? (i := 447) (by decide +kernel)) (by decide +kernel)
theorem q_448 : (.methodLink "GameNotation" 76 y_td_clear : Cond) ∈ gw := gw_t (List.mem_of_getElem? (i := 448) (by decide +kernel)) (by decide +kernel)
theorem q_449 : (.instanceMethod y_td_clear : Cond) ∈ gw := gw_t (List.mem_of_getElem? (i := 449) (by decide +kernel)) (by decide +kernel)
theorem q_450 : (.selects "GameNotation$Told" y_td_clear y_td_clear : Cond) ∈ gw := gw_t (List.mem_of_getElem? (i := 450) (by decide +kernel)) (by decide +kernel)
theorem q_451 : (.code y_td_clear prog_6_method_3_code 1 none : Cond) ∈ gw := gw_t (List.mem_of_getElem? (i := 451) (by decide +kernel)) (by decide +kernel)
theorem q_457 : (.methodLink "GameNotation" 77 y_gn_addRanks : Cond) ∈ gw := gw_t (List.mem_of_getElem? (i := 457) (by decide +kernel)) (by decide +kernel)
theorem q_459 : (.instanceMethod y_gn_addRanks : Cond) ∈ gw := gw_t (List.mem_of_getElem? (i := 459) (by decide +kernel)) (by decide +kernel)
theorem q_460 : (.code y_gn_addRanks prog_1_method_16_code 2 none : Cond) ∈ gw := gw_t (List.mem_of_getElem? (i := 460) (by decide +kernel)) (by decide +kernel)
theorem q_461 : (.methodLink "GameNotation" 192 y_gn_addRank : Cond) ∈ gw := gw_t (List.mem_of_getElem? (i := 461) (by decide +kernel)) (by decide +kernel)
theorem q_463 : (.instanceMethod y_gn_addRank : Cond) ∈ gw := gw_t (List.mem_of_getElem? (i := 463) (by decide +kernel)) (by decide +kernel)
theorem q_464 : (.code y_gn_addRank prog_1_method_17_code 5 none : Cond) ∈ gw := gw_t (List.mem_of_getElem? (i := 464) (by decide +kernel)) (by decide +kernel)
theorem q_465 : (.methodLink "GameNotation" 195 y_ps_manAt : Cond) ∈ gw := gw_t (List.mem_of_getElem? (i := 465) (by decide +kernel)) (by decide +kernel)
theorem q_466 : (.methodLink "GameNotation" 198 y_gn_addEmpty : Cond) ∈ gw := gw_t (List.mem_of_getElem? (i := 466) (by decide +kernel)) (by decide +kernel)
theorem q_468 : (.instanceMethod y_gn_addEmpty : Cond) ∈ gw := gw_t (List.mem_of_getElem? (i := 468) (by decide +kernel)) (by decide +kernel)
theorem q_469 : (.code y_gn_addEmpty prog_1_method_18_code 2 none : Cond) ∈ gw := gw_t (List.mem_of_getElem? (i := 469) (by decide +kernel)) (by decide +kernel)
theorem q_470 : (.methodLink "GameNotation" 99 y_ln_addNumber : Cond) ∈ gw := gw_t (List.mem_of_getElem? (i := 470) (by decide +kernel)) (by decide +kernel)
theorem q_471 : (.instanceMethod y_ln_addNumber : Cond) ∈ gw := gw_t (List.mem_of_getElem? (i := 471) (by decide +kernel)) (by decide +kernel)
theorem q_472 : (.selects "GameNotation$Line" y_ln_addNumber y_ln_addNumber : Cond) ∈ gw := gw_t (List.mem_of_getElem? (i := 472) (by decide +kernel)) (by decide +kernel)
theorem q_473 : (.code y_ln_addNumber prog_3_method_7_code 3 none : Cond) ∈ gw := gw_t (List.mem_of_getElem? (i := 473) (by decide +kernel)) (by decide +kernel)
theorem q_474 : (.methodLink "GameNotation$Line" 29 y_ln_add : Cond) ∈ gw := gw_t (List.mem_of_getElem? (i := 474) (by decide +kernel)) (by decide +kernel)
theorem q_476 : (.methodLink "GameNotation" 86 y_gn_pick : Cond) ∈ gw := gw_t (List.mem_of_getElem? (i := 476) (by decide +kernel)) (by decide +kernel)
theorem q_478 : (.methodLink "GameNotation" 90 y_gn_addRights : Cond) ∈ gw := gw_t (List.mem_of_getElem? (i := 478) (by decide +kernel)) (by decide +kernel)
theorem q_480 : (.instanceMethod y_gn_addRights : Cond) ∈ gw := gw_t (List.mem_of_getElem? (i := 480) (by decide +kernel)) (by decide +kernel)
theorem q_481 : (.code y_gn_addRights prog_1_method_19_code 2 none : Cond) ∈ gw := gw_t (List.mem_of_getElem? (i := 481) (by decide +kernel)) (by decide +kernel)
theorem q_483 : (.methodLink "GameNotation" 210 y_ps_hasRight : Cond) ∈ gw := gw_t (List.mem_of_getElem? (i := 483) (by decide +kernel)) (by decide +kernel)
theorem q_484 : (.methodLink "GameNotation" 93 y_gn_addPassant : Cond) ∈ gw := gw_t (List.mem_of_getElem? (i := 484) (by decide +kernel)) (by decide +kernel)
theorem q_486 : (.instanceMethod y_gn_addPassant : Cond) ∈ gw := gw_t (List.mem_of_getElem? (i := 486) (by decide +kernel)) (by decide +kernel)
theorem q_487 : (.code y_gn_addPassant prog_1_method_20_code 1 none : Cond) ∈ gw := gw_t (List.mem_of_getElem? (i := 487) (by decide +kernel)) (by decide +kernel)
theorem q_489 : (.methodLink "GameNotation" 215 y_gn_passantRank : Cond) ∈ gw := gw_t (List.mem_of_getElem? (i := 489) (by decide +kernel)) (by decide +kernel)
theorem q_494 : (.methodLink "GameNotation" 106 y_gn_isSquare : Cond) ∈ gw := gw_t (List.mem_of_getElem? (i := 494) (by decide +kernel)) (by decide +kernel)
theorem q_495 : (.methodLink "GameNotation" 110 y_ps_place : Cond) ∈ gw := gw_t (List.mem_of_getElem? (i := 495) (by decide +kernel)) (by decide +kernel)
theorem q_500 : (.methodLink "GameNotation" 114 y_gn_isSide : Cond) ∈ gw := gw_t (List.mem_of_getElem? (i := 500) (by decide +kernel)) (by decide +kernel)
theorem q_501 : (.static y_gn_isSide : Cond) ∈ gw := gw_t (List.mem_of_getElem? (i := 501) (by decide +kernel)) (by decide +kernel)
theorem q_502 : (.code y_gn_isSide prog_1_method_25_code 1 (some .boolean) : Cond) ∈ gw := gw_t (List.mem_of_getElem? (i := 502) (by decide +kernel)) (by decide +kernel)
theorem q_507 : (.methodLink "GameNotation" 123 y_ps_manOn : Cond) ∈ gw := gw_t (List.mem_of_getElem? (i := 507) (by decide +kernel)) (by decide +kernel)
theorem q_508 : (.instanceMethod y_ps_manOn : Cond) ∈ gw := gw_t (List.mem_of_getElem? (i := 508) (by decide +kernel)) (by decide +kernel)
theorem q_509 : (.selects "GameNotation$Position" y_ps_manOn y_ps_manOn : Cond) ∈ gw := gw_t (List.mem_of_getElem? (i := 509) (by decide +kernel)) (by decide +kernel)
theorem q_510 : (.code y_ps_manOn prog_4_method_4_code 2 (some .int) : Cond) ∈ gw := gw_t (List.mem_of_getElem? (i := 510) (by decide +kernel)) (by decide +kernel)
theorem q_515 : (.methodLink "GameNotation" 138 y_gn_isMove : Cond) ∈ gw := gw_t (List.mem_of_getElem? (i := 515) (by decide +kernel)) (by decide +kernel)
theorem q_516 : (.static y_gn_isMove : Cond) ∈ gw := gw_t (List.mem_of_getElem? (i := 516) (by decide +kernel)) (by decide +kernel)
theorem q_517 : (.code y_gn_isMove prog_1_method_33_code 2 (some .boolean) : Cond) ∈ gw := gw_t (List.mem_of_getElem? (i := 517) (by decide +kernel)) (by decide +kernel)
theorem q_518 : (.methodLink "GameNotation" 147 y_gn_becomesOf : Cond) ∈ gw := gw_t (List.mem_of_getElem? (i := 518) (by decide +kernel)) (by decide +kernel)
theorem q_519 : (.static y_gn_becomesOf : Cond) ∈ gw := gw_t (List.mem_of_getElem? (i := 519) (by decide +kernel)) (by decide +kernel)
theorem q_520 : (.code y_gn_becomesOf prog_1_method_37_code 1 (some .int) : Cond) ∈ gw := gw_t (List.mem_of_getElem? (i := 520) (by decide +kernel)) (by decide +kernel)
theorem q_521 : (.methodLink "GameNotation" 234 y_gn_isPromotion : Cond) ∈ gw := gw_t (List.mem_of_getElem? (i := 521) (by decide +kernel)) (by decide +kernel)
theorem q_522 : (.static y_gn_isPromotion : Cond) ∈ gw := gw_t (List.mem_of_getElem? (i := 522) (by decide +kernel)) (by decide +kernel)
theorem q_523 : (.code y_gn_isPromotion prog_1_method_34_code 1 (some .boolean) : Cond) ∈ gw := gw_t (List.mem_of_getElem? (i := 523) (by decide +kernel)) (by decide +kernel)
theorem q_524 : (.methodLink "GameNotation" 141 y_gn_fromOf : Cond) ∈ gw := gw_t (List.mem_of_getElem? (i := 524) (by decide +kernel)) (by decide +kernel)
theorem q_525 : (.static y_gn_fromOf : Cond) ∈ gw := gw_t (List.mem_of_getElem? (i := 525) (by decide +kernel)) (by decide +kernel)
theorem q_526 : (.code y_gn_fromOf prog_1_method_35_code 1 (some .int) : Cond) ∈ gw := gw_t (List.mem_of_getElem? (i := 526) (by decide +kernel)) (by decide +kernel)
theorem q_527 : (.methodLink "GameNotation" 144 y_gn_toOf : Cond) ∈ gw := gw_t (List.mem_of_getElem? (i := 527) (by decide +kernel)) (by decide +kernel)
theorem q_528 : (.static y_gn_toOf : Cond) ∈ gw := gw_t (List.mem_of_getElem? (i := 528) (by decide +kernel)) (by decide +kernel)
theorem q_529 : (.code y_gn_toOf prog_1_method_36_code 1 (some .int) : Cond) ∈ gw := gw_t (List.mem_of_getElem? (i := 529) (by decide +kernel)) (by decide +kernel)
theorem q_530 : (.methodLink "GameNotation" 150 y_gn_kindOf : Cond) ∈ gw := gw_t (List.mem_of_getElem? (i := 530) (by decide +kernel)) (by decide +kernel)
theorem q_531 : (.methodLink "GameNotation" 153 y_td_take : Cond) ∈ gw := gw_t (List.mem_of_getElem? (i := 531) (by decide +kernel)) (by decide +kernel)
theorem q_532 : (.instanceMethod y_td_take : Cond) ∈ gw := gw_t (List.mem_of_getElem? (i := 532) (by decide +kernel)) (by decide +kernel)
theorem q_533 : (.selects "GameNotation$Told" y_td_take y_td_take : Cond) ∈ gw := gw_t (List.mem_of_getElem? (i := 533) (by decide +kernel)) (by decide +kernel)
theorem q_534 : (.code y_td_take prog_6_method_7_code 3 (some .boolean) : Cond) ∈ gw := gw_t (List.mem_of_getElem? (i := 534) (by decide +kernel)) (by decide +kernel)
theorem q_535 : (.methodLink "GameNotation$Told" 26 y_td_indexOf : Cond) ∈ gw := gw_t (List.mem_of_getElem? (i := 535) (by decide +kernel)) (by decide +kernel)
theorem q_536 : (.instanceMethod y_td_indexOf : Cond) ∈ gw := gw_t (List.mem_of_getElem? (i := 536) (by decide +kernel)) (by decide +kernel)
theorem q_537 : (.selects "GameNotation$Told" y_td_indexOf y_td_indexOf : Cond) ∈ gw := gw_t (List.mem_of_getElem? (i := 537) (by decide +kernel)) (by decide +kernel)
theorem q_538 : (.code y_td_indexOf prog_6_method_6_code 3 (some .int) : Cond) ∈ gw := gw_t (List.mem_of_getElem? (i := 538) (by decide +kernel)) (by decide +kernel)
theorem q_547 : (.methodLink "GameNotation" 173 y_fm_isOf : Cond) ∈ gw := gw_t (List.mem_of_getElem? (i := 547) (by decide +kernel)) (by decide +kernel)
theorem q_548 : (.instanceMethod y_fm_isOf : Cond) ∈ gw := gw_t (List.mem_of_getElem? (i := 548) (by decide +kernel)) (by decide +kernel)
theorem q_549 : (.selects "GameNotation$Form" y_fm_isOf y_fm_isOf : Cond) ∈ gw := gw_t (List.mem_of_getElem? (i := 549) (by decide +kernel)) (by decide +kernel)
theorem q_550 : (.code y_fm_isOf prog_2_method_4_code 2 (some .boolean) : Cond) ∈ gw := gw_t (List.mem_of_getElem? (i := 550) (by decide +kernel)) (by decide +kernel)
theorem q_552 : (.methodLink "GameNotation$Form" 20 y_ln_size : Cond) ∈ gw := gw_t (List.mem_of_getElem? (i := 552) (by decide +kernel)) (by decide +kernel)
theorem q_553 : (.methodLink "GameNotation$Form" 26 y_ln_letter : Cond) ∈ gw := gw_t (List.mem_of_getElem? (i := 553) (by decide +kernel)) (by decide +kernel)
theorem q_554 : (.methodLink "GameNotation$Form" 30 y_st_indexOf : Cond) ∈ gw := gw_t (List.mem_of_getElem? (i := 554) (by decide +kernel)) (by decide +kernel)
theorem q_555 : (.methodLink "GameNotation$Form" 36 y_fm_isCastling : Cond) ∈ gw := gw_t (List.mem_of_getElem? (i := 555) (by decide +kernel)) (by decide +kernel)
theorem q_557 : (.instanceMethod y_fm_isCastling : Cond) ∈ gw := gw_t (List.mem_of_getElem? (i := 557) (by decide +kernel)) (by decide +kernel)
theorem q_558 : (.code y_fm_isCastling prog_2_method_6_code 2 (some .boolean) : Cond) ∈ gw := gw_t (List.mem_of_getElem? (i := 558) (by decide +kernel)) (by decide +kernel)
theorem q_560 : (.methodLink "GameNotation$Form" 81 y_ln_beginsWithWord : Cond) ∈ gw := gw_t (List.mem_of_getElem? (i := 560) (by decide +kernel)) (by decide +kernel)
theorem q_561 : (.instanceMethod y_ln_beginsWithWord : Cond) ∈ gw := gw_t (List.mem_of_getElem? (i := 561) (by decide +kernel)) (by decide +kernel)
theorem q_562 : (.selects "GameNotation$Line" y_ln_beginsWithWord y_ln_beginsWithWord : Cond) ∈ gw := gw_t (List.mem_of_getElem? (i := 562) (by decide +kernel)) (by decide +kernel)
theorem q_563 : (.code y_ln_beginsWithWord prog_3_method_10_code 4 (some .boolean) : Cond) ∈ gw := gw_t (List.mem_of_getElem? (i := 563) (by decide +kernel)) (by decide +kernel)
theorem q_564 : (.methodLink "GameNotation$Line" 19 y_st_length : Cond) ∈ gw := gw_t (List.mem_of_getElem? (i := 564) (by decide +kernel)) (by decide +kernel)
theorem q_565 : (.methodLink "GameNotation$Line" 48 y_ln_letter : Cond) ∈ gw := gw_t (List.mem_of_getElem? (i := 565) (by decide +kernel)) (by decide +kernel)
theorem q_566 : (.methodLink "GameNotation$Line" 25 y_st_charAt : Cond) ∈ gw := gw_t (List.mem_of_getElem? (i := 566) (by decide +kernel)) (by decide +kernel)
theorem q_568 : (.methodLink "GameNotation$Form" 40 y_fm_isManMove : Cond) ∈ gw := gw_t (List.mem_of_getElem? (i := 568) (by decide +kernel)) (by decide +kernel)
theorem q_570 : (.instanceMethod y_fm_isManMove : Cond) ∈ gw := gw_t (List.mem_of_getElem? (i := 570) (by decide +kernel)) (by decide +kernel)
theorem q_571 : (.code y_fm_isManMove prog_2_method_7_code 3 (some .boolean) : Cond) ∈ gw := gw_t (List.mem_of_getElem? (i := 571) (by decide +kernel)) (by decide +kernel)
theorem q_573 : (.methodLink "GameNotation$Form" 89 y_fm_squareIn : Cond) ∈ gw := gw_t (List.mem_of_getElem? (i := 573) (by decide +kernel)) (by decide +kernel)
theorem q_574 : (.static y_fm_squareIn : Cond) ∈ gw := gw_t (List.mem_of_getElem? (i := 574) (by decide +kernel)) (by decide +kernel)
theorem q_575 : (.code y_fm_squareIn prog_2_method_11_code 2 (some .int) : Cond) ∈ gw := gw_t (List.mem_of_getElem? (i := 575) (by decide +kernel)) (by decide +kernel)
theorem q_576 : (.methodLink "GameNotation$Form" 96 y_fm_fileIn : Cond) ∈ gw := gw_t (List.mem_of_getElem? (i := 576) (by decide +kernel)) (by decide +kernel)
theorem q_577 : (.static y_fm_fileIn : Cond) ∈ gw := gw_t (List.mem_of_getElem? (i := 577) (by decide +kernel)) (by decide +kernel)
theorem q_578 : (.code y_fm_fileIn prog_2_method_9_code 2 (some .int) : Cond) ∈ gw := gw_t (List.mem_of_getElem? (i := 578) (by decide +kernel)) (by decide +kernel)
theorem q_580 : (.methodLink "GameNotation$Form" 93 y_fm_rankIn : Cond) ∈ gw := gw_t (List.mem_of_getElem? (i := 580) (by decide +kernel)) (by decide +kernel)
theorem q_581 : (.static y_fm_rankIn : Cond) ∈ gw := gw_t (List.mem_of_getElem? (i := 581) (by decide +kernel)) (by decide +kernel)
theorem q_582 : (.code y_fm_rankIn prog_2_method_10_code 2 (some .int) : Cond) ∈ gw := gw_t (List.mem_of_getElem? (i := 582) (by decide +kernel)) (by decide +kernel)
theorem q_585 : (.methodLink "GameNotation$Form" 43 y_fm_isPawnMove : Cond) ∈ gw := gw_t (List.mem_of_getElem? (i := 585) (by decide +kernel)) (by decide +kernel)
theorem q_587 : (.instanceMethod y_fm_isPawnMove : Cond) ∈ gw := gw_t (List.mem_of_getElem? (i := 587) (by decide +kernel)) (by decide +kernel)
theorem q_588 : (.code y_fm_isPawnMove prog_2_method_8_code 4 (some .boolean) : Cond) ∈ gw := gw_t (List.mem_of_getElem? (i := 588) (by decide +kernel)) (by decide +kernel)
theorem q_590 : (.methodLink "GameNotation" 177 y_td_count : Cond) ∈ gw := gw_t (List.mem_of_getElem? (i := 590) (by decide +kernel)) (by decide +kernel)
theorem q_591 : (.instanceMethod y_td_count : Cond) ∈ gw := gw_t (List.mem_of_getElem? (i := 591) (by decide +kernel)) (by decide +kernel)
theorem q_592 : (.selects "GameNotation$Told" y_td_count y_td_count : Cond) ∈ gw := gw_t (List.mem_of_getElem? (i := 592) (by decide +kernel)) (by decide +kernel)
theorem q_593 : (.code y_td_count prog_6_method_2_code 1 (some .int) : Cond) ∈ gw := gw_t (List.mem_of_getElem? (i := 593) (by decide +kernel)) (by decide +kernel)
theorem q_594 : (.methodLink "GameNotation" 180 y_gn_closeness : Cond) ∈ gw := gw_t (List.mem_of_getElem? (i := 594) (by decide +kernel)) (by decide +kernel)
theorem q_596 : (.instanceMethod y_gn_closeness : Cond) ∈ gw := gw_t (List.mem_of_getElem? (i := 596) (by decide +kernel)) (by decide +kernel)
theorem q_597 : (.code y_gn_closeness prog_1_method_21_code 2 (some .int) : Cond) ∈ gw := gw_t (List.mem_of_getElem? (i := 597) (by decide +kernel)) (by decide +kernel)
theorem q_598 : (.methodLink "GameNotation" 183 y_td_move : Cond) ∈ gw := gw_t (List.mem_of_getElem? (i := 598) (by decide +kernel)) (by decide +kernel)
theorem q_599 : (.instanceMethod y_td_move : Cond) ∈ gw := gw_t (List.mem_of_getElem? (i := 599) (by decide +kernel)) (by decide +kernel)
theorem q_600 : (.selects "GameNotation$Told" y_td_move y_td_move : Cond) ∈ gw := gw_t (List.mem_of_getElem? (i := 600) (by decide +kernel)) (by decide +kernel)
theorem q_601 : (.code y_td_move prog_6_method_4_code 2 (some .int) : Cond) ∈ gw := gw_t (List.mem_of_getElem? (i := 601) (by decide +kernel)) (by decide +kernel)
theorem q_602 : (.methodLink "GameNotation$Told" 22 y_td_has : Cond) ∈ gw := gw_t (List.mem_of_getElem? (i := 602) (by decide +kernel)) (by decide +kernel)
theorem q_604 : (.instanceMethod y_td_has : Cond) ∈ gw := gw_t (List.mem_of_getElem? (i := 604) (by decide +kernel)) (by decide +kernel)
theorem q_605 : (.code y_td_has prog_6_method_9_code 2 (some .boolean) : Cond) ∈ gw := gw_t (List.mem_of_getElem? (i := 605) (by decide +kernel)) (by decide +kernel)
theorem q_606 : (.methodLink "GameNotation" 218 y_fm_fits : Cond) ∈ gw := gw_t (List.mem_of_getElem? (i := 606) (by decide +kernel)) (by decide +kernel)
theorem q_607 : (.instanceMethod y_fm_fits : Cond) ∈ gw := gw_t (List.mem_of_getElem? (i := 607) (by decide +kernel)) (by decide +kernel)
theorem q_608 : (.selects "GameNotation$Form" y_fm_fits y_fm_fits : Cond) ∈ gw := gw_t (List.mem_of_getElem? (i := 608) (by decide +kernel)) (by decide +kernel)
theorem q_609 : (.code y_fm_fits prog_2_method_5_code 4 (some .boolean) : Cond) ∈ gw := gw_t (List.mem_of_getElem? (i := 609) (by decide +kernel)) (by decide +kernel)
theorem q_611 : (.static y_gn_castlingOf : Cond) ∈ gw := gw_t (List.mem_of_getElem? (i := 611) (by decide +kernel)) (by decide +kernel)
theorem q_612 : (.code y_gn_castlingOf prog_1_method_38_code 3 (some .int) : Cond) ∈ gw := gw_t (List.mem_of_getElem? (i := 612) (by decide +kernel)) (by decide +kernel)
theorem q_613 : (.methodLink "GameNotation" 237 y_gn_fileOf : Cond) ∈ gw := gw_t (List.mem_of_getElem? (i := 613) (by decide +kernel)) (by decide +kernel)
theorem q_615 : (.methodLink "GameNotation$Form" 56 y_ps_manOn : Cond) ∈ gw := gw_t (List.mem_of_getElem? (i := 615) (by decide +kernel)) (by decide +kernel)
theorem q_619 : (.methodLink "GameNotation" 164 y_td_addUnsigned : Cond) ∈ gw := gw_t (List.mem_of_getElem? (i := 619) (by decide +kernel)) (by decide +kernel)
theorem q_620 : (.instanceMethod y_td_addUnsigned : Cond) ∈ gw := gw_t (List.mem_of_getElem? (i := 620) (by decide +kernel)) (by decide +kernel)
theorem q_621 : (.selects "GameNotation$Told" y_td_addUnsigned y_td_addUnsigned : Cond) ∈ gw := gw_t (List.mem_of_getElem? (i := 621) (by decide +kernel)) (by decide +kernel)
theorem q_622 : (.code y_td_addUnsigned prog_6_method_8_code 6 none : Cond) ∈ gw := gw_t (List.mem_of_getElem? (i := 622) (by decide +kernel)) (by decide +kernel)
theorem q_623 : (.methodLink "GameNotation$Told" 30 y_td_move : Cond) ∈ gw := gw_t (List.mem_of_getElem? (i := 623) (by decide +kernel)) (by decide +kernel)
theorem q_627 : (.methodLink "GameNotation$Told" 41 y_ln_addAll : Cond) ∈ gw := gw_t (List.mem_of_getElem? (i := 627) (by decide +kernel)) (by decide +kernel)
theorem q_628 : (.instanceMethod y_ln_addAll : Cond) ∈ gw := gw_t (List.mem_of_getElem? (i := 628) (by decide +kernel)) (by decide +kernel)
theorem q_629 : (.selects "GameNotation$Line" y_ln_addAll y_ln_addAll : Cond) ∈ gw := gw_t (List.mem_of_getElem? (i := 629) (by decide +kernel)) (by decide +kernel)
theorem q_630 : (.code y_ln_addAll prog_3_method_6_code 3 none : Cond) ∈ gw := gw_t (List.mem_of_getElem? (i := 630) (by decide +kernel)) (by decide +kernel)
theorem q_632 : (.methodLink "GameNotation$Told" 50 y_ps_manOn : Cond) ∈ gw := gw_t (List.mem_of_getElem? (i := 632) (by decide +kernel)) (by decide +kernel)
theorem q_634 : (.methodLink "GameNotation$Told" 58 y_td_addPawnMove : Cond) ∈ gw := gw_t (List.mem_of_getElem? (i := 634) (by decide +kernel)) (by decide +kernel)
theorem q_635 : (.static y_td_addPawnMove : Cond) ∈ gw := gw_t (List.mem_of_getElem? (i := 635) (by decide +kernel)) (by decide +kernel)
theorem q_636 : (.code y_td_addPawnMove prog_6_method_10_code 3 none : Cond) ∈ gw := gw_t (List.mem_of_getElem? (i := 636) (by decide +kernel)) (by decide +kernel)
theorem q_641 : (.methodLink "GameNotation$Told" 78 y_ln_add : Cond) ∈ gw := gw_t (List.mem_of_getElem? (i := 641) (by decide +kernel)) (by decide +kernel)
theorem q_642 : (.methodLink "GameNotation$Told" 82 y_ln_addSquare : Cond) ∈ gw := gw_t (List.mem_of_getElem? (i := 642) (by decide +kernel)) (by decide +kernel)
theorem q_643 : (.instanceMethod y_ln_addSquare : Cond) ∈ gw := gw_t (List.mem_of_getElem? (i := 643) (by decide +kernel)) (by decide +kernel)
theorem q_644 : (.selects "GameNotation$Line" y_ln_addSquare y_ln_addSquare : Cond) ∈ gw := gw_t (List.mem_of_getElem? (i := 644) (by decide +kernel)) (by decide +kernel)
theorem q_645 : (.code y_ln_addSquare prog_3_method_8_code 2 none : Cond) ∈ gw := gw_t (List.mem_of_getElem? (i := 645) (by decide +kernel)) (by decide +kernel)
theorem q_653 : (.methodLink "GameNotation$Told" 62 y_td_addManMove : Cond) ∈ gw := gw_t (List.mem_of_getElem? (i := 653) (by decide +kernel)) (by decide +kernel)
theorem q_655 : (.instanceMethod y_td_addManMove : Cond) ∈ gw := gw_t (List.mem_of_getElem? (i := 655) (by decide +kernel)) (by decide +kernel)
theorem q_656 : (.code y_td_addManMove prog_6_method_11_code 4 none : Cond) ∈ gw := gw_t (List.mem_of_getElem? (i := 656) (by decide +kernel)) (by decide +kernel)
theorem q_657 : (.methodLink "GameNotation$Told" 91 y_td_addOrigin : Cond) ∈ gw := gw_t (List.mem_of_getElem? (i := 657) (by decide +kernel)) (by decide +kernel)
theorem q_659 : (.instanceMethod y_td_addOrigin : Cond) ∈ gw := gw_t (List.mem_of_getElem? (i := 659) (by decide +kernel)) (by decide +kernel)
theorem q_660 : (.code y_td_addOrigin prog_6_method_12_code 10 none : Cond) ∈ gw := gw_t (List.mem_of_getElem? (i := 660) (by decide +kernel)) (by decide +kernel)
theorem q_661 : (.methodLink "GameNotation$Told" 94 y_td_isRival : Cond) ∈ gw := gw_t (List.mem_of_getElem? (i := 661) (by decide +kernel)) (by decide +kernel)
theorem q_662 : (.static y_td_isRival : Cond) ∈ gw := gw_t (List.mem_of_getElem? (i := 662) (by decide +kernel)) (by decide +kernel)
theorem q_663 : (.code y_td_isRival prog_6_method_13_code 3 (some .boolean) : Cond) ∈ gw := gw_t (List.mem_of_getElem? (i := 663) (by decide +kernel)) (by decide +kernel)
theorem q_666 : (.methodLink "GameNotation" 222 y_fm_unsignedSize : Cond) ∈ gw := gw_t (List.mem_of_getElem? (i := 666) (by decide +kernel)) (by decide +kernel)
theorem q_667 : (.instanceMethod y_fm_unsignedSize : Cond) ∈ gw := gw_t (List.mem_of_getElem? (i := 667) (by decide +kernel)) (by decide +kernel)
theorem q_668 : (.selects "GameNotation$Form" y_fm_unsignedSize y_fm_unsignedSize : Cond) ∈ gw := gw_t (List.mem_of_getElem? (i := 668) (by decide +kernel)) (by decide +kernel)
theorem q_669 : (.code y_fm_unsignedSize prog_2_method_2_code 1 (some .int) : Cond) ∈ gw := gw_t (List.mem_of_getElem? (i := 669) (by decide +kernel)) (by decide +kernel)
theorem q_670 : (.methodLink "GameNotation" 225 y_ln_beginsWith : Cond) ∈ gw := gw_t (List.mem_of_getElem? (i := 670) (by decide +kernel)) (by decide +kernel)
theorem q_671 : (.instanceMethod y_ln_beginsWith : Cond) ∈ gw := gw_t (List.mem_of_getElem? (i := 671) (by decide +kernel)) (by decide +kernel)
theorem q_672 : (.selects "GameNotation$Line" y_ln_beginsWith y_ln_beginsWith : Cond) ∈ gw := gw_t (List.mem_of_getElem? (i := 672) (by decide +kernel)) (by decide +kernel)
theorem q_673 : (.code y_ln_beginsWith prog_3_method_9_code 4 (some .boolean) : Cond) ∈ gw := gw_t (List.mem_of_getElem? (i := 673) (by decide +kernel)) (by decide +kernel)
theorem q_674 : (.methodLink "GameNotation" 168 y_td_sign : Cond) ∈ gw := gw_t (List.mem_of_getElem? (i := 674) (by decide +kernel)) (by decide +kernel)
theorem q_675 : (.instanceMethod y_td_sign : Cond) ∈ gw := gw_t (List.mem_of_getElem? (i := 675) (by decide +kernel)) (by decide +kernel)
theorem q_676 : (.selects "GameNotation$Told" y_td_sign y_td_sign : Cond) ∈ gw := gw_t (List.mem_of_getElem? (i := 676) (by decide +kernel)) (by decide +kernel)
theorem q_677 : (.code y_td_sign prog_6_method_5_code 2 (some .int) : Cond) ∈ gw := gw_t (List.mem_of_getElem? (i := 677) (by decide +kernel)) (by decide +kernel)
theorem q_678 : (.methodLink "GameNotation" 229 y_fm_sign : Cond) ∈ gw := gw_t (List.mem_of_getElem? (i := 678) (by decide +kernel)) (by decide +kernel)
theorem q_679 : (.instanceMethod y_fm_sign : Cond) ∈ gw := gw_t (List.mem_of_getElem? (i := 679) (by decide +kernel)) (by decide +kernel)
theorem q_680 : (.selects "GameNotation$Form" y_fm_sign y_fm_sign : Cond) ∈ gw := gw_t (List.mem_of_getElem? (i := 680) (by decide +kernel)) (by decide +kernel)
theorem q_681 : (.code y_fm_sign prog_2_method_3_code 1 (some .int) : Cond) ∈ gw := gw_t (List.mem_of_getElem? (i := 681) (by decide +kernel)) (by decide +kernel)
theorem q_682 : (.methodLink "GameNotation" 186 y_mt_min : Cond) ∈ gw := gw_t (List.mem_of_getElem? (i := 682) (by decide +kernel)) (by decide +kernel)
theorem q_1085 : (.fieldLink "java/lang/String" 15 "java/lang/String" "coder" "B" : Cond) ∈ gw := gw_t (List.mem_of_getElem? (i := 1085) (by decide +kernel)) (by decide +kernel)
theorem q_1086 : (.fieldLink "java/lang/String" 9 "java/lang/String" "value" "[B" : Cond) ∈ gw := gw_t (List.mem_of_getElem? (i := 1086) (by decide +kernel)) (by decide +kernel)
theorem qs_0 : (.selects "GameNotation$RecordReader" y_rd_readRanks y_rd_readRanks : Cond) ∈ gw := gw_s (List.mem_of_getElem? (i := 0) (by decide +kernel)) (by decide +kernel)
theorem qs_1 : (.selects "GameNotation$RecordReader" y_rd_readRank y_rd_readRank : Cond) ∈ gw := gw_s (List.mem_of_getElem? (i := 1) (by decide +kernel)) (by decide +kernel)
theorem qs_2 : (.selects "GameNotation$RecordReader" y_rd_passes y_rd_passes : Cond) ∈ gw := gw_s (List.mem_of_getElem? (i := 2) (by decide +kernel)) (by decide +kernel)
theorem qs_3 : (.selects "GameNotation$RecordReader" y_rd_readSide y_rd_readSide : Cond) ∈ gw := gw_s (List.mem_of_getElem? (i := 3) (by decide +kernel)) (by decide +kernel)
theorem qs_4 : (.selects "GameNotation$RecordReader" y_rd_readRights y_rd_readRights : Cond) ∈ gw := gw_s (List.mem_of_getElem? (i := 4) (by decide +kernel)) (by decide +kernel)
theorem qs_5 : (.selects "GameNotation$RecordReader" y_rd_readPassant y_rd_readPassant : Cond) ∈ gw := gw_s (List.mem_of_getElem? (i := 5) (by decide +kernel)) (by decide +kernel)
theorem qs_6 : (.selects "GameNotation$RecordReader" y_rd_readNumber y_rd_readNumber : Cond) ∈ gw := gw_s (List.mem_of_getElem? (i := 6) (by decide +kernel)) (by decide +kernel)
theorem qs_7 : (.selects "GameNotation$Position" y_ps_count y_ps_count : Cond) ∈ gw := gw_s (List.mem_of_getElem? (i := 7) (by decide +kernel)) (by decide +kernel)
theorem qs_8 : (.selects "GameNotation$Position" y_ps_hasMisplacedPawn y_ps_hasMisplacedPawn : Cond) ∈ gw := gw_s (List.mem_of_getElem? (i := 8) (by decide +kernel)) (by decide +kernel)
theorem qs_9 : (.selects "GameNotation$Position" y_ps_hasTooMany y_ps_hasTooMany : Cond) ∈ gw := gw_s (List.mem_of_getElem? (i := 9) (by decide +kernel)) (by decide +kernel)
theorem qs_10 : (.selects "GameNotation$Position" y_ps_extra y_ps_extra : Cond) ∈ gw := gw_s (List.mem_of_getElem? (i := 10) (by decide +kernel)) (by decide +kernel)
theorem qs_11 : (.selects "GameNotation$Position" y_ps_rightsHold y_ps_rightsHold : Cond) ∈ gw := gw_s (List.mem_of_getElem? (i := 11) (by decide +kernel)) (by decide +kernel)
theorem qs_12 : (.selects "GameNotation$Position" y_ps_rightHolds y_ps_rightHolds : Cond) ∈ gw := gw_s (List.mem_of_getElem? (i := 12) (by decide +kernel)) (by decide +kernel)
theorem qs_13 : (.selects "GameNotation$Position" y_ps_passantHolds y_ps_passantHolds : Cond) ∈ gw := gw_s (List.mem_of_getElem? (i := 13) (by decide +kernel)) (by decide +kernel)
theorem qs_14 : (.selects "GameNotation$Position" y_ps_kingSquare y_ps_kingSquare : Cond) ∈ gw := gw_s (List.mem_of_getElem? (i := 14) (by decide +kernel)) (by decide +kernel)
theorem qs_15 : (.selects "GameNotation$Position" y_ps_isNear y_ps_isNear : Cond) ∈ gw := gw_s (List.mem_of_getElem? (i := 15) (by decide +kernel)) (by decide +kernel)
theorem qs_16 : (.selects "GameNotation$Position" y_ps_isAttackedByPawn y_ps_isAttackedByPawn : Cond) ∈ gw := gw_s (List.mem_of_getElem? (i := 16) (by decide +kernel)) (by decide +kernel)
theorem qs_17 : (.selects "GameNotation$Position" y_ps_isInLine y_ps_isInLine : Cond) ∈ gw := gw_s (List.mem_of_getElem? (i := 17) (by decide +kernel)) (by decide +kernel)
theorem qs_18 : (.selects "GameNotation$Position" y_ps_firstInLine y_ps_firstInLine : Cond) ∈ gw := gw_s (List.mem_of_getElem? (i := 18) (by decide +kernel)) (by decide +kernel)
theorem qs_19 : (.selects "GameNotation" y_gn_addRanks y_gn_addRanks : Cond) ∈ gw := gw_s (List.mem_of_getElem? (i := 19) (by decide +kernel)) (by decide +kernel)
theorem qs_20 : (.selects "GameNotation" y_gn_addRank y_gn_addRank : Cond) ∈ gw := gw_s (List.mem_of_getElem? (i := 20) (by decide +kernel)) (by decide +kernel)
theorem qs_21 : (.selects "GameNotation" y_gn_addEmpty y_gn_addEmpty : Cond) ∈ gw := gw_s (List.mem_of_getElem? (i := 21) (by decide +kernel)) (by decide +kernel)
theorem qs_22 : (.selects "GameNotation" y_gn_addRights y_gn_addRights : Cond) ∈ gw := gw_s (List.mem_of_getElem? (i := 22) (by decide +kernel)) (by decide +kernel)
theorem qs_23 : (.selects "GameNotation" y_gn_addPassant y_gn_addPassant : Cond) ∈ gw := gw_s (List.mem_of_getElem? (i := 23) (by decide +kernel)) (by decide +kernel)
theorem qs_24 : (.selects "GameNotation$Form" y_fm_isCastling y_fm_isCastling : Cond) ∈ gw := gw_s (List.mem_of_getElem? (i := 24) (by decide +kernel)) (by decide +kernel)
theorem qs_25 : (.selects "GameNotation$Form" y_fm_isManMove y_fm_isManMove : Cond) ∈ gw := gw_s (List.mem_of_getElem? (i := 25) (by decide +kernel)) (by decide +kernel)
theorem qs_26 : (.selects "GameNotation$Form" y_fm_isPawnMove y_fm_isPawnMove : Cond) ∈ gw := gw_s (List.mem_of_getElem? (i := 26) (by decide +kernel)) (by decide +kernel)
theorem qs_27 : (.selects "GameNotation" y_gn_closeness y_gn_closeness : Cond) ∈ gw := gw_s (List.mem_of_getElem? (i := 27) (by decide +kernel)) (by decide +kernel)
theorem qs_28 : (.selects "GameNotation$Told" y_td_has y_td_has : Cond) ∈ gw := gw_s (List.mem_of_getElem? (i := 28) (by decide +kernel)) (by decide +kernel)
theorem qs_29 : (.selects "GameNotation$Told" y_td_addManMove y_td_addManMove : Cond) ∈ gw := gw_s (List.mem_of_getElem? (i := 29) (by decide +kernel)) (by decide +kernel)
theorem qs_30 : (.selects "GameNotation$Told" y_td_addOrigin y_td_addOrigin : Cond) ∈ gw := gw_s (List.mem_of_getElem? (i := 30) (by decide +kernel)) (by decide +kernel)
theorem k_gn_byteOf : y_gn_byteOf.cls ≠ "java/lang/invoke/MethodHandle" ∧ y_gn_byteOf.cls ≠ "java/lang/invoke/VarHandle" ∧ (parseMethodDescriptor y_gn_byteOf.desc).map (fun d => d.parameters.length) = some 2 := by decide +kernel
theorem k_gn_isSquare : y_gn_isSquare.cls ≠ "java/lang/invoke/MethodHandle" ∧ y_gn_isSquare.cls ≠ "java/lang/invoke/VarHandle" ∧ (parseMethodDescriptor y_gn_isSquare.desc).map (fun d => d.parameters.length) = some 1 := by decide +kernel
theorem k_gn_isSide : y_gn_isSide.cls ≠ "java/lang/invoke/MethodHandle" ∧ y_gn_isSide.cls ≠ "java/lang/invoke/VarHandle" ∧ (parseMethodDescriptor y_gn_isSide.desc).map (fun d => d.parameters.length) = some 1 := by decide +kernel
theorem k_gn_fileOf : y_gn_fileOf.cls ≠ "java/lang/invoke/MethodHandle" ∧ y_gn_fileOf.cls ≠ "java/lang/invoke/VarHandle" ∧ (parseMethodDescriptor y_gn_fileOf.desc).map (fun d => d.parameters.length) = some 1 := by decide +kernel
theorem k_gn_rankOf : y_gn_rankOf.cls ≠ "java/lang/invoke/MethodHandle" ∧ y_gn_rankOf.cls ≠ "java/lang/invoke/VarHandle" ∧ (parseMethodDescriptor y_gn_rankOf.desc).map (fun d => d.parameters.length) = some 1 := by decide +kernel
theorem k_gn_squareOf : y_gn_squareOf.cls ≠ "java/lang/invoke/MethodHandle" ∧ y_gn_squareOf.cls ≠ "java/lang/invoke/VarHandle" ∧ (parseMethodDescriptor y_gn_squareOf.desc).map (fun d => d.parameters.length) = some 2 := by decide +kernel
theorem k_gn_manOf : y_gn_manOf.cls ≠ "java/lang/invoke/MethodHandle" ∧ y_gn_manOf.cls ≠ "java/lang/invoke/VarHandle" ∧ (parseMethodDescriptor y_gn_manOf.desc).map (fun d => d.parameters.length) = some 2 := by decide +kernel
theorem k_gn_kindOf : y_gn_kindOf.cls ≠ "java/lang/invoke/MethodHandle" ∧ y_gn_kindOf.cls ≠ "java/lang/invoke/VarHandle" ∧ (parseMethodDescriptor y_gn_kindOf.desc).map (fun d => d.parameters.length) = some 1 := by decide +kernel
theorem k_gn_ownRank : y_gn_ownRank.cls ≠ "java/lang/invoke/MethodHandle" ∧ y_gn_ownRank.cls ≠ "java/lang/invoke/VarHandle" ∧ (parseMethodDescriptor y_gn_ownRank.desc).map (fun d => d.parameters.length) = some 2 := by decide +kernel
theorem k_gn_passantRank : y_gn_passantRank.cls ≠ "java/lang/invoke/MethodHandle" ∧ y_gn_passantRank.cls ≠ "java/lang/invoke/VarHandle" ∧ (parseMethodDescriptor y_gn_passantRank.desc).map (fun d => d.parameters.length) = some 1 := by decide +kernel
theorem k_gn_becomesOf : y_gn_becomesOf.cls ≠ "java/lang/invoke/MethodHandle" ∧ y_gn_becomesOf.cls ≠ "java/lang/invoke/VarHandle" ∧ (parseMethodDescriptor y_gn_becomesOf.desc).map (fun d => d.parameters.length) = some 1 := by decide +kernel
theorem k_gn_isPromotion : y_gn_isPromotion.cls ≠ "java/lang/invoke/MethodHandle" ∧ y_gn_isPromotion.cls ≠ "java/lang/invoke/VarHandle" ∧ (parseMethodDescriptor y_gn_isPromotion.desc).map (fun d => d.parameters.length) = some 1 := by decide +kernel
theorem k_gn_isMove : y_gn_isMove.cls ≠ "java/lang/invoke/MethodHandle" ∧ y_gn_isMove.cls ≠ "java/lang/invoke/VarHandle" ∧ (parseMethodDescriptor y_gn_isMove.desc).map (fun d => d.parameters.length) = some 1 := by decide +kernel
theorem k_gn_fromOf : y_gn_fromOf.cls ≠ "java/lang/invoke/MethodHandle" ∧ y_gn_fromOf.cls ≠ "java/lang/invoke/VarHandle" ∧ (parseMethodDescriptor y_gn_fromOf.desc).map (fun d => d.parameters.length) = some 1 := by decide +kernel
theorem k_gn_toOf : y_gn_toOf.cls ≠ "java/lang/invoke/MethodHandle" ∧ y_gn_toOf.cls ≠ "java/lang/invoke/VarHandle" ∧ (parseMethodDescriptor y_gn_toOf.desc).map (fun d => d.parameters.length) = some 1 := by decide +kernel
theorem k_rd_isDigit : y_rd_isDigit.cls ≠ "java/lang/invoke/MethodHandle" ∧ y_rd_isDigit.cls ≠ "java/lang/invoke/VarHandle" ∧ (parseMethodDescriptor y_rd_isDigit.desc).map (fun d => d.parameters.length) = some 1 := by decide +kernel
theorem k_st_isLatin1 : y_st_isLatin1.cls ≠ "java/lang/invoke/MethodHandle" ∧ y_st_isLatin1.cls ≠ "java/lang/invoke/VarHandle" ∧ (parseMethodDescriptor y_st_isLatin1.desc).map (fun d => d.parameters.length) = some 0 := by decide +kernel
theorem k_st_coder : y_st_coder.cls ≠ "java/lang/invoke/MethodHandle" ∧ y_st_coder.cls ≠ "java/lang/invoke/VarHandle" ∧ (parseMethodDescriptor y_st_coder.desc).map (fun d => d.parameters.length) = some 0 := by decide +kernel
theorem k_st_length : y_st_length.cls ≠ "java/lang/invoke/MethodHandle" ∧ y_st_length.cls ≠ "java/lang/invoke/VarHandle" ∧ (parseMethodDescriptor y_st_length.desc).map (fun d => d.parameters.length) = some 0 := by decide +kernel
theorem k_sl_canEncode : y_sl_canEncode.cls ≠ "java/lang/invoke/MethodHandle" ∧ y_sl_canEncode.cls ≠ "java/lang/invoke/VarHandle" ∧ (parseMethodDescriptor y_sl_canEncode.desc).map (fun d => d.parameters.length) = some 1 := by decide +kernel
theorem k_sl_indexOfChar : y_sl_indexOfChar.cls ≠ "java/lang/invoke/MethodHandle" ∧ y_sl_indexOfChar.cls ≠ "java/lang/invoke/VarHandle" ∧ (parseMethodDescriptor y_sl_indexOfChar.desc).map (fun d => d.parameters.length) = some 4 := by decide +kernel
theorem k_sl_indexOf : y_sl_indexOf.cls ≠ "java/lang/invoke/MethodHandle" ∧ y_sl_indexOf.cls ≠ "java/lang/invoke/VarHandle" ∧ (parseMethodDescriptor y_sl_indexOf.desc).map (fun d => d.parameters.length) = some 4 := by decide +kernel
theorem k_st_indexOf2 : y_st_indexOf2.cls ≠ "java/lang/invoke/MethodHandle" ∧ y_st_indexOf2.cls ≠ "java/lang/invoke/VarHandle" ∧ (parseMethodDescriptor y_st_indexOf2.desc).map (fun d => d.parameters.length) = some 2 := by decide +kernel
theorem k_st_indexOf : y_st_indexOf.cls ≠ "java/lang/invoke/MethodHandle" ∧ y_st_indexOf.cls ≠ "java/lang/invoke/VarHandle" ∧ (parseMethodDescriptor y_st_indexOf.desc).map (fun d => d.parameters.length) = some 1 := by decide +kernel
theorem k_pc_checkIndex : y_pc_checkIndex.cls ≠ "java/lang/invoke/MethodHandle" ∧ y_pc_checkIndex.cls ≠ "java/lang/invoke/VarHandle" ∧ (parseMethodDescriptor y_pc_checkIndex.desc).map (fun d => d.parameters.length) = some 3 := by decide +kernel
theorem k_st_checkIndex : y_st_checkIndex.cls ≠ "java/lang/invoke/MethodHandle" ∧ y_st_checkIndex.cls ≠ "java/lang/invoke/VarHandle" ∧ (parseMethodDescriptor y_st_checkIndex.desc).map (fun d => d.parameters.length) = some 2 := by decide +kernel
theorem k_sl_charAt : y_sl_charAt.cls ≠ "java/lang/invoke/MethodHandle" ∧ y_sl_charAt.cls ≠ "java/lang/invoke/VarHandle" ∧ (parseMethodDescriptor y_sl_charAt.desc).map (fun d => d.parameters.length) = some 2 := by decide +kernel
theorem k_st_charAt : y_st_charAt.cls ≠ "java/lang/invoke/MethodHandle" ∧ y_st_charAt.cls ≠ "java/lang/invoke/VarHandle" ∧ (parseMethodDescriptor y_st_charAt.desc).map (fun d => d.parameters.length) = some 1 := by decide +kernel
theorem k_gn_pick : y_gn_pick.cls ≠ "java/lang/invoke/MethodHandle" ∧ y_gn_pick.cls ≠ "java/lang/invoke/VarHandle" ∧ (parseMethodDescriptor y_gn_pick.desc).map (fun d => d.parameters.length) = some 2 := by decide +kernel
theorem k_ln_size : y_ln_size.cls ≠ "java/lang/invoke/MethodHandle" ∧ y_ln_size.cls ≠ "java/lang/invoke/VarHandle" ∧ (parseMethodDescriptor y_ln_size.desc).map (fun d => d.parameters.length) = some 0 := by decide +kernel
theorem k_ln_clear : y_ln_clear.cls ≠ "java/lang/invoke/MethodHandle" ∧ y_ln_clear.cls ≠ "java/lang/invoke/VarHandle" ∧ (parseMethodDescriptor y_ln_clear.desc).map (fun d => d.parameters.length) = some 0 := by decide +kernel
theorem k_ln_letter : y_ln_letter.cls ≠ "java/lang/invoke/MethodHandle" ∧ y_ln_letter.cls ≠ "java/lang/invoke/VarHandle" ∧ (parseMethodDescriptor y_ln_letter.desc).map (fun d => d.parameters.length) = some 1 := by decide +kernel
theorem k_ln_add : y_ln_add.cls ≠ "java/lang/invoke/MethodHandle" ∧ y_ln_add.cls ≠ "java/lang/invoke/VarHandle" ∧ (parseMethodDescriptor y_ln_add.desc).map (fun d => d.parameters.length) = some 1 := by decide +kernel
theorem k_ln_addAll : y_ln_addAll.cls ≠ "java/lang/invoke/MethodHandle" ∧ y_ln_addAll.cls ≠ "java/lang/invoke/VarHandle" ∧ (parseMethodDescriptor y_ln_addAll.desc).map (fun d => d.parameters.length) = some 1 := by decide +kernel
theorem k_ln_addNumber : y_ln_addNumber.cls ≠ "java/lang/invoke/MethodHandle" ∧ y_ln_addNumber.cls ≠ "java/lang/invoke/VarHandle" ∧ (parseMethodDescriptor y_ln_addNumber.desc).map (fun d => d.parameters.length) = some 1 := by decide +kernel
theorem k_ln_addSquare : y_ln_addSquare.cls ≠ "java/lang/invoke/MethodHandle" ∧ y_ln_addSquare.cls ≠ "java/lang/invoke/VarHandle" ∧ (parseMethodDescriptor y_ln_addSquare.desc).map (fun d => d.parameters.length) = some 1 := by decide +kernel
theorem k_ln_beginsWith : y_ln_beginsWith.cls ≠ "java/lang/invoke/MethodHandle" ∧ y_ln_beginsWith.cls ≠ "java/lang/invoke/VarHandle" ∧ (parseMethodDescriptor y_ln_beginsWith.desc).map (fun d => d.parameters.length) = some 2 := by decide +kernel
theorem k_ln_beginsWithWord : y_ln_beginsWithWord.cls ≠ "java/lang/invoke/MethodHandle" ∧ y_ln_beginsWithWord.cls ≠ "java/lang/invoke/VarHandle" ∧ (parseMethodDescriptor y_ln_beginsWithWord.desc).map (fun d => d.parameters.length) = some 2 := by decide +kernel
theorem k_ps_clearBoard : y_ps_clearBoard.cls ≠ "java/lang/invoke/MethodHandle" ∧ y_ps_clearBoard.cls ≠ "java/lang/invoke/VarHandle" ∧ (parseMethodDescriptor y_ps_clearBoard.desc).map (fun d => d.parameters.length) = some 0 := by decide +kernel
theorem k_ps_place : y_ps_place.cls ≠ "java/lang/invoke/MethodHandle" ∧ y_ps_place.cls ≠ "java/lang/invoke/VarHandle" ∧ (parseMethodDescriptor y_ps_place.desc).map (fun d => d.parameters.length) = some 2 := by decide +kernel
theorem k_ps_manOn : y_ps_manOn.cls ≠ "java/lang/invoke/MethodHandle" ∧ y_ps_manOn.cls ≠ "java/lang/invoke/VarHandle" ∧ (parseMethodDescriptor y_ps_manOn.desc).map (fun d => d.parameters.length) = some 1 := by decide +kernel
theorem k_ps_manAt : y_ps_manAt.cls ≠ "java/lang/invoke/MethodHandle" ∧ y_ps_manAt.cls ≠ "java/lang/invoke/VarHandle" ∧ (parseMethodDescriptor y_ps_manAt.desc).map (fun d => d.parameters.length) = some 2 := by decide +kernel
theorem k_ps_hasRight : y_ps_hasRight.cls ≠ "java/lang/invoke/MethodHandle" ∧ y_ps_hasRight.cls ≠ "java/lang/invoke/VarHandle" ∧ (parseMethodDescriptor y_ps_hasRight.desc).map (fun d => d.parameters.length) = some 1 := by decide +kernel
theorem k_ps_isNear : y_ps_isNear.cls ≠ "java/lang/invoke/MethodHandle" ∧ y_ps_isNear.cls ≠ "java/lang/invoke/VarHandle" ∧ (parseMethodDescriptor y_ps_isNear.desc).map (fun d => d.parameters.length) = some 4 := by decide +kernel
theorem k_ps_isAttackedByPawn : y_ps_isAttackedByPawn.cls ≠ "java/lang/invoke/MethodHandle" ∧ y_ps_isAttackedByPawn.cls ≠ "java/lang/invoke/VarHandle" ∧ (parseMethodDescriptor y_ps_isAttackedByPawn.desc).map (fun d => d.parameters.length) = some 2 := by decide +kernel
theorem k_ps_firstInLine : y_ps_firstInLine.cls ≠ "java/lang/invoke/MethodHandle" ∧ y_ps_firstInLine.cls ≠ "java/lang/invoke/VarHandle" ∧ (parseMethodDescriptor y_ps_firstInLine.desc).map (fun d => d.parameters.length) = some 3 := by decide +kernel
theorem k_ps_isInLine : y_ps_isInLine.cls ≠ "java/lang/invoke/MethodHandle" ∧ y_ps_isInLine.cls ≠ "java/lang/invoke/VarHandle" ∧ (parseMethodDescriptor y_ps_isInLine.desc).map (fun d => d.parameters.length) = some 5 := by decide +kernel
theorem k_ps_isAttacked : y_ps_isAttacked.cls ≠ "java/lang/invoke/MethodHandle" ∧ y_ps_isAttacked.cls ≠ "java/lang/invoke/VarHandle" ∧ (parseMethodDescriptor y_ps_isAttacked.desc).map (fun d => d.parameters.length) = some 2 := by decide +kernel
theorem k_ps_count : y_ps_count.cls ≠ "java/lang/invoke/MethodHandle" ∧ y_ps_count.cls ≠ "java/lang/invoke/VarHandle" ∧ (parseMethodDescriptor y_ps_count.desc).map (fun d => d.parameters.length) = some 1 := by decide +kernel
theorem k_ps_kingSquare : y_ps_kingSquare.cls ≠ "java/lang/invoke/MethodHandle" ∧ y_ps_kingSquare.cls ≠ "java/lang/invoke/VarHandle" ∧ (parseMethodDescriptor y_ps_kingSquare.desc).map (fun d => d.parameters.length) = some 1 := by decide +kernel
theorem k_ps_hasMisplacedPawn : y_ps_hasMisplacedPawn.cls ≠ "java/lang/invoke/MethodHandle" ∧ y_ps_hasMisplacedPawn.cls ≠ "java/lang/invoke/VarHandle" ∧ (parseMethodDescriptor y_ps_hasMisplacedPawn.desc).map (fun d => d.parameters.length) = some 0 := by decide +kernel
theorem k_ps_extra : y_ps_extra.cls ≠ "java/lang/invoke/MethodHandle" ∧ y_ps_extra.cls ≠ "java/lang/invoke/VarHandle" ∧ (parseMethodDescriptor y_ps_extra.desc).map (fun d => d.parameters.length) = some 3 := by decide +kernel
theorem k_ps_hasTooMany : y_ps_hasTooMany.cls ≠ "java/lang/invoke/MethodHandle" ∧ y_ps_hasTooMany.cls ≠ "java/lang/invoke/VarHandle" ∧ (parseMethodDescriptor y_ps_hasTooMany.desc).map (fun d => d.parameters.length) = some 1 := by decide +kernel
theorem k_ps_rightHolds : y_ps_rightHolds.cls ≠ "java/lang/invoke/MethodHandle" ∧ y_ps_rightHolds.cls ≠ "java/lang/invoke/VarHandle" ∧ (parseMethodDescriptor y_ps_rightHolds.desc).map (fun d => d.parameters.length) = some 1 := by decide +kernel
theorem k_ps_rightsHold : y_ps_rightsHold.cls ≠ "java/lang/invoke/MethodHandle" ∧ y_ps_rightsHold.cls ≠ "java/lang/invoke/VarHandle" ∧ (parseMethodDescriptor y_ps_rightsHold.desc).map (fun d => d.parameters.length) = some 0 := by decide +kernel
theorem k_ps_passantHolds : y_ps_passantHolds.cls ≠ "java/lang/invoke/MethodHandle" ∧ y_ps_passantHolds.cls ≠ "java/lang/invoke/VarHandle" ∧ (parseMethodDescriptor y_ps_passantHolds.desc).map (fun d => d.parameters.length) = some 0 := by decide +kernel
theorem k_ps_firstFault : y_ps_firstFault.cls ≠ "java/lang/invoke/MethodHandle" ∧ y_ps_firstFault.cls ≠ "java/lang/invoke/VarHandle" ∧ (parseMethodDescriptor y_ps_firstFault.desc).map (fun d => d.parameters.length) = some 0 := by decide +kernel
theorem k_gn_castlingOf : y_gn_castlingOf.cls ≠ "java/lang/invoke/MethodHandle" ∧ y_gn_castlingOf.cls ≠ "java/lang/invoke/VarHandle" ∧ (parseMethodDescriptor y_gn_castlingOf.desc).map (fun d => d.parameters.length) = some 2 := by decide +kernel
theorem k_rd_passes : y_rd_passes.cls ≠ "java/lang/invoke/MethodHandle" ∧ y_rd_passes.cls ≠ "java/lang/invoke/VarHandle" ∧ (parseMethodDescriptor y_rd_passes.desc).map (fun d => d.parameters.length) = some 2 := by decide +kernel
theorem k_rd_readNumber : y_rd_readNumber.cls ≠ "java/lang/invoke/MethodHandle" ∧ y_rd_readNumber.cls ≠ "java/lang/invoke/VarHandle" ∧ (parseMethodDescriptor y_rd_readNumber.desc).map (fun d => d.parameters.length) = some 2 := by decide +kernel
theorem k_rd_readSide : y_rd_readSide.cls ≠ "java/lang/invoke/MethodHandle" ∧ y_rd_readSide.cls ≠ "java/lang/invoke/VarHandle" ∧ (parseMethodDescriptor y_rd_readSide.desc).map (fun d => d.parameters.length) = some 2 := by decide +kernel
theorem k_rd_readRights : y_rd_readRights.cls ≠ "java/lang/invoke/MethodHandle" ∧ y_rd_readRights.cls ≠ "java/lang/invoke/VarHandle" ∧ (parseMethodDescriptor y_rd_readRights.desc).map (fun d => d.parameters.length) = some 2 := by decide +kernel
theorem k_rd_readPassant : y_rd_readPassant.cls ≠ "java/lang/invoke/MethodHandle" ∧ y_rd_readPassant.cls ≠ "java/lang/invoke/VarHandle" ∧ (parseMethodDescriptor y_rd_readPassant.desc).map (fun d => d.parameters.length) = some 2 := by decide +kernel
theorem k_rd_readRank : y_rd_readRank.cls ≠ "java/lang/invoke/MethodHandle" ∧ y_rd_readRank.cls ≠ "java/lang/invoke/VarHandle" ∧ (parseMethodDescriptor y_rd_readRank.desc).map (fun d => d.parameters.length) = some 3 := by decide +kernel
theorem k_rd_readRanks : y_rd_readRanks.cls ≠ "java/lang/invoke/MethodHandle" ∧ y_rd_readRanks.cls ≠ "java/lang/invoke/VarHandle" ∧ (parseMethodDescriptor y_rd_readRanks.desc).map (fun d => d.parameters.length) = some 2 := by decide +kernel
theorem k_rd_readInto : y_rd_readInto.cls ≠ "java/lang/invoke/MethodHandle" ∧ y_rd_readInto.cls ≠ "java/lang/invoke/VarHandle" ∧ (parseMethodDescriptor y_rd_readInto.desc).map (fun d => d.parameters.length) = some 2 := by decide +kernel
theorem k_td_count : y_td_count.cls ≠ "java/lang/invoke/MethodHandle" ∧ y_td_count.cls ≠ "java/lang/invoke/VarHandle" ∧ (parseMethodDescriptor y_td_count.desc).map (fun d => d.parameters.length) = some 0 := by decide +kernel
theorem k_td_clear : y_td_clear.cls ≠ "java/lang/invoke/MethodHandle" ∧ y_td_clear.cls ≠ "java/lang/invoke/VarHandle" ∧ (parseMethodDescriptor y_td_clear.desc).map (fun d => d.parameters.length) = some 0 := by decide +kernel
theorem k_td_has : y_td_has.cls ≠ "java/lang/invoke/MethodHandle" ∧ y_td_has.cls ≠ "java/lang/invoke/VarHandle" ∧ (parseMethodDescriptor y_td_has.desc).map (fun d => d.parameters.length) = some 1 := by decide +kernel
theorem k_td_move : y_td_move.cls ≠ "java/lang/invoke/MethodHandle" ∧ y_td_move.cls ≠ "java/lang/invoke/VarHandle" ∧ (parseMethodDescriptor y_td_move.desc).map (fun d => d.parameters.length) = some 1 := by decide +kernel
theorem k_td_sign : y_td_sign.cls ≠ "java/lang/invoke/MethodHandle" ∧ y_td_sign.cls ≠ "java/lang/invoke/VarHandle" ∧ (parseMethodDescriptor y_td_sign.desc).map (fun d => d.parameters.length) = some 1 := by decide +kernel
theorem k_td_indexOf : y_td_indexOf.cls ≠ "java/lang/invoke/MethodHandle" ∧ y_td_indexOf.cls ≠ "java/lang/invoke/VarHandle" ∧ (parseMethodDescriptor y_td_indexOf.desc).map (fun d => d.parameters.length) = some 1 := by decide +kernel
theorem k_td_take : y_td_take.cls ≠ "java/lang/invoke/MethodHandle" ∧ y_td_take.cls ≠ "java/lang/invoke/VarHandle" ∧ (parseMethodDescriptor y_td_take.desc).map (fun d => d.parameters.length) = some 2 := by decide +kernel
theorem k_td_isRival : y_td_isRival.cls ≠ "java/lang/invoke/MethodHandle" ∧ y_td_isRival.cls ≠ "java/lang/invoke/VarHandle" ∧ (parseMethodDescriptor y_td_isRival.desc).map (fun d => d.parameters.length) = some 3 := by decide +kernel
theorem k_td_addPawnMove : y_td_addPawnMove.cls ≠ "java/lang/invoke/MethodHandle" ∧ y_td_addPawnMove.cls ≠ "java/lang/invoke/VarHandle" ∧ (parseMethodDescriptor y_td_addPawnMove.desc).map (fun d => d.parameters.length) = some 2 := by decide +kernel
theorem k_td_addOrigin : y_td_addOrigin.cls ≠ "java/lang/invoke/MethodHandle" ∧ y_td_addOrigin.cls ≠ "java/lang/invoke/VarHandle" ∧ (parseMethodDescriptor y_td_addOrigin.desc).map (fun d => d.parameters.length) = some 3 := by decide +kernel
theorem k_td_addManMove : y_td_addManMove.cls ≠ "java/lang/invoke/MethodHandle" ∧ y_td_addManMove.cls ≠ "java/lang/invoke/VarHandle" ∧ (parseMethodDescriptor y_td_addManMove.desc).map (fun d => d.parameters.length) = some 3 := by decide +kernel
theorem k_td_addUnsigned : y_td_addUnsigned.cls ≠ "java/lang/invoke/MethodHandle" ∧ y_td_addUnsigned.cls ≠ "java/lang/invoke/VarHandle" ∧ (parseMethodDescriptor y_td_addUnsigned.desc).map (fun d => d.parameters.length) = some 3 := by decide +kernel
theorem k_fm_unsignedSize : y_fm_unsignedSize.cls ≠ "java/lang/invoke/MethodHandle" ∧ y_fm_unsignedSize.cls ≠ "java/lang/invoke/VarHandle" ∧ (parseMethodDescriptor y_fm_unsignedSize.desc).map (fun d => d.parameters.length) = some 0 := by decide +kernel
theorem k_fm_sign : y_fm_sign.cls ≠ "java/lang/invoke/MethodHandle" ∧ y_fm_sign.cls ≠ "java/lang/invoke/VarHandle" ∧ (parseMethodDescriptor y_fm_sign.desc).map (fun d => d.parameters.length) = some 0 := by decide +kernel
theorem k_fm_fileIn : y_fm_fileIn.cls ≠ "java/lang/invoke/MethodHandle" ∧ y_fm_fileIn.cls ≠ "java/lang/invoke/VarHandle" ∧ (parseMethodDescriptor y_fm_fileIn.desc).map (fun d => d.parameters.length) = some 2 := by decide +kernel
theorem k_fm_rankIn : y_fm_rankIn.cls ≠ "java/lang/invoke/MethodHandle" ∧ y_fm_rankIn.cls ≠ "java/lang/invoke/VarHandle" ∧ (parseMethodDescriptor y_fm_rankIn.desc).map (fun d => d.parameters.length) = some 2 := by decide +kernel
theorem k_fm_squareIn : y_fm_squareIn.cls ≠ "java/lang/invoke/MethodHandle" ∧ y_fm_squareIn.cls ≠ "java/lang/invoke/VarHandle" ∧ (parseMethodDescriptor y_fm_squareIn.desc).map (fun d => d.parameters.length) = some 2 := by decide +kernel
theorem k_fm_isCastling : y_fm_isCastling.cls ≠ "java/lang/invoke/MethodHandle" ∧ y_fm_isCastling.cls ≠ "java/lang/invoke/VarHandle" ∧ (parseMethodDescriptor y_fm_isCastling.desc).map (fun d => d.parameters.length) = some 1 := by decide +kernel
theorem k_fm_isManMove : y_fm_isManMove.cls ≠ "java/lang/invoke/MethodHandle" ∧ y_fm_isManMove.cls ≠ "java/lang/invoke/VarHandle" ∧ (parseMethodDescriptor y_fm_isManMove.desc).map (fun d => d.parameters.length) = some 1 := by decide +kernel
theorem k_fm_isPawnMove : y_fm_isPawnMove.cls ≠ "java/lang/invoke/MethodHandle" ∧ y_fm_isPawnMove.cls ≠ "java/lang/invoke/VarHandle" ∧ (parseMethodDescriptor y_fm_isPawnMove.desc).map (fun d => d.parameters.length) = some 1 := by decide +kernel
theorem k_fm_isOf : y_fm_isOf.cls ≠ "java/lang/invoke/MethodHandle" ∧ y_fm_isOf.cls ≠ "java/lang/invoke/VarHandle" ∧ (parseMethodDescriptor y_fm_isOf.desc).map (fun d => d.parameters.length) = some 1 := by decide +kernel
theorem k_fm_fits : y_fm_fits.cls ≠ "java/lang/invoke/MethodHandle" ∧ y_fm_fits.cls ≠ "java/lang/invoke/VarHandle" ∧ (parseMethodDescriptor y_fm_fits.desc).map (fun d => d.parameters.length) = some 2 := by decide +kernel
theorem k_gn_addEmpty : y_gn_addEmpty.cls ≠ "java/lang/invoke/MethodHandle" ∧ y_gn_addEmpty.cls ≠ "java/lang/invoke/VarHandle" ∧ (parseMethodDescriptor y_gn_addEmpty.desc).map (fun d => d.parameters.length) = some 1 := by decide +kernel
theorem k_gn_addRank : y_gn_addRank.cls ≠ "java/lang/invoke/MethodHandle" ∧ y_gn_addRank.cls ≠ "java/lang/invoke/VarHandle" ∧ (parseMethodDescriptor y_gn_addRank.desc).map (fun d => d.parameters.length) = some 1 := by decide +kernel
theorem k_gn_addRanks : y_gn_addRanks.cls ≠ "java/lang/invoke/MethodHandle" ∧ y_gn_addRanks.cls ≠ "java/lang/invoke/VarHandle" ∧ (parseMethodDescriptor y_gn_addRanks.desc).map (fun d => d.parameters.length) = some 0 := by decide +kernel
theorem k_gn_addRights : y_gn_addRights.cls ≠ "java/lang/invoke/MethodHandle" ∧ y_gn_addRights.cls ≠ "java/lang/invoke/VarHandle" ∧ (parseMethodDescriptor y_gn_addRights.desc).map (fun d => d.parameters.length) = some 0 := by decide +kernel
theorem k_gn_addPassant : y_gn_addPassant.cls ≠ "java/lang/invoke/MethodHandle" ∧ y_gn_addPassant.cls ≠ "java/lang/invoke/VarHandle" ∧ (parseMethodDescriptor y_gn_addPassant.desc).map (fun d => d.parameters.length) = some 0 := by decide +kernel
theorem k_gn_closeness : y_gn_closeness.cls ≠ "java/lang/invoke/MethodHandle" ∧ y_gn_closeness.cls ≠ "java/lang/invoke/VarHandle" ∧ (parseMethodDescriptor y_gn_closeness.desc).map (fun d => d.parameters.length) = some 1 := by decide +kernel
theorem k_gn_type : y_gn_type.cls ≠ "java/lang/invoke/MethodHandle" ∧ y_gn_type.cls ≠ "java/lang/invoke/VarHandle" ∧ (parseMethodDescriptor y_gn_type.desc).map (fun d => d.parameters.length) = some 1 := by decide +kernel
theorem k_gn_wipe : y_gn_wipe.cls ≠ "java/lang/invoke/MethodHandle" ∧ y_gn_wipe.cls ≠ "java/lang/invoke/VarHandle" ∧ (parseMethodDescriptor y_gn_wipe.desc).map (fun d => d.parameters.length) = some 0 := by decide +kernel
theorem k_gn_text : y_gn_text.cls ≠ "java/lang/invoke/MethodHandle" ∧ y_gn_text.cls ≠ "java/lang/invoke/VarHandle" ∧ (parseMethodDescriptor y_gn_text.desc).map (fun d => d.parameters.length) = some 1 := by decide +kernel
theorem k_gn_write : y_gn_write.cls ≠ "java/lang/invoke/MethodHandle" ∧ y_gn_write.cls ≠ "java/lang/invoke/VarHandle" ∧ (parseMethodDescriptor y_gn_write.desc).map (fun d => d.parameters.length) = some 0 := by decide +kernel
theorem k_gn_put : y_gn_put.cls ≠ "java/lang/invoke/MethodHandle" ∧ y_gn_put.cls ≠ "java/lang/invoke/VarHandle" ∧ (parseMethodDescriptor y_gn_put.desc).map (fun d => d.parameters.length) = some 2 := by decide +kernel
theorem k_gn_state : y_gn_state.cls ≠ "java/lang/invoke/MethodHandle" ∧ y_gn_state.cls ≠ "java/lang/invoke/VarHandle" ∧ (parseMethodDescriptor y_gn_state.desc).map (fun d => d.parameters.length) = some 5 := by decide +kernel
theorem k_gn_at : y_gn_at.cls ≠ "java/lang/invoke/MethodHandle" ∧ y_gn_at.cls ≠ "java/lang/invoke/VarHandle" ∧ (parseMethodDescriptor y_gn_at.desc).map (fun d => d.parameters.length) = some 1 := by decide +kernel
theorem k_gn_tell : y_gn_tell.cls ≠ "java/lang/invoke/MethodHandle" ∧ y_gn_tell.cls ≠ "java/lang/invoke/VarHandle" ∧ (parseMethodDescriptor y_gn_tell.desc).map (fun d => d.parameters.length) = some 2 := by decide +kernel
theorem k_gn_forget : y_gn_forget.cls ≠ "java/lang/invoke/MethodHandle" ∧ y_gn_forget.cls ≠ "java/lang/invoke/VarHandle" ∧ (parseMethodDescriptor y_gn_forget.desc).map (fun d => d.parameters.length) = some 0 := by decide +kernel
theorem k_gn_find : y_gn_find.cls ≠ "java/lang/invoke/MethodHandle" ∧ y_gn_find.cls ≠ "java/lang/invoke/VarHandle" ∧ (parseMethodDescriptor y_gn_find.desc).map (fun d => d.parameters.length) = some 0 := by decide +kernel
theorem k_gn_look : y_gn_look.cls ≠ "java/lang/invoke/MethodHandle" ∧ y_gn_look.cls ≠ "java/lang/invoke/VarHandle" ∧ (parseMethodDescriptor y_gn_look.desc).map (fun d => d.parameters.length) = some 1 := by decide +kernel
theorem in_fm : ∀ w ∈ u_ws R_fm T_fm 6, w ∈ gw := by decide +kernel
theorem in_ln : ∀ w ∈ u_ws R_ln T_ln 2, w ∈ gw := by decide +kernel
theorem in_ps : ∀ w ∈ u_ws R_ps T_ps 6, w ∈ gw := by decide +kernel
theorem in_rd : ∀ w ∈ u_ws R_rd T_rd 1, w ∈ gw := by decide +kernel
theorem in_td : ∀ w ∈ u_ws R_td T_td 3, w ∈ gw := by decide +kernel
theorem in_gn : ∀ w ∈ u_ws R_gn T_gn 7, w ∈ gw := by decide +kernel
theorem in_md : ∀ w ∈ u_ws R_md T_md 21, w ∈ gw := by decide +kernel
