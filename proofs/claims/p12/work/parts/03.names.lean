/-! names: classes, fields, methods, the words of the tables by their places -/
abbrev R_E : String := "ShopDesks$Entry"
def F_E : u_T := fun k => match k with
  | 0 => ("ShopDesks$Entry", "accounts", "[I", true)
  | 1 => ("ShopDesks$Entry", "cents", "[J", true)
  | 2 => ("ShopDesks$Entry", "rowCount", "I", false)
  | 3 => ("ShopDesks$Entry", "day", "I", false)
  | 4 => ("ShopDesks$Entry", "number", "I", false)
  | 5 => ("ShopDesks$Entry", "isReversed", "Z", false)
  | _ => ("ShopDesks$Entry", "isReversal", "Z", false)
def ft_E : Nat → FieldType := fun k => match k with
  | 0 => .array .int
  | 1 => .array .long
  | 2 => .int
  | 3 => .int
  | 4 => .int
  | 5 => .boolean
  | _ => .boolean
theorem fn_E : ∀ a, a < 7 → ∀ b, b < 7 → a ≠ b → (F_E a).2.1 ≠ (F_E b).2.1 := by decide +kernel
theorem ft_E_ok : ∀ k, k < 7 → parseFieldDescriptor (F_E k).2.2.1 = some (ft_E k) := by decide +kernel
abbrev R_L : String := "ShopDesks$Ledger"
def F_L : u_T := fun k => match k with
  | 0 => ("ShopDesks$Ledger", "entries", "[LShopDesks$Entry;", true)
  | 1 => ("ShopDesks$Ledger", "entryOfNumber", "[I", true)
  | 2 => ("ShopDesks$Ledger", "entryCount", "I", false)
  | 3 => ("ShopDesks$Ledger", "lastNumber", "I", false)
  | _ => ("ShopDesks$Ledger", "lastClosedMonth", "I", false)
def ft_L : Nat → FieldType := fun k => match k with
  | 0 => .array (.object "ShopDesks$Entry")
  | 1 => .array .int
  | 2 => .int
  | 3 => .int
  | _ => .int
theorem fn_L : ∀ a, a < 5 → ∀ b, b < 5 → a ≠ b → (F_L a).2.1 ≠ (F_L b).2.1 := by decide +kernel
theorem ft_L_ok : ∀ k, k < 5 → parseFieldDescriptor (F_L k).2.2.1 = some (ft_L k) := by decide +kernel
abbrev R_S : String := "ShopDesks$TellingSet"
def F_S : u_T := fun k => match k with
  | 0 => ("ShopDesks$TellingSet", "tellings", "LShopDesks$Tellings;", true)
  | 1 => ("ShopDesks$TellingSet", "order", "[I", true)
  | 2 => ("ShopDesks$TellingSet", "isIn", "[Z", true)
  | 3 => ("ShopDesks$TellingSet", "size", "I", false)
  | _ => ("ShopDesks$TellingSet", "sizeAtBatch", "I", false)
def ft_S : Nat → FieldType := fun k => match k with
  | 0 => .object "ShopDesks$Tellings"
  | 1 => .array .int
  | 2 => .array .boolean
  | 3 => .int
  | _ => .int
theorem fn_S : ∀ a, a < 5 → ∀ b, b < 5 → a ≠ b → (F_S a).2.1 ≠ (F_S b).2.1 := by decide +kernel
theorem ft_S_ok : ∀ k, k < 5 → parseFieldDescriptor (F_S k).2.2.1 = some (ft_S k) := by decide +kernel
abbrev R_T : String := "ShopDesks$Tellings"
def F_T : u_T := fun k => match k with
  | 0 => ("ShopDesks$Tellings", "teller", "[I", true)
  | 1 => ("ShopDesks$Tellings", "number", "[J", true)
  | 2 => ("ShopDesks$Tellings", "thing", "[I", true)
  | 3 => ("ShopDesks$Tellings", "kind", "[I", true)
  | 4 => ("ShopDesks$Tellings", "value", "[J", true)
  | 5 => ("ShopDesks$Tellings", "on", "[J", true)
  | _ => ("ShopDesks$Tellings", "count", "I", false)
def ft_T : Nat → FieldType := fun k => match k with
  | 0 => .array .int
  | 1 => .array .long
  | 2 => .array .int
  | 3 => .array .int
  | 4 => .array .long
  | 5 => .array .long
  | _ => .int
theorem fn_T : ∀ a, a < 7 → ∀ b, b < 7 → a ≠ b → (F_T a).2.1 ≠ (F_T b).2.1 := by decide +kernel
theorem ft_T_ok : ∀ k, k < 7 → parseFieldDescriptor (F_T k).2.2.1 = some (ft_T k) := by decide +kernel
abbrev R_X : String := "ShopDesks"
def F_X : u_T := fun k => match k with
  | 0 => ("ShopDesks", "tellings", "LShopDesks$Tellings;", true)
  | 1 => ("ShopDesks", "sets", "[LShopDesks$TellingSet;", true)
  | 2 => ("ShopDesks", "setCount", "I", false)
  | 3 => ("ShopDesks", "rights", "[Z", true)
  | _ => ("ShopDesks", "ledger", "LShopDesks$Ledger;", true)
def ft_X : Nat → FieldType := fun k => match k with
  | 0 => .object "ShopDesks$Tellings"
  | 1 => .array (.object "ShopDesks$TellingSet")
  | 2 => .int
  | 3 => .array .boolean
  | _ => .object "ShopDesks$Ledger"
theorem fn_X : ∀ a, a < 5 → ∀ b, b < 5 → a ≠ b → (F_X a).2.1 ≠ (F_X b).2.1 := by decide +kernel
theorem ft_X_ok : ∀ k, k < 5 → parseFieldDescriptor (F_X k).2.2.1 = some (ft_X k) := by decide +kernel
abbrev R_M : String := "ShopDesksModel"
def F_M : u_T := fun k => match k with
  | 0 => ("ShopDesksModel", "code", "I", false)
  | 1 => ("ShopDesksModel", "told", "I", false)
  | 2 => ("ShopDesksModel", "tellers", "[I", true)
  | 3 => ("ShopDesksModel", "numbers", "[J", true)
  | 4 => ("ShopDesksModel", "things", "[I", true)
  | 5 => ("ShopDesksModel", "kinds", "[I", true)
  | 6 => ("ShopDesksModel", "values", "[J", true)
  | 7 => ("ShopDesksModel", "ons", "[J", true)
  | 8 => ("ShopDesksModel", "sets", "I", false)
  | 9 => ("ShopDesksModel", "sizes", "[I", true)
  | 10 => ("ShopDesksModel", "rows", "[I", true)
  | 11 => ("ShopDesksModel", "batches", "[I", true)
  | 12 => ("ShopDesksModel", "rights", "[Z", true)
  | 13 => ("ShopDesksModel", "entries", "I", false)
  | 14 => ("ShopDesksModel", "days", "[I", true)
  | 15 => ("ShopDesksModel", "many", "[I", true)
  | 16 => ("ShopDesksModel", "accounts", "[I", true)
  | 17 => ("ShopDesksModel", "cents", "[J", true)
  | 18 => ("ShopDesksModel", "closedAs", "[I", true)
  | 19 => ("ShopDesksModel", "reversed", "[Z", true)
  | 20 => ("ShopDesksModel", "closed", "I", false)
  | _ => ("ShopDesksModel", "closedMonth", "I", false)
def ft_M : Nat → FieldType := fun k => match k with
  | 0 => .int
  | 1 => .int
  | 2 => .array .int
  | 3 => .array .long
  | 4 => .array .int
  | 5 => .array .int
  | 6 => .array .long
  | 7 => .array .long
  | 8 => .int
  | 9 => .array .int
  | 10 => .array .int
  | 11 => .array .int
  | 12 => .array .boolean
  | 13 => .int
  | 14 => .array .int
  | 15 => .array .int
  | 16 => .array .int
  | 17 => .array .long
  | 18 => .array .int
  | 19 => .array .boolean
  | 20 => .int
  | _ => .int
theorem fn_M : ∀ a, a < 22 → ∀ b, b < 22 → a ≠ b → (F_M a).2.1 ≠ (F_M b).2.1 := by decide +kernel
theorem ft_M_ok : ∀ k, k < 22 → parseFieldDescriptor (F_M k).2.2.1 = some (ft_M k) := by decide +kernel
abbrev R_W : String := "ShopDesksLaw"
abbrev cls_ : List vw_C := [(R_E, F_E, 7), (R_L, F_L, 5), (R_S, F_S, 5), (R_T, F_T, 7), (R_X, F_X, 5), (R_M, F_M, 22)]
abbrev c_X_init : ByteArray := prog_1_method_1_code
abbrev y_X_init : MethodName := ⟨"ShopDesks", "<init>", "()V"⟩
abbrev c_T_init : ByteArray := prog_5_method_1_code
abbrev y_T_init : MethodName := ⟨"ShopDesks$Tellings", "<init>", "()V"⟩
abbrev c_S_init : ByteArray := prog_4_method_1_code
abbrev y_S_init : MethodName := ⟨"ShopDesks$TellingSet", "<init>", "(LShopDesks$Tellings;)V"⟩
abbrev c_L_init : ByteArray := prog_3_method_1_code
abbrev y_L_init : MethodName := ⟨"ShopDesks$Ledger", "<init>", "()V"⟩
abbrev c_E_init : ByteArray := prog_2_method_1_code
abbrev y_E_init : MethodName := ⟨"ShopDesks$Entry", "<init>", "()V"⟩
abbrev c_W_tell : ByteArray := method_3_code
abbrev y_W_tell : MethodName := ⟨"ShopDesksLaw", "tell", "(LShopDesks;IJIIJJ[J)I"⟩
abbrev c_X_tell : ByteArray := prog_1_method_2_code
abbrev y_X_tell : MethodName := ⟨"ShopDesks", "tell", "(IJIIJJ)I"⟩
abbrev c_X_needTeller : ByteArray := prog_1_method_19_code
abbrev y_X_needTeller : MethodName := ⟨"ShopDesks", "needTeller", "(I)V"⟩
abbrev c_X_needThing : ByteArray := prog_1_method_20_code
abbrev y_X_needThing : MethodName := ⟨"ShopDesks", "needThing", "(I)V"⟩
abbrev c_X_needKind : ByteArray := prog_1_method_21_code
abbrev y_X_needKind : MethodName := ⟨"ShopDesks", "needKind", "(I)V"⟩
abbrev c_T_isTold : ByteArray := prog_5_method_2_code
abbrev y_T_isTold : MethodName := ⟨"ShopDesks$Tellings", "isTold", "(IJ)Z"⟩
abbrev c_T_append : ByteArray := prog_5_method_3_code
abbrev y_T_append : MethodName := ⟨"ShopDesks$Tellings", "append", "(IJIIJJ)V"⟩
abbrev c_W_set : ByteArray := method_4_code
abbrev y_W_set : MethodName := ⟨"ShopDesksLaw", "set", "(LShopDesks;I[J)I"⟩
abbrev c_X_set : ByteArray := prog_1_method_3_code
abbrev y_X_set : MethodName := ⟨"ShopDesks", "set", "(I)I"⟩
abbrev c_S_takeAllOf : ByteArray := prog_4_method_2_code
abbrev y_S_takeAllOf : MethodName := ⟨"ShopDesks$TellingSet", "takeAllOf", "(I)V"⟩
abbrev c_S_insertByNumber : ByteArray := prog_4_method_3_code
abbrev y_S_insertByNumber : MethodName := ⟨"ShopDesks$TellingSet", "insertByNumber", "(I)V"⟩
abbrev c_W_join : ByteArray := method_5_code
abbrev y_W_join : MethodName := ⟨"ShopDesksLaw", "join", "(LShopDesks;II[J)I"⟩
abbrev c_X_join : ByteArray := prog_1_method_4_code
abbrev y_X_join : MethodName := ⟨"ShopDesks", "join", "(II)I"⟩
abbrev c_X_needSet : ByteArray := prog_1_method_25_code
abbrev y_X_needSet : MethodName := ⟨"ShopDesks", "needSet", "(I)V"⟩
abbrev c_S_takeMissing : ByteArray := prog_4_method_4_code
abbrev y_S_takeMissing : MethodName := ⟨"ShopDesks$TellingSet", "takeMissing", "(LShopDesks$TellingSet;)I"⟩
abbrev c_W_equal : ByteArray := method_6_code
abbrev y_W_equal : MethodName := ⟨"ShopDesksLaw", "equal", "(LShopDesks;II[J)I"⟩
abbrev c_X_equal : ByteArray := prog_1_method_5_code
abbrev y_X_equal : MethodName := ⟨"ShopDesks", "equal", "(II)Z"⟩
abbrev c_S_hasSameAs : ByteArray := prog_4_method_5_code
abbrev y_S_hasSameAs : MethodName := ⟨"ShopDesks$TellingSet", "hasSameAs", "(LShopDesks$TellingSet;)Z"⟩
abbrev c_W_at : ByteArray := method_7_code
abbrev y_W_at : MethodName := ⟨"ShopDesksLaw", "at", "(LShopDesks;IIIJ[J)I"⟩
abbrev c_X_at : ByteArray := prog_1_method_6_code
abbrev y_X_at : MethodName := ⟨"ShopDesks", "at", "(IIIJ)J"⟩
abbrev c_S_known : ByteArray := prog_4_method_9_code
abbrev y_S_known : MethodName := ⟨"ShopDesks$TellingSet", "known", "(IIJI)J"⟩
abbrev c_S_sumOfCounts : ByteArray := prog_4_method_11_code
abbrev y_S_sumOfCounts : MethodName := ⟨"ShopDesks$TellingSet", "sumOfCounts", "(IJI)J"⟩
abbrev c_T_holds : ByteArray := prog_5_method_4_code
abbrev y_T_holds : MethodName := ⟨"ShopDesks$Tellings", "holds", "(IIIJ)Z"⟩
abbrev c_S_knownMark : ByteArray := prog_4_method_12_code
abbrev y_S_knownMark : MethodName := ⟨"ShopDesks$TellingSet", "knownMark", "(IJI)J"⟩
abbrev c_S_settling : ByteArray := prog_4_method_14_code
abbrev y_S_settling : MethodName := ⟨"ShopDesks$TellingSet", "settling", "(IJI)I"⟩
abbrev c_S_latest : ByteArray := prog_4_method_13_code
abbrev y_S_latest : MethodName := ⟨"ShopDesks$TellingSet", "latest", "(IIJI)I"⟩
abbrev c_T_isLater : ByteArray := prog_5_method_5_code
abbrev y_T_isLater : MethodName := ⟨"ShopDesks$Tellings", "isLater", "(II)Z"⟩
abbrev c_S_hasUnlikeMarks : ByteArray := prog_4_method_15_code
abbrev y_S_hasUnlikeMarks : MethodName := ⟨"ShopDesks$TellingSet", "hasUnlikeMarks", "(IJI)Z"⟩
abbrev c_S_valueOrZero : ByteArray := prog_4_method_16_code
abbrev y_S_valueOrZero : MethodName := ⟨"ShopDesks$TellingSet", "valueOrZero", "(I)J"⟩
abbrev c_W_conflict : ByteArray := method_8_code
abbrev y_W_conflict : MethodName := ⟨"ShopDesksLaw", "conflict", "(LShopDesks;II[J)I"⟩
abbrev c_X_conflict : ByteArray := prog_1_method_7_code
abbrev y_X_conflict : MethodName := ⟨"ShopDesks", "conflict", "(II)I"⟩
abbrev c_S_isInConflict : ByteArray := prog_4_method_10_code
abbrev y_S_isInConflict : MethodName := ⟨"ShopDesks$TellingSet", "isInConflict", "(I)Z"⟩
abbrev c_W_mark : ByteArray := method_9_code
abbrev y_W_mark : MethodName := ⟨"ShopDesksLaw", "mark", "(LShopDesks;I[J)I"⟩
abbrev c_X_mark : ByteArray := prog_1_method_8_code
abbrev y_X_mark : MethodName := ⟨"ShopDesks", "mark", "(I)I"⟩
abbrev c_W_since : ByteArray := method_10_code
abbrev y_W_since : MethodName := ⟨"ShopDesksLaw", "since", "(LShopDesks;IIII[J)I"⟩
abbrev c_X_since : ByteArray := prog_1_method_9_code
abbrev y_X_since : MethodName := ⟨"ShopDesks", "since", "(IIII)J"⟩
abbrev c_W_batch : ByteArray := method_11_code
abbrev y_W_batch : MethodName := ⟨"ShopDesksLaw", "batch", "(LShopDesks;IZ[J)I"⟩
abbrev c_X_batch : ByteArray := prog_1_method_10_code
abbrev y_X_batch : MethodName := ⟨"ShopDesks", "batch", "(IZ)Z"⟩
abbrev c_S_beginBatch : ByteArray := prog_4_method_6_code
abbrev y_S_beginBatch : MethodName := ⟨"ShopDesks$TellingSet", "beginBatch", "()Z"⟩
abbrev c_S_endBatch : ByteArray := prog_4_method_7_code
abbrev y_S_endBatch : MethodName := ⟨"ShopDesks$TellingSet", "endBatch", "()Z"⟩
abbrev c_W_right : ByteArray := method_12_code
abbrev y_W_right : MethodName := ⟨"ShopDesksLaw", "right", "(LShopDesks;IIZ[J)I"⟩
abbrev c_X_right : ByteArray := prog_1_method_11_code
abbrev y_X_right : MethodName := ⟨"ShopDesks", "right", "(IIZ)Z"⟩
abbrev c_X_needPerson : ByteArray := prog_1_method_22_code
abbrev y_X_needPerson : MethodName := ⟨"ShopDesks", "needPerson", "(I)V"⟩
abbrev c_W_seen : ByteArray := method_13_code
abbrev y_W_seen : MethodName := ⟨"ShopDesksLaw", "seen", "(LShopDesks;IIII[J)I"⟩
abbrev c_X_seen : ByteArray := prog_1_method_12_code
abbrev y_X_seen : MethodName := ⟨"ShopDesks", "seen", "(IIII)J"⟩
abbrev c_S_sizeToSee : ByteArray := prog_4_method_8_code
abbrev y_S_sizeToSee : MethodName := ⟨"ShopDesks$TellingSet", "sizeToSee", "()I"⟩
abbrev c_W_entry : ByteArray := method_14_code
abbrev y_W_entry : MethodName := ⟨"ShopDesksLaw", "entry", "(LShopDesks;I[J)I"⟩
abbrev c_X_entry : ByteArray := prog_1_method_13_code
abbrev y_X_entry : MethodName := ⟨"ShopDesks", "entry", "(I)I"⟩
abbrev c_X_needDay : ByteArray := prog_1_method_24_code
abbrev y_X_needDay : MethodName := ⟨"ShopDesks", "needDay", "(I)V"⟩
abbrev c_X_needRoomForEntry : ByteArray := prog_1_method_27_code
abbrev y_X_needRoomForEntry : MethodName := ⟨"ShopDesks", "needRoomForEntry", "()V"⟩
abbrev c_L_openEntry : ByteArray := prog_3_method_2_code
abbrev y_L_openEntry : MethodName := ⟨"ShopDesks$Ledger", "openEntry", "(I)I"⟩
abbrev c_W_row : ByteArray := method_15_code
abbrev y_W_row : MethodName := ⟨"ShopDesksLaw", "row", "(LShopDesks;IIJ[J)I"⟩
abbrev c_X_row : ByteArray := prog_1_method_14_code
abbrev y_X_row : MethodName := ⟨"ShopDesks", "row", "(IIJ)I"⟩
abbrev c_X_needEntry : ByteArray := prog_1_method_26_code
abbrev y_X_needEntry : MethodName := ⟨"ShopDesks", "needEntry", "(I)V"⟩
abbrev c_X_needAccount : ByteArray := prog_1_method_23_code
abbrev y_X_needAccount : MethodName := ⟨"ShopDesks", "needAccount", "(I)V"⟩
abbrev c_E_isClosed : ByteArray := prog_2_method_2_code
abbrev y_E_isClosed : MethodName := ⟨"ShopDesks$Entry", "isClosed", "()Z"⟩
abbrev c_E_addRow : ByteArray := prog_2_method_3_code
abbrev y_E_addRow : MethodName := ⟨"ShopDesks$Entry", "addRow", "(IJ)V"⟩
abbrev c_W_close : ByteArray := method_16_code
abbrev y_W_close : MethodName := ⟨"ShopDesksLaw", "close", "(LShopDesks;I[J)I"⟩
abbrev c_X_close : ByteArray := prog_1_method_15_code
abbrev y_X_close : MethodName := ⟨"ShopDesks", "close", "(I)I"⟩
abbrev c_L_isInClosedMonth : ByteArray := prog_3_method_5_code
abbrev y_L_isInClosedMonth : MethodName := ⟨"ShopDesks$Ledger", "isInClosedMonth", "(I)Z"⟩
abbrev c_E_isBalanced : ByteArray := prog_2_method_5_code
abbrev y_E_isBalanced : MethodName := ⟨"ShopDesks$Entry", "isBalanced", "()Z"⟩
abbrev c_L_giveNumber : ByteArray := prog_3_method_3_code
abbrev y_L_giveNumber : MethodName := ⟨"ShopDesks$Ledger", "giveNumber", "(I)I"⟩
abbrev c_W_balance : ByteArray := method_17_code
abbrev y_W_balance : MethodName := ⟨"ShopDesksLaw", "balance", "(LShopDesks;II[J)I"⟩
abbrev c_X_balance : ByteArray := prog_1_method_16_code
abbrev y_X_balance : MethodName := ⟨"ShopDesks", "balance", "(II)J"⟩
abbrev c_L_sumUpTo : ByteArray := prog_3_method_6_code
abbrev y_L_sumUpTo : MethodName := ⟨"ShopDesks$Ledger", "sumUpTo", "(II)J"⟩
abbrev c_E_sumOf : ByteArray := prog_2_method_6_code
abbrev y_E_sumOf : MethodName := ⟨"ShopDesks$Entry", "sumOf", "(I)J"⟩
abbrev c_W_closeMonth : ByteArray := method_18_code
abbrev y_W_closeMonth : MethodName := ⟨"ShopDesksLaw", "closeMonth", "(LShopDesks;I[J)I"⟩
abbrev c_X_closeMonth : ByteArray := prog_1_method_17_code
abbrev y_X_closeMonth : MethodName := ⟨"ShopDesks", "closeMonth", "(I)Z"⟩
abbrev c_W_reverse : ByteArray := method_19_code
abbrev y_W_reverse : MethodName := ⟨"ShopDesksLaw", "reverse", "(LShopDesks;II[J)I"⟩
abbrev c_X_reverse : ByteArray := prog_1_method_18_code
abbrev y_X_reverse : MethodName := ⟨"ShopDesks", "reverse", "(II)I"⟩
abbrev c_L_addReversal : ByteArray := prog_3_method_4_code
abbrev y_L_addReversal : MethodName := ⟨"ShopDesks$Ledger", "addReversal", "(LShopDesks$Entry;I)I"⟩
abbrev c_E_takeTurnedRound : ByteArray := prog_2_method_4_code
abbrev y_E_takeTurnedRound : MethodName := ⟨"ShopDesks$Entry", "takeTurnedRound", "(LShopDesks$Entry;)V"⟩
abbrev c_M_init : ByteArray := prog_7_method_1_code
abbrev y_M_init : MethodName := ⟨"ShopDesksModel", "<init>", "()V"⟩
abbrev c_M_thrown : ByteArray := prog_7_method_2_code
abbrev y_M_thrown : MethodName := ⟨"ShopDesksModel", "thrown", "()I"⟩
abbrev c_M_tell : ByteArray := prog_7_method_6_code
abbrev y_M_tell : MethodName := ⟨"ShopDesksModel", "tell", "(IJIIJJ)I"⟩
abbrev c_M_isIn : ByteArray := prog_7_method_3_code
abbrev y_M_isIn : MethodName := ⟨"ShopDesksModel", "isIn", "(JJJ)Z"⟩
abbrev c_M_isKind : ByteArray := prog_7_method_4_code
abbrev y_M_isKind : MethodName := ⟨"ShopDesksModel", "isKind", "(I)Z"⟩
abbrev c_M_find : ByteArray := prog_7_method_5_code
abbrev y_M_find : MethodName := ⟨"ShopDesksModel", "find", "(IJ)I"⟩
abbrev c_M_set : ByteArray := prog_7_method_9_code
abbrev y_M_set : MethodName := ⟨"ShopDesksModel", "set", "(I)I"⟩
abbrev c_M_join : ByteArray := prog_7_method_11_code
abbrev y_M_join : MethodName := ⟨"ShopDesksModel", "join", "(II)I"⟩
abbrev c_M_isSet : ByteArray := prog_7_method_10_code
abbrev y_M_isSet : MethodName := ⟨"ShopDesksModel", "isSet", "(I)Z"⟩
abbrev c_M_has : ByteArray := prog_7_method_7_code
abbrev y_M_has : MethodName := ⟨"ShopDesksModel", "has", "(II)Z"⟩
abbrev c_M_add : ByteArray := prog_7_method_8_code
abbrev y_M_add : MethodName := ⟨"ShopDesksModel", "add", "(II)V"⟩
abbrev c_M_equal : ByteArray := prog_7_method_12_code
abbrev y_M_equal : MethodName := ⟨"ShopDesksModel", "equal", "(II)Z"⟩
abbrev c_M_at : ByteArray := prog_7_method_20_code
abbrev y_M_at : MethodName := ⟨"ShopDesksModel", "at", "(IIIJ)J"⟩
abbrev c_M_known : ByteArray := prog_7_method_19_code
abbrev y_M_known : MethodName := ⟨"ShopDesksModel", "known", "(IIIIJ)J"⟩
abbrev c_M_speaks : ByteArray := prog_7_method_15_code
abbrev y_M_speaks : MethodName := ⟨"ShopDesksModel", "speaks", "(IIIJ)Z"⟩
abbrev c_M_isSettled : ByteArray := prog_7_method_17_code
abbrev y_M_isSettled : MethodName := ⟨"ShopDesksModel", "isSettled", "(IIIJ)Z"⟩
abbrev c_M_latest : ByteArray := prog_7_method_16_code
abbrev y_M_latest : MethodName := ⟨"ShopDesksModel", "latest", "(IIIIJ)I"⟩
abbrev c_M_later : ByteArray := prog_7_method_14_code
abbrev y_M_later : MethodName := ⟨"ShopDesksModel", "later", "(II)I"⟩
abbrev c_M_isAfter : ByteArray := prog_7_method_13_code
abbrev y_M_isAfter : MethodName := ⟨"ShopDesksModel", "isAfter", "(JJ)Z"⟩
abbrev c_M_areUnlike : ByteArray := prog_7_method_18_code
abbrev y_M_areUnlike : MethodName := ⟨"ShopDesksModel", "areUnlike", "(IIIJ)Z"⟩
abbrev c_M_conflict : ByteArray := prog_7_method_22_code
abbrev y_M_conflict : MethodName := ⟨"ShopDesksModel", "conflict", "(II)I"⟩
abbrev c_M_end : ByteArray := prog_7_method_21_code
abbrev y_M_end : MethodName := ⟨"ShopDesksModel", "end", "()J"⟩
abbrev c_M_mark : ByteArray := prog_7_method_23_code
abbrev y_M_mark : MethodName := ⟨"ShopDesksModel", "mark", "(I)I"⟩
abbrev c_M_since : ByteArray := prog_7_method_24_code
abbrev y_M_since : MethodName := ⟨"ShopDesksModel", "since", "(IIII)J"⟩
abbrev c_M_batch : ByteArray := prog_7_method_25_code
abbrev y_M_batch : MethodName := ⟨"ShopDesksModel", "batch", "(IZ)Z"⟩
abbrev c_M_right : ByteArray := prog_7_method_26_code
abbrev y_M_right : MethodName := ⟨"ShopDesksModel", "right", "(IIZ)Z"⟩
abbrev c_M_seen : ByteArray := prog_7_method_27_code
abbrev y_M_seen : MethodName := ⟨"ShopDesksModel", "seen", "(IIII)J"⟩
abbrev c_M_entry : ByteArray := prog_7_method_28_code
abbrev y_M_entry : MethodName := ⟨"ShopDesksModel", "entry", "(I)I"⟩
abbrev c_M_open : ByteArray := prog_7_method_29_code
abbrev y_M_open : MethodName := ⟨"ShopDesksModel", "open", "(I)I"⟩
abbrev c_M_row : ByteArray := prog_7_method_32_code
abbrev y_M_row : MethodName := ⟨"ShopDesksModel", "row", "(IIJ)I"⟩
abbrev c_M_isEntry : ByteArray := prog_7_method_30_code
abbrev y_M_isEntry : MethodName := ⟨"ShopDesksModel", "isEntry", "(I)Z"⟩
abbrev c_M_addRow : ByteArray := prog_7_method_31_code
abbrev y_M_addRow : MethodName := ⟨"ShopDesksModel", "addRow", "(IIJ)V"⟩
abbrev c_M_close : ByteArray := prog_7_method_34_code
abbrev y_M_close : MethodName := ⟨"ShopDesksModel", "close", "(I)I"⟩
abbrev c_M_closeNow : ByteArray := prog_7_method_33_code
abbrev y_M_closeNow : MethodName := ⟨"ShopDesksModel", "closeNow", "(I)V"⟩
abbrev c_M_balance : ByteArray := prog_7_method_35_code
abbrev y_M_balance : MethodName := ⟨"ShopDesksModel", "balance", "(II)J"⟩
abbrev c_M_closeMonth : ByteArray := prog_7_method_36_code
abbrev y_M_closeMonth : MethodName := ⟨"ShopDesksModel", "closeMonth", "(I)Z"⟩
abbrev c_M_reverse : ByteArray := prog_7_method_37_code
abbrev y_M_reverse : MethodName := ⟨"ShopDesksModel", "reverse", "(II)I"⟩
abbrev c_W_law : ByteArray := code
abbrev y_W_law : MethodName := ⟨"ShopDesksLaw", "law", "([I)Z"⟩
/-- all words of the tables that go with every call -/
def aw : List Cond := lw_tbl.filter goodWord
theorem aw_good {w : Cond} (h : w ∈ aw) : (w.onTables && w.keeps) = true ∨ ∃ ty, w = .arrayClass ty := good_of_word (List.mem_filter.mp h).2
theorem aw_t {w : Cond} (h : w ∈ tables_1) (g : goodWord w = true) : w ∈ aw := List.mem_filter.mpr ⟨List.mem_append_right _ h, g⟩
theorem aw_p {w : Cond} (h : w ∈ k2_sels lw_privs) (g : goodWord w = true) : w ∈ aw := List.mem_filter.mpr ⟨List.mem_append_left _ h, g⟩
def wm (y : MethodName) (c : ByteArray) (n : Nat) (r : Option FieldType) : List Cond := Cond.code y c n r :: aw
theorem wm_good {y y' : MethodName} {c c' : ByteArray} {n n' : Nat} {r r' : Option FieldType} (h : Cond.code y' c' n' r' ∈ aw) : GoodIn (wm y c n r) (wm y' c' n' r') := fun w hw => (List.mem_cons.mp hw).elim (fun e => e ▸ ⟨List.mem_cons_of_mem _ h, aw_good h⟩) (fun e => ⟨List.mem_cons_of_mem _ e, aw_good e⟩)
theorem aN_W : (Jvm.Cond.initialized "ShopDesksLaw") ∈ aw := aw_t (List.mem_append_left _ (List.mem_of_getElem? (l := tables_1_1) (i := 0) rfl)) rfl
theorem aN_X : (Jvm.Cond.initialized "ShopDesks") ∈ aw := aw_t (List.mem_append_left _ (List.mem_of_getElem? (l := tables_1_1) (i := 1) rfl)) rfl
theorem aN_T : (Jvm.Cond.initialized "ShopDesks$Tellings") ∈ aw := aw_t (List.mem_append_left _ (List.mem_of_getElem? (l := tables_1_1) (i := 2) rfl)) rfl
theorem aN_S : (Jvm.Cond.initialized "ShopDesks$TellingSet") ∈ aw := aw_t (List.mem_append_left _ (List.mem_of_getElem? (l := tables_1_1) (i := 3) rfl)) rfl
theorem aN_L : (Jvm.Cond.initialized "ShopDesks$Ledger") ∈ aw := aw_t (List.mem_append_left _ (List.mem_of_getElem? (l := tables_1_1) (i := 4) rfl)) rfl
theorem aN_E : (Jvm.Cond.initialized "ShopDesks$Entry") ∈ aw := aw_t (List.mem_append_left _ (List.mem_of_getElem? (l := tables_1_1) (i := 5) rfl)) rfl
theorem aN_M : (Jvm.Cond.initialized "ShopDesksModel") ∈ aw := aw_t (List.mem_append_left _ (List.mem_of_getElem? (l := tables_1_1) (i := 6) rfl)) rfl
theorem aN_Throwable : (Jvm.Cond.initialized "java/lang/Throwable") ∈ aw := aw_t (List.mem_append_left _ (List.mem_of_getElem? (l := tables_1_1) (i := 7) rfl)) rfl
theorem aN_Exception : (Jvm.Cond.initialized "java/lang/Exception") ∈ aw := aw_t (List.mem_append_left _ (List.mem_of_getElem? (l := tables_1_1) (i := 8) rfl)) rfl
theorem aN_RuntimeException : (Jvm.Cond.initialized "java/lang/RuntimeException") ∈ aw := aw_t (List.mem_append_left _ (List.mem_of_getElem? (l := tables_1_1) (i := 9) rfl)) rfl
theorem aN_IndexOutOfBoundsException : (Jvm.Cond.initialized "java/lang/IndexOutOfBoundsException") ∈ aw := aw_t (List.mem_append_left _ (List.mem_of_getElem? (l := tables_1_1) (i := 10) rfl)) rfl
theorem aN_IllegalArgumentException : (Jvm.Cond.initialized "java/lang/IllegalArgumentException") ∈ aw := aw_t (List.mem_append_left _ (List.mem_of_getElem? (l := tables_1_1) (i := 11) rfl)) rfl
theorem aN_IllegalStateException : (Jvm.Cond.initialized "java/lang/IllegalStateException") ∈ aw := aw_t (List.mem_append_left _ (List.mem_of_getElem? (l := tables_1_1) (i := 12) rfl)) rfl
theorem aC_W_8 : (Jvm.Cond.classLink "ShopDesksLaw" (8 : Nat) "ShopDesks") ∈ aw := aw_t (List.mem_append_left _ (List.mem_of_getElem? (l := tables_1_1) (i := 13) rfl)) rfl
theorem aT_X : (Jvm.Cond.instantiable "ShopDesks" (5 : Nat)) ∈ aw := aw_t (List.mem_append_left _ (List.mem_of_getElem? (l := tables_1_1) (i := 14) rfl)) rfl
theorem aM_W_77 : (Jvm.Cond.methodLink "ShopDesksLaw" (77 : Nat) ({ cls := "ShopDesks", name := "<init>", desc := "()V" } : Jvm.MethodName)) ∈ aw := aw_t (List.mem_append_left _ (List.mem_of_getElem? (l := tables_1_1) (i := 15) rfl)) rfl
theorem aI_X_init : (Jvm.Cond.instanceMethod ({ cls := "ShopDesks", name := "<init>", desc := "()V" } : Jvm.MethodName)) ∈ aw := aw_t (List.mem_append_left _ (List.mem_of_getElem? (l := tables_1_1) (i := 16) rfl)) rfl
theorem aK_X_init : (Jvm.Cond.code ({ cls := "ShopDesks", name := "<init>", desc := "()V" } : Jvm.MethodName) prog_1_method_1_code (2 : Nat) (Option.none : Option Jvm.ClassFile.FieldType)) ∈ aw := aw_t (List.mem_append_left _ (List.mem_of_getElem? (l := tables_1_1) (i := 17) rfl)) rfl
theorem aM_X_3 : (Jvm.Cond.methodLink "ShopDesks" (3 : Nat) ({ cls := "java/lang/Object", name := "<init>", desc := "()V" } : Jvm.MethodName)) ∈ aw := aw_t (List.mem_append_left _ (List.mem_of_getElem? (l := tables_1_1) (i := 18) rfl)) rfl
theorem aI_obj : (Jvm.Cond.instanceMethod ({ cls := "java/lang/Object", name := "<init>", desc := "()V" } : Jvm.MethodName)) ∈ aw := aw_t (List.mem_append_left _ (List.mem_of_getElem? (l := tables_1_1) (i := 19) rfl)) rfl
theorem aK_obj : (Jvm.Cond.code ({ cls := "java/lang/Object", name := "<init>", desc := "()V" } : Jvm.MethodName) object_method_1_code (1 : Nat) (Option.none : Option Jvm.ClassFile.FieldType)) ∈ aw := aw_t (List.mem_append_left _ (List.mem_of_getElem? (l := tables_1_1) (i := 20) rfl)) rfl
theorem aC_X_9 : (Jvm.Cond.classLink "ShopDesks" (9 : Nat) "ShopDesks$Tellings") ∈ aw := aw_t (List.mem_append_left _ (List.mem_of_getElem? (l := tables_1_1) (i := 21) rfl)) rfl
theorem aT_T : (Jvm.Cond.instantiable "ShopDesks$Tellings" (7 : Nat)) ∈ aw := aw_t (List.mem_append_left _ (List.mem_of_getElem? (l := tables_1_1) (i := 22) rfl)) rfl
theorem aM_X_11 : (Jvm.Cond.methodLinkNest "ShopDesks" (11 : Nat) ({ cls := "ShopDesks$Tellings", name := "<init>", desc := "()V" } : Jvm.MethodName) "ShopDesks") ∈ tables_1 := List.mem_append_left _ (List.mem_of_getElem? (l := tables_1_1) (i := 23) rfl)
theorem aI_T_init : (Jvm.Cond.instanceMethod ({ cls := "ShopDesks$Tellings", name := "<init>", desc := "()V" } : Jvm.MethodName)) ∈ aw := aw_t (List.mem_append_left _ (List.mem_of_getElem? (l := tables_1_1) (i := 24) rfl)) rfl
theorem aK_T_init : (Jvm.Cond.code ({ cls := "ShopDesks$Tellings", name := "<init>", desc := "()V" } : Jvm.MethodName) prog_5_method_1_code (1 : Nat) (Option.none : Option Jvm.ClassFile.FieldType)) ∈ aw := aw_t (List.mem_append_left _ (List.mem_of_getElem? (l := tables_1_1) (i := 25) rfl)) rfl
theorem aM_T_3 : (Jvm.Cond.methodLink "ShopDesks$Tellings" (3 : Nat) ({ cls := "java/lang/Object", name := "<init>", desc := "()V" } : Jvm.MethodName)) ∈ aw := aw_t (List.mem_append_left _ (List.mem_of_getElem? (l := tables_1_1) (i := 26) rfl)) rfl
theorem aF_T_9 : (Jvm.Cond.fieldLink "ShopDesks$Tellings" (9 : Nat) "ShopDesks$Tellings" "teller" "[I") ∈ aw := aw_t (List.mem_append_left _ (List.mem_of_getElem? (l := tables_1_1) (i := 27) rfl)) rfl
theorem aF_S_35 : (Jvm.Cond.fieldLink "ShopDesks$TellingSet" (35 : Nat) "ShopDesks$Tellings" "teller" "[I") ∈ aw := aw_t (List.mem_append_left _ (List.mem_of_getElem? (l := tables_1_1) (i := 28) rfl)) rfl
theorem aF_X_113 : (Jvm.Cond.fieldLink "ShopDesks" (113 : Nat) "ShopDesks$Tellings" "teller" "[I") ∈ aw := aw_t (List.mem_append_left _ (List.mem_of_getElem? (l := tables_1_1) (i := 29) rfl)) rfl
theorem aF_T_15 : (Jvm.Cond.fieldLink "ShopDesks$Tellings" (15 : Nat) "ShopDesks$Tellings" "number" "[J") ∈ aw := aw_t (List.mem_append_left _ (List.mem_of_getElem? (l := tables_1_1) (i := 30) rfl)) rfl
theorem aF_S_42 : (Jvm.Cond.fieldLink "ShopDesks$TellingSet" (42 : Nat) "ShopDesks$Tellings" "number" "[J") ∈ aw := aw_t (List.mem_append_left _ (List.mem_of_getElem? (l := tables_1_1) (i := 31) rfl)) rfl
theorem aF_X_116 : (Jvm.Cond.fieldLink "ShopDesks" (116 : Nat) "ShopDesks$Tellings" "number" "[J") ∈ aw := aw_t (List.mem_append_left _ (List.mem_of_getElem? (l := tables_1_1) (i := 32) rfl)) rfl
theorem aF_T_19 : (Jvm.Cond.fieldLink "ShopDesks$Tellings" (19 : Nat) "ShopDesks$Tellings" "thing" "[I") ∈ aw := aw_t (List.mem_append_left _ (List.mem_of_getElem? (l := tables_1_1) (i := 33) rfl)) rfl
theorem aF_T_22 : (Jvm.Cond.fieldLink "ShopDesks$Tellings" (22 : Nat) "ShopDesks$Tellings" "kind" "[I") ∈ aw := aw_t (List.mem_append_left _ (List.mem_of_getElem? (l := tables_1_1) (i := 34) rfl)) rfl
theorem aF_T_25 : (Jvm.Cond.fieldLink "ShopDesks$Tellings" (25 : Nat) "ShopDesks$Tellings" "value" "[J") ∈ aw := aw_t (List.mem_append_left _ (List.mem_of_getElem? (l := tables_1_1) (i := 35) rfl)) rfl
theorem aF_X_120 : (Jvm.Cond.fieldLink "ShopDesks" (120 : Nat) "ShopDesks$Tellings" "value" "[J") ∈ aw := aw_t (List.mem_append_left _ (List.mem_of_getElem? (l := tables_1_1) (i := 36) rfl)) rfl
theorem aF_S_75 : (Jvm.Cond.fieldLink "ShopDesks$TellingSet" (75 : Nat) "ShopDesks$Tellings" "value" "[J") ∈ aw := aw_t (List.mem_append_left _ (List.mem_of_getElem? (l := tables_1_1) (i := 37) rfl)) rfl
theorem aF_T_28 : (Jvm.Cond.fieldLink "ShopDesks$Tellings" (28 : Nat) "ShopDesks$Tellings" "on" "[J") ∈ aw := aw_t (List.mem_append_left _ (List.mem_of_getElem? (l := tables_1_1) (i := 38) rfl)) rfl
theorem aF_S_82 : (Jvm.Cond.fieldLink "ShopDesks$TellingSet" (82 : Nat) "ShopDesks$Tellings" "on" "[J") ∈ aw := aw_t (List.mem_append_left _ (List.mem_of_getElem? (l := tables_1_1) (i := 39) rfl)) rfl
theorem aF_T_31 : (Jvm.Cond.fieldLink "ShopDesks$Tellings" (31 : Nat) "ShopDesks$Tellings" "count" "I") ∈ aw := aw_t (List.mem_append_left _ (List.mem_of_getElem? (l := tables_1_1) (i := 40) rfl)) rfl
theorem aF_S_30 : (Jvm.Cond.fieldLink "ShopDesks$TellingSet" (30 : Nat) "ShopDesks$Tellings" "count" "I") ∈ aw := aw_t (List.mem_append_left _ (List.mem_of_getElem? (l := tables_1_1) (i := 41) rfl)) rfl
theorem aF_X_54 : (Jvm.Cond.fieldLink "ShopDesks" (54 : Nat) "ShopDesks$Tellings" "count" "I") ∈ aw := aw_t (List.mem_append_left _ (List.mem_of_getElem? (l := tables_1_1) (i := 42) rfl)) rfl
theorem aA_int : (Jvm.Cond.arrayClass Jvm.ClassFile.FieldType.int) ∈ aw := aw_t (List.mem_append_left _ (List.mem_of_getElem? (l := tables_1_1) (i := 58) rfl)) rfl
theorem aA_long : (Jvm.Cond.arrayClass Jvm.ClassFile.FieldType.long) ∈ aw := aw_t (List.mem_append_left _ (List.mem_of_getElem? (l := tables_1_1) (i := 59) rfl)) rfl
theorem aC_X_16 : (Jvm.Cond.classLink "ShopDesks" (16 : Nat) "ShopDesks$TellingSet") ∈ aw := aw_t (List.mem_append_left _ (List.mem_of_getElem? (l := tables_1_1) (i := 60) rfl)) rfl
theorem aT_S : (Jvm.Cond.instantiable "ShopDesks$TellingSet" (5 : Nat)) ∈ aw := aw_t (List.mem_append_left _ (List.mem_of_getElem? (l := tables_1_1) (i := 62) rfl)) rfl
theorem aM_X_22 : (Jvm.Cond.methodLink "ShopDesks" (22 : Nat) ({ cls := "ShopDesks$TellingSet", name := "<init>", desc := "(LShopDesks$Tellings;)V" } : Jvm.MethodName)) ∈ aw := aw_t (List.mem_append_left _ (List.mem_of_getElem? (l := tables_1_1) (i := 63) rfl)) rfl
theorem aI_S_init : (Jvm.Cond.instanceMethod ({ cls := "ShopDesks$TellingSet", name := "<init>", desc := "(LShopDesks$Tellings;)V" } : Jvm.MethodName)) ∈ aw := aw_t (List.mem_append_left _ (List.mem_of_getElem? (l := tables_1_1) (i := 64) rfl)) rfl
theorem aK_S_init : (Jvm.Cond.code ({ cls := "ShopDesks$TellingSet", name := "<init>", desc := "(LShopDesks$Tellings;)V" } : Jvm.MethodName) prog_4_method_1_code (2 : Nat) (Option.none : Option Jvm.ClassFile.FieldType)) ∈ aw := aw_t (List.mem_append_left _ (List.mem_of_getElem? (l := tables_1_1) (i := 65) rfl)) rfl
theorem aM_S_3 : (Jvm.Cond.methodLink "ShopDesks$TellingSet" (3 : Nat) ({ cls := "java/lang/Object", name := "<init>", desc := "()V" } : Jvm.MethodName)) ∈ aw := aw_t (List.mem_append_left _ (List.mem_of_getElem? (l := tables_1_1) (i := 66) rfl)) rfl
theorem aF_S_26 : (Jvm.Cond.fieldLink "ShopDesks$TellingSet" (26 : Nat) "ShopDesks$TellingSet" "tellings" "LShopDesks$Tellings;") ∈ aw := aw_t (List.mem_append_left _ (List.mem_of_getElem? (l := tables_1_1) (i := 67) rfl)) rfl
theorem aF_S_9 : (Jvm.Cond.fieldLink "ShopDesks$TellingSet" (9 : Nat) "ShopDesks$TellingSet" "order" "[I") ∈ aw := aw_t (List.mem_append_left _ (List.mem_of_getElem? (l := tables_1_1) (i := 68) rfl)) rfl
theorem aF_X_109 : (Jvm.Cond.fieldLink "ShopDesks" (109 : Nat) "ShopDesks$TellingSet" "order" "[I") ∈ aw := aw_t (List.mem_append_left _ (List.mem_of_getElem? (l := tables_1_1) (i := 69) rfl)) rfl
theorem aF_S_15 : (Jvm.Cond.fieldLink "ShopDesks$TellingSet" (15 : Nat) "ShopDesks$TellingSet" "isIn" "[Z") ∈ aw := aw_t (List.mem_append_left _ (List.mem_of_getElem? (l := tables_1_1) (i := 70) rfl)) rfl
theorem aF_S_19 : (Jvm.Cond.fieldLink "ShopDesks$TellingSet" (19 : Nat) "ShopDesks$TellingSet" "size" "I") ∈ aw := aw_t (List.mem_append_left _ (List.mem_of_getElem? (l := tables_1_1) (i := 71) rfl)) rfl
theorem aF_X_84 : (Jvm.Cond.fieldLink "ShopDesks" (84 : Nat) "ShopDesks$TellingSet" "size" "I") ∈ aw := aw_t (List.mem_append_left _ (List.mem_of_getElem? (l := tables_1_1) (i := 72) rfl)) rfl
theorem aF_S_23 : (Jvm.Cond.fieldLink "ShopDesks$TellingSet" (23 : Nat) "ShopDesks$TellingSet" "sizeAtBatch" "I") ∈ aw := aw_t (List.mem_append_left _ (List.mem_of_getElem? (l := tables_1_1) (i := 73) rfl)) rfl
theorem aA_boolean : (Jvm.Cond.arrayClass Jvm.ClassFile.FieldType.boolean) ∈ aw := aw_t (List.mem_append_left _ (List.mem_of_getElem? (l := tables_1_1) (i := 85) rfl)) rfl
theorem aC_X_33 : (Jvm.Cond.classLink "ShopDesks" (33 : Nat) "ShopDesks$Ledger") ∈ aw := aw_t (List.mem_append_left _ (List.mem_of_getElem? (l := tables_1_1) (i := 86) rfl)) rfl
theorem aT_L : (Jvm.Cond.instantiable "ShopDesks$Ledger" (5 : Nat)) ∈ aw := aw_t (List.mem_append_left _ (List.mem_of_getElem? (l := tables_1_1) (i := 87) rfl)) rfl
theorem aM_X_35 : (Jvm.Cond.methodLink "ShopDesks" (35 : Nat) ({ cls := "ShopDesks$Ledger", name := "<init>", desc := "()V" } : Jvm.MethodName)) ∈ aw := aw_t (List.mem_append_left _ (List.mem_of_getElem? (l := tables_1_1) (i := 88) rfl)) rfl
theorem aI_L_init : (Jvm.Cond.instanceMethod ({ cls := "ShopDesks$Ledger", name := "<init>", desc := "()V" } : Jvm.MethodName)) ∈ aw := aw_t (List.mem_append_left _ (List.mem_of_getElem? (l := tables_1_1) (i := 89) rfl)) rfl
theorem aK_L_init : (Jvm.Cond.code ({ cls := "ShopDesks$Ledger", name := "<init>", desc := "()V" } : Jvm.MethodName) prog_3_method_1_code (2 : Nat) (Option.none : Option Jvm.ClassFile.FieldType)) ∈ aw := aw_t (List.mem_append_left _ (List.mem_of_getElem? (l := tables_1_1) (i := 90) rfl)) rfl
theorem aM_L_3 : (Jvm.Cond.methodLink "ShopDesks$Ledger" (3 : Nat) ({ cls := "java/lang/Object", name := "<init>", desc := "()V" } : Jvm.MethodName)) ∈ aw := aw_t (List.mem_append_left _ (List.mem_of_getElem? (l := tables_1_1) (i := 91) rfl)) rfl
theorem aC_L_9 : (Jvm.Cond.classLink "ShopDesks$Ledger" (9 : Nat) "ShopDesks$Entry") ∈ aw := aw_t (List.mem_append_left _ (List.mem_of_getElem? (l := tables_1_1) (i := 92) rfl)) rfl
theorem aT_E : (Jvm.Cond.instantiable "ShopDesks$Entry" (7 : Nat)) ∈ aw := aw_t (List.mem_append_left _ (List.mem_of_getElem? (l := tables_1_1) (i := 94) rfl)) rfl
theorem aM_L_31 : (Jvm.Cond.methodLinkNest "ShopDesks$Ledger" (31 : Nat) ({ cls := "ShopDesks$Entry", name := "<init>", desc := "()V" } : Jvm.MethodName) "ShopDesks") ∈ tables_1 := List.mem_append_left _ (List.mem_of_getElem? (l := tables_1_1) (i := 95) rfl)
theorem aI_E_init : (Jvm.Cond.instanceMethod ({ cls := "ShopDesks$Entry", name := "<init>", desc := "()V" } : Jvm.MethodName)) ∈ aw := aw_t (List.mem_append_left _ (List.mem_of_getElem? (l := tables_1_1) (i := 96) rfl)) rfl
theorem aK_E_init : (Jvm.Cond.code ({ cls := "ShopDesks$Entry", name := "<init>", desc := "()V" } : Jvm.MethodName) prog_2_method_1_code (1 : Nat) (Option.none : Option Jvm.ClassFile.FieldType)) ∈ aw := aw_t (List.mem_append_left _ (List.mem_of_getElem? (l := tables_1_1) (i := 97) rfl)) rfl
theorem aM_E_3 : (Jvm.Cond.methodLink "ShopDesks$Entry" (3 : Nat) ({ cls := "java/lang/Object", name := "<init>", desc := "()V" } : Jvm.MethodName)) ∈ aw := aw_t (List.mem_append_left _ (List.mem_of_getElem? (l := tables_1_1) (i := 98) rfl)) rfl
theorem aF_E_9 : (Jvm.Cond.fieldLink "ShopDesks$Entry" (9 : Nat) "ShopDesks$Entry" "accounts" "[I") ∈ aw := aw_t (List.mem_append_left _ (List.mem_of_getElem? (l := tables_1_1) (i := 99) rfl)) rfl
theorem aF_E_15 : (Jvm.Cond.fieldLink "ShopDesks$Entry" (15 : Nat) "ShopDesks$Entry" "cents" "[J") ∈ aw := aw_t (List.mem_append_left _ (List.mem_of_getElem? (l := tables_1_1) (i := 100) rfl)) rfl
theorem aF_E_19 : (Jvm.Cond.fieldLink "ShopDesks$Entry" (19 : Nat) "ShopDesks$Entry" "rowCount" "I") ∈ aw := aw_t (List.mem_append_left _ (List.mem_of_getElem? (l := tables_1_1) (i := 101) rfl)) rfl
theorem aF_X_172 : (Jvm.Cond.fieldLink "ShopDesks" (172 : Nat) "ShopDesks$Entry" "rowCount" "I") ∈ aw := aw_t (List.mem_append_left _ (List.mem_of_getElem? (l := tables_1_1) (i := 102) rfl)) rfl
theorem aF_E_23 : (Jvm.Cond.fieldLink "ShopDesks$Entry" (23 : Nat) "ShopDesks$Entry" "day" "I") ∈ aw := aw_t (List.mem_append_left _ (List.mem_of_getElem? (l := tables_1_1) (i := 103) rfl)) rfl
theorem aF_L_32 : (Jvm.Cond.fieldLink "ShopDesks$Ledger" (32 : Nat) "ShopDesks$Entry" "day" "I") ∈ aw := aw_t (List.mem_append_left _ (List.mem_of_getElem? (l := tables_1_1) (i := 104) rfl)) rfl
theorem aF_X_183 : (Jvm.Cond.fieldLink "ShopDesks" (183 : Nat) "ShopDesks$Entry" "day" "I") ∈ aw := aw_t (List.mem_append_left _ (List.mem_of_getElem? (l := tables_1_1) (i := 105) rfl)) rfl
theorem aF_E_26 : (Jvm.Cond.fieldLink "ShopDesks$Entry" (26 : Nat) "ShopDesks$Entry" "number" "I") ∈ aw := aw_t (List.mem_append_left _ (List.mem_of_getElem? (l := tables_1_1) (i := 106) rfl)) rfl
theorem aF_L_35 : (Jvm.Cond.fieldLink "ShopDesks$Ledger" (35 : Nat) "ShopDesks$Entry" "number" "I") ∈ aw := aw_t (List.mem_append_left _ (List.mem_of_getElem? (l := tables_1_1) (i := 107) rfl)) rfl
theorem aF_E_29 : (Jvm.Cond.fieldLink "ShopDesks$Entry" (29 : Nat) "ShopDesks$Entry" "isReversed" "Z") ∈ aw := aw_t (List.mem_append_left _ (List.mem_of_getElem? (l := tables_1_1) (i := 108) rfl)) rfl
theorem aF_L_50 : (Jvm.Cond.fieldLink "ShopDesks$Ledger" (50 : Nat) "ShopDesks$Entry" "isReversed" "Z") ∈ aw := aw_t (List.mem_append_left _ (List.mem_of_getElem? (l := tables_1_1) (i := 109) rfl)) rfl
theorem aF_X_212 : (Jvm.Cond.fieldLink "ShopDesks" (212 : Nat) "ShopDesks$Entry" "isReversed" "Z") ∈ aw := aw_t (List.mem_append_left _ (List.mem_of_getElem? (l := tables_1_1) (i := 110) rfl)) rfl
theorem aF_E_33 : (Jvm.Cond.fieldLink "ShopDesks$Entry" (33 : Nat) "ShopDesks$Entry" "isReversal" "Z") ∈ aw := aw_t (List.mem_append_left _ (List.mem_of_getElem? (l := tables_1_1) (i := 111) rfl)) rfl
theorem aF_L_46 : (Jvm.Cond.fieldLink "ShopDesks$Ledger" (46 : Nat) "ShopDesks$Entry" "isReversal" "Z") ∈ aw := aw_t (List.mem_append_left _ (List.mem_of_getElem? (l := tables_1_1) (i := 112) rfl)) rfl
theorem aF_X_216 : (Jvm.Cond.fieldLink "ShopDesks" (216 : Nat) "ShopDesks$Entry" "isReversal" "Z") ∈ aw := aw_t (List.mem_append_left _ (List.mem_of_getElem? (l := tables_1_1) (i := 113) rfl)) rfl
theorem aF_L_11 : (Jvm.Cond.fieldLink "ShopDesks$Ledger" (11 : Nat) "ShopDesks$Ledger" "entries" "[LShopDesks$Entry;") ∈ aw := aw_t (List.mem_append_left _ (List.mem_of_getElem? (l := tables_1_1) (i := 129) rfl)) rfl
theorem aF_X_163 : (Jvm.Cond.fieldLink "ShopDesks" (163 : Nat) "ShopDesks$Ledger" "entries" "[LShopDesks$Entry;") ∈ aw := aw_t (List.mem_append_left _ (List.mem_of_getElem? (l := tables_1_1) (i := 130) rfl)) rfl
theorem aF_L_17 : (Jvm.Cond.fieldLink "ShopDesks$Ledger" (17 : Nat) "ShopDesks$Ledger" "entryOfNumber" "[I") ∈ aw := aw_t (List.mem_append_left _ (List.mem_of_getElem? (l := tables_1_1) (i := 131) rfl)) rfl
theorem aF_X_209 : (Jvm.Cond.fieldLink "ShopDesks" (209 : Nat) "ShopDesks$Ledger" "entryOfNumber" "[I") ∈ aw := aw_t (List.mem_append_left _ (List.mem_of_getElem? (l := tables_1_1) (i := 132) rfl)) rfl
theorem aF_L_21 : (Jvm.Cond.fieldLink "ShopDesks$Ledger" (21 : Nat) "ShopDesks$Ledger" "entryCount" "I") ∈ aw := aw_t (List.mem_append_left _ (List.mem_of_getElem? (l := tables_1_1) (i := 133) rfl)) rfl
theorem aF_X_239 : (Jvm.Cond.fieldLink "ShopDesks" (239 : Nat) "ShopDesks$Ledger" "entryCount" "I") ∈ aw := aw_t (List.mem_append_left _ (List.mem_of_getElem? (l := tables_1_1) (i := 134) rfl)) rfl
theorem aF_L_25 : (Jvm.Cond.fieldLink "ShopDesks$Ledger" (25 : Nat) "ShopDesks$Ledger" "lastNumber" "I") ∈ aw := aw_t (List.mem_append_left _ (List.mem_of_getElem? (l := tables_1_1) (i := 135) rfl)) rfl
theorem aF_X_204 : (Jvm.Cond.fieldLink "ShopDesks" (204 : Nat) "ShopDesks$Ledger" "lastNumber" "I") ∈ aw := aw_t (List.mem_append_left _ (List.mem_of_getElem? (l := tables_1_1) (i := 136) rfl)) rfl
theorem aF_L_28 : (Jvm.Cond.fieldLink "ShopDesks$Ledger" (28 : Nat) "ShopDesks$Ledger" "lastClosedMonth" "I") ∈ aw := aw_t (List.mem_append_left _ (List.mem_of_getElem? (l := tables_1_1) (i := 137) rfl)) rfl
theorem aF_X_201 : (Jvm.Cond.fieldLink "ShopDesks" (201 : Nat) "ShopDesks$Ledger" "lastClosedMonth" "I") ∈ aw := aw_t (List.mem_append_left _ (List.mem_of_getElem? (l := tables_1_1) (i := 138) rfl)) rfl
theorem aF_X_12 : (Jvm.Cond.fieldLink "ShopDesks" (12 : Nat) "ShopDesks" "tellings" "LShopDesks$Tellings;") ∈ aw := aw_t (List.mem_append_left _ (List.mem_of_getElem? (l := tables_1_1) (i := 150) rfl)) rfl
theorem aF_X_18 : (Jvm.Cond.fieldLink "ShopDesks" (18 : Nat) "ShopDesks" "sets" "[LShopDesks$TellingSet;") ∈ aw := aw_t (List.mem_append_left _ (List.mem_of_getElem? (l := tables_1_1) (i := 151) rfl)) rfl
theorem aF_X_25 : (Jvm.Cond.fieldLink "ShopDesks" (25 : Nat) "ShopDesks" "setCount" "I") ∈ aw := aw_t (List.mem_append_left _ (List.mem_of_getElem? (l := tables_1_1) (i := 152) rfl)) rfl
theorem aF_X_29 : (Jvm.Cond.fieldLink "ShopDesks" (29 : Nat) "ShopDesks" "rights" "[Z") ∈ aw := aw_t (List.mem_append_left _ (List.mem_of_getElem? (l := tables_1_1) (i := 153) rfl)) rfl
theorem aF_X_36 : (Jvm.Cond.fieldLink "ShopDesks" (36 : Nat) "ShopDesks" "ledger" "LShopDesks$Ledger;") ∈ aw := aw_t (List.mem_append_left _ (List.mem_of_getElem? (l := tables_1_1) (i := 154) rfl)) rfl
theorem aM_W_83 : (Jvm.Cond.methodLink "ShopDesksLaw" (83 : Nat) ({ cls := "ShopDesksLaw", name := "tell", desc := "(LShopDesks;IJIIJJ[J)I" } : Jvm.MethodName)) ∈ aw := aw_t (List.mem_append_left _ (List.mem_of_getElem? (l := tables_1_1) (i := 166) rfl)) rfl
theorem aS_W_tell : (Jvm.Cond.static ({ cls := "ShopDesksLaw", name := "tell", desc := "(LShopDesks;IJIIJJ[J)I" } : Jvm.MethodName)) ∈ aw := aw_t (List.mem_append_left _ (List.mem_of_getElem? (l := tables_1_1) (i := 167) rfl)) rfl
theorem aK_W_tell : (Jvm.Cond.codeWith ({ cls := "ShopDesksLaw", name := "tell", desc := "(LShopDesks;IJIIJJ[J)I" } : Jvm.MethodName) method_3_code (12 : Nat) (Option.some Jvm.ClassFile.FieldType.int) [((0 : Nat), (19 : Nat), (22 : Nat), (13 : Nat)), ((0 : Nat), (19 : Nat), (26 : Nat), (15 : Nat)), ((0 : Nat), (19 : Nat), (30 : Nat), (17 : Nat))]) ∈ aw := aw_t (List.mem_append_left _ (List.mem_of_getElem? (l := tables_1_1) (i := 168) rfl)) rfl
theorem aC_W_13 : (Jvm.Cond.classLink "ShopDesksLaw" (13 : Nat) "java/lang/IndexOutOfBoundsException") ∈ aw := aw_t (List.mem_append_left _ (List.mem_of_getElem? (l := tables_1_1) (i := 169) rfl)) rfl
theorem aC_W_15 : (Jvm.Cond.classLink "ShopDesksLaw" (15 : Nat) "java/lang/IllegalArgumentException") ∈ aw := aw_t (List.mem_append_left _ (List.mem_of_getElem? (l := tables_1_1) (i := 170) rfl)) rfl
theorem aC_W_17 : (Jvm.Cond.classLink "ShopDesksLaw" (17 : Nat) "java/lang/IllegalStateException") ∈ aw := aw_t (List.mem_append_left _ (List.mem_of_getElem? (l := tables_1_1) (i := 171) rfl)) rfl
theorem aM_W_7 : (Jvm.Cond.methodLink "ShopDesksLaw" (7 : Nat) ({ cls := "ShopDesks", name := "tell", desc := "(IJIIJJ)I" } : Jvm.MethodName)) ∈ aw := aw_t (List.mem_append_left _ (List.mem_of_getElem? (l := tables_1_1) (i := 172) rfl)) rfl
theorem aI_X_tell : (Jvm.Cond.instanceMethod ({ cls := "ShopDesks", name := "tell", desc := "(IJIIJJ)I" } : Jvm.MethodName)) ∈ aw := aw_t (List.mem_append_left _ (List.mem_of_getElem? (l := tables_1_1) (i := 173) rfl)) rfl
theorem aV_X_tell : (Jvm.Cond.selects "ShopDesks" ({ cls := "ShopDesks", name := "tell", desc := "(IJIIJJ)I" } : Jvm.MethodName) ({ cls := "ShopDesks", name := "tell", desc := "(IJIIJJ)I" } : Jvm.MethodName)) ∈ aw := aw_t (List.mem_append_left _ (List.mem_of_getElem? (l := tables_1_1) (i := 174) rfl)) rfl
theorem aK_X_tell : (Jvm.Cond.code ({ cls := "ShopDesks", name := "tell", desc := "(IJIIJJ)I" } : Jvm.MethodName) prog_1_method_2_code (10 : Nat) (Option.some Jvm.ClassFile.FieldType.int)) ∈ aw := aw_t (List.mem_append_left _ (List.mem_of_getElem? (l := tables_1_1) (i := 175) rfl)) rfl
theorem aM_X_40 : (Jvm.Cond.methodLink "ShopDesks" (40 : Nat) ({ cls := "ShopDesks", name := "needTeller", desc := "(I)V" } : Jvm.MethodName)) ∈ aw := aw_t (List.mem_append_left _ (List.mem_of_getElem? (l := tables_1_1) (i := 176) rfl)) rfl
theorem aS_X_needTeller : (Jvm.Cond.static ({ cls := "ShopDesks", name := "needTeller", desc := "(I)V" } : Jvm.MethodName)) ∈ aw := aw_t (List.mem_append_left _ (List.mem_of_getElem? (l := tables_1_1) (i := 177) rfl)) rfl
theorem aK_X_needTeller : (Jvm.Cond.code ({ cls := "ShopDesks", name := "needTeller", desc := "(I)V" } : Jvm.MethodName) prog_1_method_19_code (1 : Nat) (Option.none : Option Jvm.ClassFile.FieldType)) ∈ aw := aw_t (List.mem_append_left _ (List.mem_of_getElem? (l := tables_1_1) (i := 178) rfl)) rfl
theorem aC_X_100 : (Jvm.Cond.classLink "ShopDesks" (100 : Nat) "java/lang/IndexOutOfBoundsException") ∈ aw := aw_t (List.mem_append_left _ (List.mem_of_getElem? (l := tables_1_1) (i := 179) rfl)) rfl
theorem aM_X_104 : (Jvm.Cond.methodLink "ShopDesks" (104 : Nat) ({ cls := "java/lang/IndexOutOfBoundsException", name := "<init>", desc := "(Ljava/lang/String;)V" } : Jvm.MethodName)) ∈ aw := aw_t (List.mem_append_left _ (List.mem_of_getElem? (l := tables_1_1) (i := 221) rfl)) rfl
theorem aA_byte : (Jvm.Cond.arrayClass Jvm.ClassFile.FieldType.byte) ∈ aw := aw_t (List.mem_append_right _ (List.mem_append_left _ (List.mem_of_getElem? (l := tables_1_2) (i := 6) rfl))) rfl
theorem aM_X_44 : (Jvm.Cond.methodLink "ShopDesks" (44 : Nat) ({ cls := "ShopDesks", name := "needThing", desc := "(I)V" } : Jvm.MethodName)) ∈ aw := aw_t (List.mem_append_right _ (List.mem_append_left _ (List.mem_of_getElem? (l := tables_1_2) (i := 7) rfl))) rfl
theorem aS_X_needThing : (Jvm.Cond.static ({ cls := "ShopDesks", name := "needThing", desc := "(I)V" } : Jvm.MethodName)) ∈ aw := aw_t (List.mem_append_right _ (List.mem_append_left _ (List.mem_of_getElem? (l := tables_1_2) (i := 8) rfl))) rfl
theorem aK_X_needThing : (Jvm.Cond.code ({ cls := "ShopDesks", name := "needThing", desc := "(I)V" } : Jvm.MethodName) prog_1_method_20_code (1 : Nat) (Option.none : Option Jvm.ClassFile.FieldType)) ∈ aw := aw_t (List.mem_append_right _ (List.mem_append_left _ (List.mem_of_getElem? (l := tables_1_2) (i := 9) rfl))) rfl
theorem aM_X_47 : (Jvm.Cond.methodLink "ShopDesks" (47 : Nat) ({ cls := "ShopDesks", name := "needKind", desc := "(I)V" } : Jvm.MethodName)) ∈ aw := aw_t (List.mem_append_right _ (List.mem_append_left _ (List.mem_of_getElem? (l := tables_1_2) (i := 11) rfl))) rfl
theorem aS_X_needKind : (Jvm.Cond.static ({ cls := "ShopDesks", name := "needKind", desc := "(I)V" } : Jvm.MethodName)) ∈ aw := aw_t (List.mem_append_right _ (List.mem_append_left _ (List.mem_of_getElem? (l := tables_1_2) (i := 12) rfl))) rfl
theorem aK_X_needKind : (Jvm.Cond.code ({ cls := "ShopDesks", name := "needKind", desc := "(I)V" } : Jvm.MethodName) prog_1_method_21_code (1 : Nat) (Option.none : Option Jvm.ClassFile.FieldType)) ∈ aw := aw_t (List.mem_append_right _ (List.mem_append_left _ (List.mem_of_getElem? (l := tables_1_2) (i := 13) rfl))) rfl
theorem aC_X_91 : (Jvm.Cond.classLink "ShopDesks" (91 : Nat) "java/lang/IllegalArgumentException") ∈ aw := aw_t (List.mem_append_right _ (List.mem_append_left _ (List.mem_of_getElem? (l := tables_1_2) (i := 14) rfl))) rfl
theorem aM_X_95 : (Jvm.Cond.methodLink "ShopDesks" (95 : Nat) ({ cls := "java/lang/IllegalArgumentException", name := "<init>", desc := "(Ljava/lang/String;)V" } : Jvm.MethodName)) ∈ aw := aw_t (List.mem_append_right _ (List.mem_append_left _ (List.mem_of_getElem? (l := tables_1_2) (i := 24) rfl))) rfl
theorem aM_X_50 : (Jvm.Cond.methodLink "ShopDesks" (50 : Nat) ({ cls := "ShopDesks$Tellings", name := "isTold", desc := "(IJ)Z" } : Jvm.MethodName)) ∈ aw := aw_t (List.mem_append_right _ (List.mem_append_left _ (List.mem_of_getElem? (l := tables_1_2) (i := 30) rfl))) rfl
theorem aI_T_isTold : (Jvm.Cond.instanceMethod ({ cls := "ShopDesks$Tellings", name := "isTold", desc := "(IJ)Z" } : Jvm.MethodName)) ∈ aw := aw_t (List.mem_append_right _ (List.mem_append_left _ (List.mem_of_getElem? (l := tables_1_2) (i := 31) rfl))) rfl
theorem aV_T_isTold : (Jvm.Cond.selects "ShopDesks$Tellings" ({ cls := "ShopDesks$Tellings", name := "isTold", desc := "(IJ)Z" } : Jvm.MethodName) ({ cls := "ShopDesks$Tellings", name := "isTold", desc := "(IJ)Z" } : Jvm.MethodName)) ∈ aw := aw_t (List.mem_append_right _ (List.mem_append_left _ (List.mem_of_getElem? (l := tables_1_2) (i := 32) rfl))) rfl
theorem aK_T_isTold : (Jvm.Cond.code ({ cls := "ShopDesks$Tellings", name := "isTold", desc := "(IJ)Z" } : Jvm.MethodName) prog_5_method_2_code (5 : Nat) (Option.some Jvm.ClassFile.FieldType.boolean)) ∈ aw := aw_t (List.mem_append_right _ (List.mem_append_left _ (List.mem_of_getElem? (l := tables_1_2) (i := 33) rfl))) rfl
theorem aC_X_57 : (Jvm.Cond.classLink "ShopDesks" (57 : Nat) "java/lang/IllegalStateException") ∈ aw := aw_t (List.mem_append_right _ (List.mem_append_left _ (List.mem_of_getElem? (l := tables_1_2) (i := 34) rfl))) rfl
theorem aM_X_61 : (Jvm.Cond.methodLink "ShopDesks" (61 : Nat) ({ cls := "java/lang/IllegalStateException", name := "<init>", desc := "(Ljava/lang/String;)V" } : Jvm.MethodName)) ∈ aw := aw_t (List.mem_append_right _ (List.mem_append_left _ (List.mem_of_getElem? (l := tables_1_2) (i := 44) rfl))) rfl
theorem aM_X_64 : (Jvm.Cond.methodLink "ShopDesks" (64 : Nat) ({ cls := "ShopDesks$Tellings", name := "append", desc := "(IJIIJJ)V" } : Jvm.MethodName)) ∈ aw := aw_t (List.mem_append_right _ (List.mem_append_left _ (List.mem_of_getElem? (l := tables_1_2) (i := 50) rfl))) rfl
theorem aI_T_append : (Jvm.Cond.instanceMethod ({ cls := "ShopDesks$Tellings", name := "append", desc := "(IJIIJJ)V" } : Jvm.MethodName)) ∈ aw := aw_t (List.mem_append_right _ (List.mem_append_left _ (List.mem_of_getElem? (l := tables_1_2) (i := 51) rfl))) rfl
theorem aV_T_append : (Jvm.Cond.selects "ShopDesks$Tellings" ({ cls := "ShopDesks$Tellings", name := "append", desc := "(IJIIJJ)V" } : Jvm.MethodName) ({ cls := "ShopDesks$Tellings", name := "append", desc := "(IJIIJJ)V" } : Jvm.MethodName)) ∈ aw := aw_t (List.mem_append_right _ (List.mem_append_left _ (List.mem_of_getElem? (l := tables_1_2) (i := 52) rfl))) rfl
theorem aK_T_append : (Jvm.Cond.code ({ cls := "ShopDesks$Tellings", name := "append", desc := "(IJIIJJ)V" } : Jvm.MethodName) prog_5_method_3_code (10 : Nat) (Option.none : Option Jvm.ClassFile.FieldType)) ∈ aw := aw_t (List.mem_append_right _ (List.mem_append_left _ (List.mem_of_getElem? (l := tables_1_2) (i := 53) rfl))) rfl
theorem aM_W_89 : (Jvm.Cond.methodLink "ShopDesksLaw" (89 : Nat) ({ cls := "ShopDesksLaw", name := "set", desc := "(LShopDesks;I[J)I" } : Jvm.MethodName)) ∈ aw := aw_t (List.mem_append_right _ (List.mem_append_left _ (List.mem_of_getElem? (l := tables_1_2) (i := 54) rfl))) rfl
theorem aS_W_set : (Jvm.Cond.static ({ cls := "ShopDesksLaw", name := "set", desc := "(LShopDesks;I[J)I" } : Jvm.MethodName)) ∈ aw := aw_t (List.mem_append_right _ (List.mem_append_left _ (List.mem_of_getElem? (l := tables_1_2) (i := 55) rfl))) rfl
theorem aK_W_set : (Jvm.Cond.codeWith ({ cls := "ShopDesksLaw", name := "set", desc := "(LShopDesks;I[J)I" } : Jvm.MethodName) method_4_code (4 : Nat) (Option.some Jvm.ClassFile.FieldType.int) [((0 : Nat), (9 : Nat), (12 : Nat), (13 : Nat)), ((0 : Nat), (9 : Nat), (15 : Nat), (17 : Nat))]) ∈ aw := aw_t (List.mem_append_right _ (List.mem_append_left _ (List.mem_of_getElem? (l := tables_1_2) (i := 56) rfl))) rfl
theorem aM_W_19 : (Jvm.Cond.methodLink "ShopDesksLaw" (19 : Nat) ({ cls := "ShopDesks", name := "set", desc := "(I)I" } : Jvm.MethodName)) ∈ aw := aw_t (List.mem_append_right _ (List.mem_append_left _ (List.mem_of_getElem? (l := tables_1_2) (i := 57) rfl))) rfl
theorem aI_X_set : (Jvm.Cond.instanceMethod ({ cls := "ShopDesks", name := "set", desc := "(I)I" } : Jvm.MethodName)) ∈ aw := aw_t (List.mem_append_right _ (List.mem_append_left _ (List.mem_of_getElem? (l := tables_1_2) (i := 58) rfl))) rfl
theorem aV_X_set : (Jvm.Cond.selects "ShopDesks" ({ cls := "ShopDesks", name := "set", desc := "(I)I" } : Jvm.MethodName) ({ cls := "ShopDesks", name := "set", desc := "(I)I" } : Jvm.MethodName)) ∈ aw := aw_t (List.mem_append_right _ (List.mem_append_left _ (List.mem_of_getElem? (l := tables_1_2) (i := 59) rfl))) rfl
theorem aK_X_set : (Jvm.Cond.code ({ cls := "ShopDesks", name := "set", desc := "(I)I" } : Jvm.MethodName) prog_1_method_3_code (2 : Nat) (Option.some Jvm.ClassFile.FieldType.int)) ∈ aw := aw_t (List.mem_append_right _ (List.mem_append_left _ (List.mem_of_getElem? (l := tables_1_2) (i := 60) rfl))) rfl
theorem aM_X_70 : (Jvm.Cond.methodLink "ShopDesks" (70 : Nat) ({ cls := "ShopDesks$TellingSet", name := "takeAllOf", desc := "(I)V" } : Jvm.MethodName)) ∈ aw := aw_t (List.mem_append_right _ (List.mem_append_left _ (List.mem_of_getElem? (l := tables_1_2) (i := 62) rfl))) rfl
theorem aI_S_takeAllOf : (Jvm.Cond.instanceMethod ({ cls := "ShopDesks$TellingSet", name := "takeAllOf", desc := "(I)V" } : Jvm.MethodName)) ∈ aw := aw_t (List.mem_append_right _ (List.mem_append_left _ (List.mem_of_getElem? (l := tables_1_2) (i := 63) rfl))) rfl
theorem aV_S_takeAllOf : (Jvm.Cond.selects "ShopDesks$TellingSet" ({ cls := "ShopDesks$TellingSet", name := "takeAllOf", desc := "(I)V" } : Jvm.MethodName) ({ cls := "ShopDesks$TellingSet", name := "takeAllOf", desc := "(I)V" } : Jvm.MethodName)) ∈ aw := aw_t (List.mem_append_right _ (List.mem_append_left _ (List.mem_of_getElem? (l := tables_1_2) (i := 64) rfl))) rfl
theorem aK_S_takeAllOf : (Jvm.Cond.code ({ cls := "ShopDesks$TellingSet", name := "takeAllOf", desc := "(I)V" } : Jvm.MethodName) prog_4_method_2_code (3 : Nat) (Option.none : Option Jvm.ClassFile.FieldType)) ∈ aw := aw_t (List.mem_append_right _ (List.mem_append_left _ (List.mem_of_getElem? (l := tables_1_2) (i := 65) rfl))) rfl
theorem aM_S_38 : (Jvm.Cond.methodLink "ShopDesks$TellingSet" (38 : Nat) ({ cls := "ShopDesks$TellingSet", name := "insertByNumber", desc := "(I)V" } : Jvm.MethodName)) ∈ aw := aw_t (List.mem_append_right _ (List.mem_append_left _ (List.mem_of_getElem? (l := tables_1_2) (i := 66) rfl))) rfl
theorem aI_S_insertByNumber : (Jvm.Cond.instanceMethod ({ cls := "ShopDesks$TellingSet", name := "insertByNumber", desc := "(I)V" } : Jvm.MethodName)) ∈ aw := aw_t (List.mem_append_right _ (List.mem_append_left _ (List.mem_of_getElem? (l := tables_1_2) (i := 68) rfl))) rfl
theorem aK_S_insertByNumber : (Jvm.Cond.code ({ cls := "ShopDesks$TellingSet", name := "insertByNumber", desc := "(I)V" } : Jvm.MethodName) prog_4_method_3_code (3 : Nat) (Option.none : Option Jvm.ClassFile.FieldType)) ∈ aw := aw_t (List.mem_append_right _ (List.mem_append_left _ (List.mem_of_getElem? (l := tables_1_2) (i := 69) rfl))) rfl
theorem aM_W_93 : (Jvm.Cond.methodLink "ShopDesksLaw" (93 : Nat) ({ cls := "ShopDesksLaw", name := "join", desc := "(LShopDesks;II[J)I" } : Jvm.MethodName)) ∈ aw := aw_t (List.mem_append_right _ (List.mem_append_left _ (List.mem_of_getElem? (l := tables_1_2) (i := 70) rfl))) rfl
theorem aS_W_join : (Jvm.Cond.static ({ cls := "ShopDesksLaw", name := "join", desc := "(LShopDesks;II[J)I" } : Jvm.MethodName)) ∈ aw := aw_t (List.mem_append_right _ (List.mem_append_left _ (List.mem_of_getElem? (l := tables_1_2) (i := 71) rfl))) rfl
theorem aK_W_join : (Jvm.Cond.codeWith ({ cls := "ShopDesksLaw", name := "join", desc := "(LShopDesks;II[J)I" } : Jvm.MethodName) method_5_code (5 : Nat) (Option.some Jvm.ClassFile.FieldType.int) [((0 : Nat), (10 : Nat), (13 : Nat), (13 : Nat))]) ∈ aw := aw_t (List.mem_append_right _ (List.mem_append_left _ (List.mem_of_getElem? (l := tables_1_2) (i := 72) rfl))) rfl
theorem aM_W_23 : (Jvm.Cond.methodLink "ShopDesksLaw" (23 : Nat) ({ cls := "ShopDesks", name := "join", desc := "(II)I" } : Jvm.MethodName)) ∈ aw := aw_t (List.mem_append_right _ (List.mem_append_left _ (List.mem_of_getElem? (l := tables_1_2) (i := 73) rfl))) rfl
theorem aI_X_join : (Jvm.Cond.instanceMethod ({ cls := "ShopDesks", name := "join", desc := "(II)I" } : Jvm.MethodName)) ∈ aw := aw_t (List.mem_append_right _ (List.mem_append_left _ (List.mem_of_getElem? (l := tables_1_2) (i := 74) rfl))) rfl
theorem aV_X_join : (Jvm.Cond.selects "ShopDesks" ({ cls := "ShopDesks", name := "join", desc := "(II)I" } : Jvm.MethodName) ({ cls := "ShopDesks", name := "join", desc := "(II)I" } : Jvm.MethodName)) ∈ aw := aw_t (List.mem_append_right _ (List.mem_append_left _ (List.mem_of_getElem? (l := tables_1_2) (i := 75) rfl))) rfl
theorem aK_X_join : (Jvm.Cond.code ({ cls := "ShopDesks", name := "join", desc := "(II)I" } : Jvm.MethodName) prog_1_method_4_code (3 : Nat) (Option.some Jvm.ClassFile.FieldType.int)) ∈ aw := aw_t (List.mem_append_right _ (List.mem_append_left _ (List.mem_of_getElem? (l := tables_1_2) (i := 76) rfl))) rfl
theorem aM_X_73 : (Jvm.Cond.methodLink "ShopDesks" (73 : Nat) ({ cls := "ShopDesks", name := "needSet", desc := "(I)V" } : Jvm.MethodName)) ∈ aw := aw_t (List.mem_append_right _ (List.mem_append_left _ (List.mem_of_getElem? (l := tables_1_2) (i := 77) rfl))) rfl
theorem aI_X_needSet : (Jvm.Cond.instanceMethod ({ cls := "ShopDesks", name := "needSet", desc := "(I)V" } : Jvm.MethodName)) ∈ aw := aw_t (List.mem_append_right _ (List.mem_append_left _ (List.mem_of_getElem? (l := tables_1_2) (i := 79) rfl))) rfl
theorem aK_X_needSet : (Jvm.Cond.code ({ cls := "ShopDesks", name := "needSet", desc := "(I)V" } : Jvm.MethodName) prog_1_method_25_code (2 : Nat) (Option.none : Option Jvm.ClassFile.FieldType)) ∈ aw := aw_t (List.mem_append_right _ (List.mem_append_left _ (List.mem_of_getElem? (l := tables_1_2) (i := 80) rfl))) rfl
theorem aM_X_76 : (Jvm.Cond.methodLink "ShopDesks" (76 : Nat) ({ cls := "ShopDesks$TellingSet", name := "takeMissing", desc := "(LShopDesks$TellingSet;)I" } : Jvm.MethodName)) ∈ aw := aw_t (List.mem_append_right _ (List.mem_append_left _ (List.mem_of_getElem? (l := tables_1_2) (i := 82) rfl))) rfl
theorem aI_S_takeMissing : (Jvm.Cond.instanceMethod ({ cls := "ShopDesks$TellingSet", name := "takeMissing", desc := "(LShopDesks$TellingSet;)I" } : Jvm.MethodName)) ∈ aw := aw_t (List.mem_append_right _ (List.mem_append_left _ (List.mem_of_getElem? (l := tables_1_2) (i := 83) rfl))) rfl
theorem aV_S_takeMissing : (Jvm.Cond.selects "ShopDesks$TellingSet" ({ cls := "ShopDesks$TellingSet", name := "takeMissing", desc := "(LShopDesks$TellingSet;)I" } : Jvm.MethodName) ({ cls := "ShopDesks$TellingSet", name := "takeMissing", desc := "(LShopDesks$TellingSet;)I" } : Jvm.MethodName)) ∈ aw := aw_t (List.mem_append_right _ (List.mem_append_left _ (List.mem_of_getElem? (l := tables_1_2) (i := 84) rfl))) rfl
theorem aK_S_takeMissing : (Jvm.Cond.code ({ cls := "ShopDesks$TellingSet", name := "takeMissing", desc := "(LShopDesks$TellingSet;)I" } : Jvm.MethodName) prog_4_method_4_code (5 : Nat) (Option.some Jvm.ClassFile.FieldType.int)) ∈ aw := aw_t (List.mem_append_right _ (List.mem_append_left _ (List.mem_of_getElem? (l := tables_1_2) (i := 85) rfl))) rfl
theorem aM_W_97 : (Jvm.Cond.methodLink "ShopDesksLaw" (97 : Nat) ({ cls := "ShopDesksLaw", name := "equal", desc := "(LShopDesks;II[J)I" } : Jvm.MethodName)) ∈ aw := aw_t (List.mem_append_right _ (List.mem_append_left _ (List.mem_of_getElem? (l := tables_1_2) (i := 86) rfl))) rfl
theorem aS_W_equal : (Jvm.Cond.static ({ cls := "ShopDesksLaw", name := "equal", desc := "(LShopDesks;II[J)I" } : Jvm.MethodName)) ∈ aw := aw_t (List.mem_append_right _ (List.mem_append_left _ (List.mem_of_getElem? (l := tables_1_2) (i := 87) rfl))) rfl
theorem aK_W_equal : (Jvm.Cond.codeWith ({ cls := "ShopDesksLaw", name := "equal", desc := "(LShopDesks;II[J)I" } : Jvm.MethodName) method_6_code (5 : Nat) (Option.some Jvm.ClassFile.FieldType.int) [((0 : Nat), (17 : Nat), (20 : Nat), (13 : Nat))]) ∈ aw := aw_t (List.mem_append_right _ (List.mem_append_left _ (List.mem_of_getElem? (l := tables_1_2) (i := 88) rfl))) rfl
theorem aM_W_27 : (Jvm.Cond.methodLink "ShopDesksLaw" (27 : Nat) ({ cls := "ShopDesks", name := "equal", desc := "(II)Z" } : Jvm.MethodName)) ∈ aw := aw_t (List.mem_append_right _ (List.mem_append_left _ (List.mem_of_getElem? (l := tables_1_2) (i := 89) rfl))) rfl
theorem aI_X_equal : (Jvm.Cond.instanceMethod ({ cls := "ShopDesks", name := "equal", desc := "(II)Z" } : Jvm.MethodName)) ∈ aw := aw_t (List.mem_append_right _ (List.mem_append_left _ (List.mem_of_getElem? (l := tables_1_2) (i := 90) rfl))) rfl
theorem aV_X_equal : (Jvm.Cond.selects "ShopDesks" ({ cls := "ShopDesks", name := "equal", desc := "(II)Z" } : Jvm.MethodName) ({ cls := "ShopDesks", name := "equal", desc := "(II)Z" } : Jvm.MethodName)) ∈ aw := aw_t (List.mem_append_right _ (List.mem_append_left _ (List.mem_of_getElem? (l := tables_1_2) (i := 91) rfl))) rfl
theorem aK_X_equal : (Jvm.Cond.code ({ cls := "ShopDesks", name := "equal", desc := "(II)Z" } : Jvm.MethodName) prog_1_method_5_code (3 : Nat) (Option.some Jvm.ClassFile.FieldType.boolean)) ∈ aw := aw_t (List.mem_append_right _ (List.mem_append_left _ (List.mem_of_getElem? (l := tables_1_2) (i := 92) rfl))) rfl
theorem aM_X_80 : (Jvm.Cond.methodLink "ShopDesks" (80 : Nat) ({ cls := "ShopDesks$TellingSet", name := "hasSameAs", desc := "(LShopDesks$TellingSet;)Z" } : Jvm.MethodName)) ∈ aw := aw_t (List.mem_append_right _ (List.mem_append_left _ (List.mem_of_getElem? (l := tables_1_2) (i := 93) rfl))) rfl
theorem aI_S_hasSameAs : (Jvm.Cond.instanceMethod ({ cls := "ShopDesks$TellingSet", name := "hasSameAs", desc := "(LShopDesks$TellingSet;)Z" } : Jvm.MethodName)) ∈ aw := aw_t (List.mem_append_right _ (List.mem_append_left _ (List.mem_of_getElem? (l := tables_1_2) (i := 94) rfl))) rfl
theorem aV_S_hasSameAs : (Jvm.Cond.selects "ShopDesks$TellingSet" ({ cls := "ShopDesks$TellingSet", name := "hasSameAs", desc := "(LShopDesks$TellingSet;)Z" } : Jvm.MethodName) ({ cls := "ShopDesks$TellingSet", name := "hasSameAs", desc := "(LShopDesks$TellingSet;)Z" } : Jvm.MethodName)) ∈ aw := aw_t (List.mem_append_right _ (List.mem_append_left _ (List.mem_of_getElem? (l := tables_1_2) (i := 95) rfl))) rfl
theorem aK_S_hasSameAs : (Jvm.Cond.code ({ cls := "ShopDesks$TellingSet", name := "hasSameAs", desc := "(LShopDesks$TellingSet;)Z" } : Jvm.MethodName) prog_4_method_5_code (3 : Nat) (Option.some Jvm.ClassFile.FieldType.boolean)) ∈ aw := aw_t (List.mem_append_right _ (List.mem_append_left _ (List.mem_of_getElem? (l := tables_1_2) (i := 96) rfl))) rfl
theorem aM_W_100 : (Jvm.Cond.methodLink "ShopDesksLaw" (100 : Nat) ({ cls := "ShopDesksLaw", name := "at", desc := "(LShopDesks;IIIJ[J)I" } : Jvm.MethodName)) ∈ aw := aw_t (List.mem_append_right _ (List.mem_append_left _ (List.mem_of_getElem? (l := tables_1_2) (i := 97) rfl))) rfl
theorem aS_W_at : (Jvm.Cond.static ({ cls := "ShopDesksLaw", name := "at", desc := "(LShopDesks;IIIJ[J)I" } : Jvm.MethodName)) ∈ aw := aw_t (List.mem_append_right _ (List.mem_append_left _ (List.mem_of_getElem? (l := tables_1_2) (i := 98) rfl))) rfl
theorem aK_W_at : (Jvm.Cond.codeWith ({ cls := "ShopDesksLaw", name := "at", desc := "(LShopDesks;IIIJ[J)I" } : Jvm.MethodName) method_7_code (8 : Nat) (Option.some Jvm.ClassFile.FieldType.int) [((0 : Nat), (13 : Nat), (16 : Nat), (13 : Nat)), ((0 : Nat), (13 : Nat), (20 : Nat), (15 : Nat))]) ∈ aw := aw_t (List.mem_append_right _ (List.mem_append_left _ (List.mem_of_getElem? (l := tables_1_2) (i := 99) rfl))) rfl
theorem aM_W_31 : (Jvm.Cond.methodLink "ShopDesksLaw" (31 : Nat) ({ cls := "ShopDesks", name := "at", desc := "(IIIJ)J" } : Jvm.MethodName)) ∈ aw := aw_t (List.mem_append_right _ (List.mem_append_left _ (List.mem_of_getElem? (l := tables_1_2) (i := 100) rfl))) rfl
theorem aI_X_at : (Jvm.Cond.instanceMethod ({ cls := "ShopDesks", name := "at", desc := "(IIIJ)J" } : Jvm.MethodName)) ∈ aw := aw_t (List.mem_append_right _ (List.mem_append_left _ (List.mem_of_getElem? (l := tables_1_2) (i := 101) rfl))) rfl
theorem aV_X_at : (Jvm.Cond.selects "ShopDesks" ({ cls := "ShopDesks", name := "at", desc := "(IIIJ)J" } : Jvm.MethodName) ({ cls := "ShopDesks", name := "at", desc := "(IIIJ)J" } : Jvm.MethodName)) ∈ aw := aw_t (List.mem_append_right _ (List.mem_append_left _ (List.mem_of_getElem? (l := tables_1_2) (i := 102) rfl))) rfl
theorem aK_X_at : (Jvm.Cond.code ({ cls := "ShopDesks", name := "at", desc := "(IIIJ)J" } : Jvm.MethodName) prog_1_method_6_code (6 : Nat) (Option.some Jvm.ClassFile.FieldType.long)) ∈ aw := aw_t (List.mem_append_right _ (List.mem_append_left _ (List.mem_of_getElem? (l := tables_1_2) (i := 103) rfl))) rfl
theorem aM_X_87 : (Jvm.Cond.methodLink "ShopDesks" (87 : Nat) ({ cls := "ShopDesks$TellingSet", name := "known", desc := "(IIJI)J" } : Jvm.MethodName)) ∈ aw := aw_t (List.mem_append_right _ (List.mem_append_left _ (List.mem_of_getElem? (l := tables_1_2) (i := 104) rfl))) rfl
theorem aI_S_known : (Jvm.Cond.instanceMethod ({ cls := "ShopDesks$TellingSet", name := "known", desc := "(IIJI)J" } : Jvm.MethodName)) ∈ aw := aw_t (List.mem_append_right _ (List.mem_append_left _ (List.mem_of_getElem? (l := tables_1_2) (i := 105) rfl))) rfl
theorem aV_S_known : (Jvm.Cond.selects "ShopDesks$TellingSet" ({ cls := "ShopDesks$TellingSet", name := "known", desc := "(IIJI)J" } : Jvm.MethodName) ({ cls := "ShopDesks$TellingSet", name := "known", desc := "(IIJI)J" } : Jvm.MethodName)) ∈ aw := aw_t (List.mem_append_right _ (List.mem_append_left _ (List.mem_of_getElem? (l := tables_1_2) (i := 106) rfl))) rfl
theorem aK_S_known : (Jvm.Cond.code ({ cls := "ShopDesks$TellingSet", name := "known", desc := "(IIJI)J" } : Jvm.MethodName) prog_4_method_9_code (6 : Nat) (Option.some Jvm.ClassFile.FieldType.long)) ∈ aw := aw_t (List.mem_append_right _ (List.mem_append_left _ (List.mem_of_getElem? (l := tables_1_2) (i := 107) rfl))) rfl
theorem aM_S_46 : (Jvm.Cond.methodLink "ShopDesks$TellingSet" (46 : Nat) ({ cls := "ShopDesks$TellingSet", name := "sumOfCounts", desc := "(IJI)J" } : Jvm.MethodName)) ∈ aw := aw_t (List.mem_append_right _ (List.mem_append_left _ (List.mem_of_getElem? (l := tables_1_2) (i := 108) rfl))) rfl
theorem aI_S_sumOfCounts : (Jvm.Cond.instanceMethod ({ cls := "ShopDesks$TellingSet", name := "sumOfCounts", desc := "(IJI)J" } : Jvm.MethodName)) ∈ aw := aw_t (List.mem_append_right _ (List.mem_append_left _ (List.mem_of_getElem? (l := tables_1_2) (i := 110) rfl))) rfl
theorem aK_S_sumOfCounts : (Jvm.Cond.code ({ cls := "ShopDesks$TellingSet", name := "sumOfCounts", desc := "(IJI)J" } : Jvm.MethodName) prog_4_method_11_code (8 : Nat) (Option.some Jvm.ClassFile.FieldType.long)) ∈ aw := aw_t (List.mem_append_right _ (List.mem_append_left _ (List.mem_of_getElem? (l := tables_1_2) (i := 111) rfl))) rfl
theorem aM_S_71 : (Jvm.Cond.methodLink "ShopDesks$TellingSet" (71 : Nat) ({ cls := "ShopDesks$Tellings", name := "holds", desc := "(IIIJ)Z" } : Jvm.MethodName)) ∈ aw := aw_t (List.mem_append_right _ (List.mem_append_left _ (List.mem_of_getElem? (l := tables_1_2) (i := 112) rfl))) rfl
theorem aI_T_holds : (Jvm.Cond.instanceMethod ({ cls := "ShopDesks$Tellings", name := "holds", desc := "(IIIJ)Z" } : Jvm.MethodName)) ∈ aw := aw_t (List.mem_append_right _ (List.mem_append_left _ (List.mem_of_getElem? (l := tables_1_2) (i := 113) rfl))) rfl
theorem aV_T_holds : (Jvm.Cond.selects "ShopDesks$Tellings" ({ cls := "ShopDesks$Tellings", name := "holds", desc := "(IIIJ)Z" } : Jvm.MethodName) ({ cls := "ShopDesks$Tellings", name := "holds", desc := "(IIIJ)Z" } : Jvm.MethodName)) ∈ aw := aw_t (List.mem_append_right _ (List.mem_append_left _ (List.mem_of_getElem? (l := tables_1_2) (i := 114) rfl))) rfl
theorem aK_T_holds : (Jvm.Cond.code ({ cls := "ShopDesks$Tellings", name := "holds", desc := "(IIIJ)Z" } : Jvm.MethodName) prog_5_method_4_code (6 : Nat) (Option.some Jvm.ClassFile.FieldType.boolean)) ∈ aw := aw_t (List.mem_append_right _ (List.mem_append_left _ (List.mem_of_getElem? (l := tables_1_2) (i := 115) rfl))) rfl
theorem aM_S_50 : (Jvm.Cond.methodLink "ShopDesks$TellingSet" (50 : Nat) ({ cls := "ShopDesks$TellingSet", name := "knownMark", desc := "(IJI)J" } : Jvm.MethodName)) ∈ aw := aw_t (List.mem_append_right _ (List.mem_append_left _ (List.mem_of_getElem? (l := tables_1_2) (i := 116) rfl))) rfl
theorem aI_S_knownMark : (Jvm.Cond.instanceMethod ({ cls := "ShopDesks$TellingSet", name := "knownMark", desc := "(IJI)J" } : Jvm.MethodName)) ∈ aw := aw_t (List.mem_append_right _ (List.mem_append_left _ (List.mem_of_getElem? (l := tables_1_2) (i := 118) rfl))) rfl
theorem aK_S_knownMark : (Jvm.Cond.code ({ cls := "ShopDesks$TellingSet", name := "knownMark", desc := "(IJI)J" } : Jvm.MethodName) prog_4_method_12_code (6 : Nat) (Option.some Jvm.ClassFile.FieldType.long)) ∈ aw := aw_t (List.mem_append_right _ (List.mem_append_left _ (List.mem_of_getElem? (l := tables_1_2) (i := 119) rfl))) rfl
theorem aM_S_63 : (Jvm.Cond.methodLink "ShopDesks$TellingSet" (63 : Nat) ({ cls := "ShopDesks$TellingSet", name := "settling", desc := "(IJI)I" } : Jvm.MethodName)) ∈ aw := aw_t (List.mem_append_right _ (List.mem_append_left _ (List.mem_of_getElem? (l := tables_1_2) (i := 120) rfl))) rfl
theorem aI_S_settling : (Jvm.Cond.instanceMethod ({ cls := "ShopDesks$TellingSet", name := "settling", desc := "(IJI)I" } : Jvm.MethodName)) ∈ aw := aw_t (List.mem_append_right _ (List.mem_append_left _ (List.mem_of_getElem? (l := tables_1_2) (i := 122) rfl))) rfl
theorem aK_S_settling : (Jvm.Cond.code ({ cls := "ShopDesks$TellingSet", name := "settling", desc := "(IJI)I" } : Jvm.MethodName) prog_4_method_14_code (7 : Nat) (Option.some Jvm.ClassFile.FieldType.int)) ∈ aw := aw_t (List.mem_append_right _ (List.mem_append_left _ (List.mem_of_getElem? (l := tables_1_2) (i := 123) rfl))) rfl
theorem aM_S_53 : (Jvm.Cond.methodLink "ShopDesks$TellingSet" (53 : Nat) ({ cls := "ShopDesks$TellingSet", name := "latest", desc := "(IIJI)I" } : Jvm.MethodName)) ∈ aw := aw_t (List.mem_append_right _ (List.mem_append_left _ (List.mem_of_getElem? (l := tables_1_2) (i := 124) rfl))) rfl
theorem aI_S_latest : (Jvm.Cond.instanceMethod ({ cls := "ShopDesks$TellingSet", name := "latest", desc := "(IIJI)I" } : Jvm.MethodName)) ∈ aw := aw_t (List.mem_append_right _ (List.mem_append_left _ (List.mem_of_getElem? (l := tables_1_2) (i := 126) rfl))) rfl
theorem aK_S_latest : (Jvm.Cond.code ({ cls := "ShopDesks$TellingSet", name := "latest", desc := "(IIJI)I" } : Jvm.MethodName) prog_4_method_13_code (9 : Nat) (Option.some Jvm.ClassFile.FieldType.int)) ∈ aw := aw_t (List.mem_append_right _ (List.mem_append_left _ (List.mem_of_getElem? (l := tables_1_2) (i := 127) rfl))) rfl
theorem aM_S_78 : (Jvm.Cond.methodLink "ShopDesks$TellingSet" (78 : Nat) ({ cls := "ShopDesks$Tellings", name := "isLater", desc := "(II)Z" } : Jvm.MethodName)) ∈ aw := aw_t (List.mem_append_right _ (List.mem_append_left _ (List.mem_of_getElem? (l := tables_1_2) (i := 128) rfl))) rfl
theorem aI_T_isLater : (Jvm.Cond.instanceMethod ({ cls := "ShopDesks$Tellings", name := "isLater", desc := "(II)Z" } : Jvm.MethodName)) ∈ aw := aw_t (List.mem_append_right _ (List.mem_append_left _ (List.mem_of_getElem? (l := tables_1_2) (i := 129) rfl))) rfl
theorem aV_T_isLater : (Jvm.Cond.selects "ShopDesks$Tellings" ({ cls := "ShopDesks$Tellings", name := "isLater", desc := "(II)Z" } : Jvm.MethodName) ({ cls := "ShopDesks$Tellings", name := "isLater", desc := "(II)Z" } : Jvm.MethodName)) ∈ aw := aw_t (List.mem_append_right _ (List.mem_append_left _ (List.mem_of_getElem? (l := tables_1_2) (i := 130) rfl))) rfl
theorem aK_T_isLater : (Jvm.Cond.code ({ cls := "ShopDesks$Tellings", name := "isLater", desc := "(II)Z" } : Jvm.MethodName) prog_5_method_5_code (3 : Nat) (Option.some Jvm.ClassFile.FieldType.boolean)) ∈ aw := aw_t (List.mem_append_right _ (List.mem_append_left _ (List.mem_of_getElem? (l := tables_1_2) (i := 131) rfl))) rfl
theorem aM_S_67 : (Jvm.Cond.methodLink "ShopDesks$TellingSet" (67 : Nat) ({ cls := "ShopDesks$TellingSet", name := "hasUnlikeMarks", desc := "(IJI)Z" } : Jvm.MethodName)) ∈ aw := aw_t (List.mem_append_right _ (List.mem_append_left _ (List.mem_of_getElem? (l := tables_1_2) (i := 132) rfl))) rfl
theorem aI_S_hasUnlikeMarks : (Jvm.Cond.instanceMethod ({ cls := "ShopDesks$TellingSet", name := "hasUnlikeMarks", desc := "(IJI)Z" } : Jvm.MethodName)) ∈ aw := aw_t (List.mem_append_right _ (List.mem_append_left _ (List.mem_of_getElem? (l := tables_1_2) (i := 134) rfl))) rfl
theorem aK_S_hasUnlikeMarks : (Jvm.Cond.code ({ cls := "ShopDesks$TellingSet", name := "hasUnlikeMarks", desc := "(IJI)Z" } : Jvm.MethodName) prog_4_method_15_code (7 : Nat) (Option.some Jvm.ClassFile.FieldType.boolean)) ∈ aw := aw_t (List.mem_append_right _ (List.mem_append_left _ (List.mem_of_getElem? (l := tables_1_2) (i := 135) rfl))) rfl
theorem aM_S_57 : (Jvm.Cond.methodLink "ShopDesks$TellingSet" (57 : Nat) ({ cls := "ShopDesks$TellingSet", name := "valueOrZero", desc := "(I)J" } : Jvm.MethodName)) ∈ aw := aw_t (List.mem_append_right _ (List.mem_append_left _ (List.mem_of_getElem? (l := tables_1_2) (i := 136) rfl))) rfl
theorem aI_S_valueOrZero : (Jvm.Cond.instanceMethod ({ cls := "ShopDesks$TellingSet", name := "valueOrZero", desc := "(I)J" } : Jvm.MethodName)) ∈ aw := aw_t (List.mem_append_right _ (List.mem_append_left _ (List.mem_of_getElem? (l := tables_1_2) (i := 138) rfl))) rfl
theorem aK_S_valueOrZero : (Jvm.Cond.code ({ cls := "ShopDesks$TellingSet", name := "valueOrZero", desc := "(I)J" } : Jvm.MethodName) prog_4_method_16_code (2 : Nat) (Option.some Jvm.ClassFile.FieldType.long)) ∈ aw := aw_t (List.mem_append_right _ (List.mem_append_left _ (List.mem_of_getElem? (l := tables_1_2) (i := 139) rfl))) rfl
theorem aM_W_104 : (Jvm.Cond.methodLink "ShopDesksLaw" (104 : Nat) ({ cls := "ShopDesksLaw", name := "conflict", desc := "(LShopDesks;II[J)I" } : Jvm.MethodName)) ∈ aw := aw_t (List.mem_append_right _ (List.mem_append_left _ (List.mem_of_getElem? (l := tables_1_2) (i := 140) rfl))) rfl
theorem aS_W_conflict : (Jvm.Cond.static ({ cls := "ShopDesksLaw", name := "conflict", desc := "(LShopDesks;II[J)I" } : Jvm.MethodName)) ∈ aw := aw_t (List.mem_append_right _ (List.mem_append_left _ (List.mem_of_getElem? (l := tables_1_2) (i := 141) rfl))) rfl
theorem aK_W_conflict : (Jvm.Cond.codeWith ({ cls := "ShopDesksLaw", name := "conflict", desc := "(LShopDesks;II[J)I" } : Jvm.MethodName) method_8_code (5 : Nat) (Option.some Jvm.ClassFile.FieldType.int) [((0 : Nat), (10 : Nat), (13 : Nat), (13 : Nat)), ((0 : Nat), (10 : Nat), (17 : Nat), (15 : Nat))]) ∈ aw := aw_t (List.mem_append_right _ (List.mem_append_left _ (List.mem_of_getElem? (l := tables_1_2) (i := 142) rfl))) rfl
theorem aM_W_35 : (Jvm.Cond.methodLink "ShopDesksLaw" (35 : Nat) ({ cls := "ShopDesks", name := "conflict", desc := "(II)I" } : Jvm.MethodName)) ∈ aw := aw_t (List.mem_append_right _ (List.mem_append_left _ (List.mem_of_getElem? (l := tables_1_2) (i := 143) rfl))) rfl
theorem aI_X_conflict : (Jvm.Cond.instanceMethod ({ cls := "ShopDesks", name := "conflict", desc := "(II)I" } : Jvm.MethodName)) ∈ aw := aw_t (List.mem_append_right _ (List.mem_append_left _ (List.mem_of_getElem? (l := tables_1_2) (i := 144) rfl))) rfl
theorem aV_X_conflict : (Jvm.Cond.selects "ShopDesks" ({ cls := "ShopDesks", name := "conflict", desc := "(II)I" } : Jvm.MethodName) ({ cls := "ShopDesks", name := "conflict", desc := "(II)I" } : Jvm.MethodName)) ∈ aw := aw_t (List.mem_append_right _ (List.mem_append_left _ (List.mem_of_getElem? (l := tables_1_2) (i := 145) rfl))) rfl
theorem aK_X_conflict : (Jvm.Cond.code ({ cls := "ShopDesks", name := "conflict", desc := "(II)I" } : Jvm.MethodName) prog_1_method_7_code (5 : Nat) (Option.some Jvm.ClassFile.FieldType.int)) ∈ aw := aw_t (List.mem_append_right _ (List.mem_append_left _ (List.mem_of_getElem? (l := tables_1_2) (i := 146) rfl))) rfl
theorem aM_X_96 : (Jvm.Cond.methodLink "ShopDesks" (96 : Nat) ({ cls := "ShopDesks$TellingSet", name := "isInConflict", desc := "(I)Z" } : Jvm.MethodName)) ∈ aw := aw_t (List.mem_append_right _ (List.mem_append_left _ (List.mem_of_getElem? (l := tables_1_2) (i := 148) rfl))) rfl
theorem aI_S_isInConflict : (Jvm.Cond.instanceMethod ({ cls := "ShopDesks$TellingSet", name := "isInConflict", desc := "(I)Z" } : Jvm.MethodName)) ∈ aw := aw_t (List.mem_append_right _ (List.mem_append_left _ (List.mem_of_getElem? (l := tables_1_2) (i := 149) rfl))) rfl
theorem aV_S_isInConflict : (Jvm.Cond.selects "ShopDesks$TellingSet" ({ cls := "ShopDesks$TellingSet", name := "isInConflict", desc := "(I)Z" } : Jvm.MethodName) ({ cls := "ShopDesks$TellingSet", name := "isInConflict", desc := "(I)Z" } : Jvm.MethodName)) ∈ aw := aw_t (List.mem_append_right _ (List.mem_append_left _ (List.mem_of_getElem? (l := tables_1_2) (i := 150) rfl))) rfl
theorem aK_S_isInConflict : (Jvm.Cond.code ({ cls := "ShopDesks$TellingSet", name := "isInConflict", desc := "(I)Z" } : Jvm.MethodName) prog_4_method_10_code (2 : Nat) (Option.some Jvm.ClassFile.FieldType.boolean)) ∈ aw := aw_t (List.mem_append_right _ (List.mem_append_left _ (List.mem_of_getElem? (l := tables_1_2) (i := 151) rfl))) rfl
theorem aL_S_61 : (Jvm.Cond.constantLong "ShopDesks$TellingSet" (61 : Nat) (9223372036854775807 : Int64)) ∈ aw := aw_t (List.mem_append_right _ (List.mem_append_left _ (List.mem_of_getElem? (l := tables_1_2) (i := 152) rfl))) rfl
theorem aM_W_107 : (Jvm.Cond.methodLink "ShopDesksLaw" (107 : Nat) ({ cls := "ShopDesksLaw", name := "mark", desc := "(LShopDesks;I[J)I" } : Jvm.MethodName)) ∈ aw := aw_t (List.mem_append_right _ (List.mem_append_left _ (List.mem_of_getElem? (l := tables_1_2) (i := 153) rfl))) rfl
theorem aS_W_mark : (Jvm.Cond.static ({ cls := "ShopDesksLaw", name := "mark", desc := "(LShopDesks;I[J)I" } : Jvm.MethodName)) ∈ aw := aw_t (List.mem_append_right _ (List.mem_append_left _ (List.mem_of_getElem? (l := tables_1_2) (i := 154) rfl))) rfl
theorem aK_W_mark : (Jvm.Cond.codeWith ({ cls := "ShopDesksLaw", name := "mark", desc := "(LShopDesks;I[J)I" } : Jvm.MethodName) method_9_code (4 : Nat) (Option.some Jvm.ClassFile.FieldType.int) [((0 : Nat), (9 : Nat), (12 : Nat), (13 : Nat))]) ∈ aw := aw_t (List.mem_append_right _ (List.mem_append_left _ (List.mem_of_getElem? (l := tables_1_2) (i := 155) rfl))) rfl
theorem aM_W_38 : (Jvm.Cond.methodLink "ShopDesksLaw" (38 : Nat) ({ cls := "ShopDesks", name := "mark", desc := "(I)I" } : Jvm.MethodName)) ∈ aw := aw_t (List.mem_append_right _ (List.mem_append_left _ (List.mem_of_getElem? (l := tables_1_2) (i := 156) rfl))) rfl
theorem aI_X_mark : (Jvm.Cond.instanceMethod ({ cls := "ShopDesks", name := "mark", desc := "(I)I" } : Jvm.MethodName)) ∈ aw := aw_t (List.mem_append_right _ (List.mem_append_left _ (List.mem_of_getElem? (l := tables_1_2) (i := 157) rfl))) rfl
theorem aV_X_mark : (Jvm.Cond.selects "ShopDesks" ({ cls := "ShopDesks", name := "mark", desc := "(I)I" } : Jvm.MethodName) ({ cls := "ShopDesks", name := "mark", desc := "(I)I" } : Jvm.MethodName)) ∈ aw := aw_t (List.mem_append_right _ (List.mem_append_left _ (List.mem_of_getElem? (l := tables_1_2) (i := 158) rfl))) rfl
theorem aK_X_mark : (Jvm.Cond.code ({ cls := "ShopDesks", name := "mark", desc := "(I)I" } : Jvm.MethodName) prog_1_method_8_code (2 : Nat) (Option.some Jvm.ClassFile.FieldType.int)) ∈ aw := aw_t (List.mem_append_right _ (List.mem_append_left _ (List.mem_of_getElem? (l := tables_1_2) (i := 159) rfl))) rfl
theorem aM_W_110 : (Jvm.Cond.methodLink "ShopDesksLaw" (110 : Nat) ({ cls := "ShopDesksLaw", name := "since", desc := "(LShopDesks;IIII[J)I" } : Jvm.MethodName)) ∈ aw := aw_t (List.mem_append_right _ (List.mem_append_left _ (List.mem_of_getElem? (l := tables_1_2) (i := 160) rfl))) rfl
theorem aS_W_since : (Jvm.Cond.static ({ cls := "ShopDesksLaw", name := "since", desc := "(LShopDesks;IIII[J)I" } : Jvm.MethodName)) ∈ aw := aw_t (List.mem_append_right _ (List.mem_append_left _ (List.mem_of_getElem? (l := tables_1_2) (i := 161) rfl))) rfl
theorem aK_W_since : (Jvm.Cond.codeWith ({ cls := "ShopDesksLaw", name := "since", desc := "(LShopDesks;IIII[J)I" } : Jvm.MethodName) method_10_code (7 : Nat) (Option.some Jvm.ClassFile.FieldType.int) [((0 : Nat), (13 : Nat), (16 : Nat), (13 : Nat)), ((0 : Nat), (13 : Nat), (20 : Nat), (15 : Nat))]) ∈ aw := aw_t (List.mem_append_right _ (List.mem_append_left _ (List.mem_of_getElem? (l := tables_1_2) (i := 162) rfl))) rfl
theorem aM_W_41 : (Jvm.Cond.methodLink "ShopDesksLaw" (41 : Nat) ({ cls := "ShopDesks", name := "since", desc := "(IIII)J" } : Jvm.MethodName)) ∈ aw := aw_t (List.mem_append_right _ (List.mem_append_left _ (List.mem_of_getElem? (l := tables_1_2) (i := 163) rfl))) rfl
theorem aI_X_since : (Jvm.Cond.instanceMethod ({ cls := "ShopDesks", name := "since", desc := "(IIII)J" } : Jvm.MethodName)) ∈ aw := aw_t (List.mem_append_right _ (List.mem_append_left _ (List.mem_of_getElem? (l := tables_1_2) (i := 164) rfl))) rfl
theorem aV_X_since : (Jvm.Cond.selects "ShopDesks" ({ cls := "ShopDesks", name := "since", desc := "(IIII)J" } : Jvm.MethodName) ({ cls := "ShopDesks", name := "since", desc := "(IIII)J" } : Jvm.MethodName)) ∈ aw := aw_t (List.mem_append_right _ (List.mem_append_left _ (List.mem_of_getElem? (l := tables_1_2) (i := 165) rfl))) rfl
theorem aK_X_since : (Jvm.Cond.code ({ cls := "ShopDesks", name := "since", desc := "(IIII)J" } : Jvm.MethodName) prog_1_method_9_code (8 : Nat) (Option.some Jvm.ClassFile.FieldType.long)) ∈ aw := aw_t (List.mem_append_right _ (List.mem_append_left _ (List.mem_of_getElem? (l := tables_1_2) (i := 166) rfl))) rfl
theorem aM_W_114 : (Jvm.Cond.methodLink "ShopDesksLaw" (114 : Nat) ({ cls := "ShopDesksLaw", name := "batch", desc := "(LShopDesks;IZ[J)I" } : Jvm.MethodName)) ∈ aw := aw_t (List.mem_append_right _ (List.mem_append_left _ (List.mem_of_getElem? (l := tables_1_2) (i := 170) rfl))) rfl
theorem aS_W_batch : (Jvm.Cond.static ({ cls := "ShopDesksLaw", name := "batch", desc := "(LShopDesks;IZ[J)I" } : Jvm.MethodName)) ∈ aw := aw_t (List.mem_append_right _ (List.mem_append_left _ (List.mem_of_getElem? (l := tables_1_2) (i := 171) rfl))) rfl
theorem aK_W_batch : (Jvm.Cond.codeWith ({ cls := "ShopDesksLaw", name := "batch", desc := "(LShopDesks;IZ[J)I" } : Jvm.MethodName) method_11_code (5 : Nat) (Option.some Jvm.ClassFile.FieldType.int) [((0 : Nat), (17 : Nat), (20 : Nat), (13 : Nat))]) ∈ aw := aw_t (List.mem_append_right _ (List.mem_append_left _ (List.mem_of_getElem? (l := tables_1_2) (i := 172) rfl))) rfl
theorem aM_W_45 : (Jvm.Cond.methodLink "ShopDesksLaw" (45 : Nat) ({ cls := "ShopDesks", name := "batch", desc := "(IZ)Z" } : Jvm.MethodName)) ∈ aw := aw_t (List.mem_append_right _ (List.mem_append_left _ (List.mem_of_getElem? (l := tables_1_2) (i := 173) rfl))) rfl
theorem aI_X_batch : (Jvm.Cond.instanceMethod ({ cls := "ShopDesks", name := "batch", desc := "(IZ)Z" } : Jvm.MethodName)) ∈ aw := aw_t (List.mem_append_right _ (List.mem_append_left _ (List.mem_of_getElem? (l := tables_1_2) (i := 174) rfl))) rfl
theorem aV_X_batch : (Jvm.Cond.selects "ShopDesks" ({ cls := "ShopDesks", name := "batch", desc := "(IZ)Z" } : Jvm.MethodName) ({ cls := "ShopDesks", name := "batch", desc := "(IZ)Z" } : Jvm.MethodName)) ∈ aw := aw_t (List.mem_append_right _ (List.mem_append_left _ (List.mem_of_getElem? (l := tables_1_2) (i := 175) rfl))) rfl
theorem aK_X_batch : (Jvm.Cond.code ({ cls := "ShopDesks", name := "batch", desc := "(IZ)Z" } : Jvm.MethodName) prog_1_method_10_code (3 : Nat) (Option.some Jvm.ClassFile.FieldType.boolean)) ∈ aw := aw_t (List.mem_append_right _ (List.mem_append_left _ (List.mem_of_getElem? (l := tables_1_2) (i := 176) rfl))) rfl
theorem aM_X_123 : (Jvm.Cond.methodLink "ShopDesks" (123 : Nat) ({ cls := "ShopDesks$TellingSet", name := "beginBatch", desc := "()Z" } : Jvm.MethodName)) ∈ aw := aw_t (List.mem_append_right _ (List.mem_append_left _ (List.mem_of_getElem? (l := tables_1_2) (i := 177) rfl))) rfl
theorem aI_S_beginBatch : (Jvm.Cond.instanceMethod ({ cls := "ShopDesks$TellingSet", name := "beginBatch", desc := "()Z" } : Jvm.MethodName)) ∈ aw := aw_t (List.mem_append_right _ (List.mem_append_left _ (List.mem_of_getElem? (l := tables_1_2) (i := 178) rfl))) rfl
theorem aV_S_beginBatch : (Jvm.Cond.selects "ShopDesks$TellingSet" ({ cls := "ShopDesks$TellingSet", name := "beginBatch", desc := "()Z" } : Jvm.MethodName) ({ cls := "ShopDesks$TellingSet", name := "beginBatch", desc := "()Z" } : Jvm.MethodName)) ∈ aw := aw_t (List.mem_append_right _ (List.mem_append_left _ (List.mem_of_getElem? (l := tables_1_2) (i := 179) rfl))) rfl
theorem aK_S_beginBatch : (Jvm.Cond.code ({ cls := "ShopDesks$TellingSet", name := "beginBatch", desc := "()Z" } : Jvm.MethodName) prog_4_method_6_code (1 : Nat) (Option.some Jvm.ClassFile.FieldType.boolean)) ∈ aw := aw_t (List.mem_append_right _ (List.mem_append_left _ (List.mem_of_getElem? (l := tables_1_2) (i := 180) rfl))) rfl
theorem aM_X_127 : (Jvm.Cond.methodLink "ShopDesks" (127 : Nat) ({ cls := "ShopDesks$TellingSet", name := "endBatch", desc := "()Z" } : Jvm.MethodName)) ∈ aw := aw_t (List.mem_append_right _ (List.mem_append_left _ (List.mem_of_getElem? (l := tables_1_2) (i := 181) rfl))) rfl
theorem aI_S_endBatch : (Jvm.Cond.instanceMethod ({ cls := "ShopDesks$TellingSet", name := "endBatch", desc := "()Z" } : Jvm.MethodName)) ∈ aw := aw_t (List.mem_append_right _ (List.mem_append_left _ (List.mem_of_getElem? (l := tables_1_2) (i := 182) rfl))) rfl
theorem aV_S_endBatch : (Jvm.Cond.selects "ShopDesks$TellingSet" ({ cls := "ShopDesks$TellingSet", name := "endBatch", desc := "()Z" } : Jvm.MethodName) ({ cls := "ShopDesks$TellingSet", name := "endBatch", desc := "()Z" } : Jvm.MethodName)) ∈ aw := aw_t (List.mem_append_right _ (List.mem_append_left _ (List.mem_of_getElem? (l := tables_1_2) (i := 183) rfl))) rfl
theorem aK_S_endBatch : (Jvm.Cond.code ({ cls := "ShopDesks$TellingSet", name := "endBatch", desc := "()Z" } : Jvm.MethodName) prog_4_method_7_code (1 : Nat) (Option.some Jvm.ClassFile.FieldType.boolean)) ∈ aw := aw_t (List.mem_append_right _ (List.mem_append_left _ (List.mem_of_getElem? (l := tables_1_2) (i := 184) rfl))) rfl
theorem aM_W_118 : (Jvm.Cond.methodLink "ShopDesksLaw" (118 : Nat) ({ cls := "ShopDesksLaw", name := "right", desc := "(LShopDesks;IIZ[J)I" } : Jvm.MethodName)) ∈ aw := aw_t (List.mem_append_right _ (List.mem_append_left _ (List.mem_of_getElem? (l := tables_1_2) (i := 185) rfl))) rfl
theorem aS_W_right : (Jvm.Cond.static ({ cls := "ShopDesksLaw", name := "right", desc := "(LShopDesks;IIZ[J)I" } : Jvm.MethodName)) ∈ aw := aw_t (List.mem_append_right _ (List.mem_append_left _ (List.mem_of_getElem? (l := tables_1_2) (i := 186) rfl))) rfl
theorem aK_W_right : (Jvm.Cond.codeWith ({ cls := "ShopDesksLaw", name := "right", desc := "(LShopDesks;IIZ[J)I" } : Jvm.MethodName) method_12_code (6 : Nat) (Option.some Jvm.ClassFile.FieldType.int) [((0 : Nat), (19 : Nat), (22 : Nat), (13 : Nat)), ((0 : Nat), (19 : Nat), (26 : Nat), (15 : Nat))]) ∈ aw := aw_t (List.mem_append_right _ (List.mem_append_left _ (List.mem_of_getElem? (l := tables_1_2) (i := 187) rfl))) rfl
theorem aM_W_49 : (Jvm.Cond.methodLink "ShopDesksLaw" (49 : Nat) ({ cls := "ShopDesks", name := "right", desc := "(IIZ)Z" } : Jvm.MethodName)) ∈ aw := aw_t (List.mem_append_right _ (List.mem_append_left _ (List.mem_of_getElem? (l := tables_1_2) (i := 188) rfl))) rfl
theorem aI_X_right : (Jvm.Cond.instanceMethod ({ cls := "ShopDesks", name := "right", desc := "(IIZ)Z" } : Jvm.MethodName)) ∈ aw := aw_t (List.mem_append_right _ (List.mem_append_left _ (List.mem_of_getElem? (l := tables_1_2) (i := 189) rfl))) rfl
theorem aV_X_right : (Jvm.Cond.selects "ShopDesks" ({ cls := "ShopDesks", name := "right", desc := "(IIZ)Z" } : Jvm.MethodName) ({ cls := "ShopDesks", name := "right", desc := "(IIZ)Z" } : Jvm.MethodName)) ∈ aw := aw_t (List.mem_append_right _ (List.mem_append_left _ (List.mem_of_getElem? (l := tables_1_2) (i := 190) rfl))) rfl
theorem aK_X_right : (Jvm.Cond.code ({ cls := "ShopDesks", name := "right", desc := "(IIZ)Z" } : Jvm.MethodName) prog_1_method_11_code (6 : Nat) (Option.some Jvm.ClassFile.FieldType.boolean)) ∈ aw := aw_t (List.mem_append_right _ (List.mem_append_left _ (List.mem_of_getElem? (l := tables_1_2) (i := 191) rfl))) rfl
theorem aM_X_130 : (Jvm.Cond.methodLink "ShopDesks" (130 : Nat) ({ cls := "ShopDesks", name := "needPerson", desc := "(I)V" } : Jvm.MethodName)) ∈ aw := aw_t (List.mem_append_right _ (List.mem_append_left _ (List.mem_of_getElem? (l := tables_1_2) (i := 192) rfl))) rfl
theorem aS_X_needPerson : (Jvm.Cond.static ({ cls := "ShopDesks", name := "needPerson", desc := "(I)V" } : Jvm.MethodName)) ∈ aw := aw_t (List.mem_append_right _ (List.mem_append_left _ (List.mem_of_getElem? (l := tables_1_2) (i := 193) rfl))) rfl
theorem aK_X_needPerson : (Jvm.Cond.code ({ cls := "ShopDesks", name := "needPerson", desc := "(I)V" } : Jvm.MethodName) prog_1_method_22_code (1 : Nat) (Option.none : Option Jvm.ClassFile.FieldType)) ∈ aw := aw_t (List.mem_append_right _ (List.mem_append_left _ (List.mem_of_getElem? (l := tables_1_2) (i := 194) rfl))) rfl
theorem aM_W_122 : (Jvm.Cond.methodLink "ShopDesksLaw" (122 : Nat) ({ cls := "ShopDesksLaw", name := "seen", desc := "(LShopDesks;IIII[J)I" } : Jvm.MethodName)) ∈ aw := aw_t (List.mem_append_right _ (List.mem_append_left _ (List.mem_of_getElem? (l := tables_1_2) (i := 196) rfl))) rfl
theorem aS_W_seen : (Jvm.Cond.static ({ cls := "ShopDesksLaw", name := "seen", desc := "(LShopDesks;IIII[J)I" } : Jvm.MethodName)) ∈ aw := aw_t (List.mem_append_right _ (List.mem_append_left _ (List.mem_of_getElem? (l := tables_1_2) (i := 197) rfl))) rfl
theorem aK_W_seen : (Jvm.Cond.codeWith ({ cls := "ShopDesksLaw", name := "seen", desc := "(LShopDesks;IIII[J)I" } : Jvm.MethodName) method_13_code (7 : Nat) (Option.some Jvm.ClassFile.FieldType.int) [((0 : Nat), (13 : Nat), (16 : Nat), (13 : Nat)), ((0 : Nat), (13 : Nat), (20 : Nat), (15 : Nat)), ((0 : Nat), (13 : Nat), (24 : Nat), (17 : Nat))]) ∈ aw := aw_t (List.mem_append_right _ (List.mem_append_left _ (List.mem_of_getElem? (l := tables_1_2) (i := 198) rfl))) rfl
theorem aM_W_53 : (Jvm.Cond.methodLink "ShopDesksLaw" (53 : Nat) ({ cls := "ShopDesks", name := "seen", desc := "(IIII)J" } : Jvm.MethodName)) ∈ aw := aw_t (List.mem_append_right _ (List.mem_append_left _ (List.mem_of_getElem? (l := tables_1_2) (i := 199) rfl))) rfl
theorem aI_X_seen : (Jvm.Cond.instanceMethod ({ cls := "ShopDesks", name := "seen", desc := "(IIII)J" } : Jvm.MethodName)) ∈ aw := aw_t (List.mem_append_right _ (List.mem_append_left _ (List.mem_of_getElem? (l := tables_1_2) (i := 200) rfl))) rfl
theorem aV_X_seen : (Jvm.Cond.selects "ShopDesks" ({ cls := "ShopDesks", name := "seen", desc := "(IIII)J" } : Jvm.MethodName) ({ cls := "ShopDesks", name := "seen", desc := "(IIII)J" } : Jvm.MethodName)) ∈ aw := aw_t (List.mem_append_right _ (List.mem_append_left _ (List.mem_of_getElem? (l := tables_1_2) (i := 201) rfl))) rfl
theorem aK_X_seen : (Jvm.Cond.code ({ cls := "ShopDesks", name := "seen", desc := "(IIII)J" } : Jvm.MethodName) prog_1_method_12_code (5 : Nat) (Option.some Jvm.ClassFile.FieldType.long)) ∈ aw := aw_t (List.mem_append_right _ (List.mem_append_left _ (List.mem_of_getElem? (l := tables_1_2) (i := 202) rfl))) rfl
theorem aL_X_135 : (Jvm.Cond.constantLong "ShopDesks" (135 : Nat) (9223372036854775807 : Int64)) ∈ aw := aw_t (List.mem_append_right _ (List.mem_append_left _ (List.mem_of_getElem? (l := tables_1_2) (i := 204) rfl))) rfl
theorem aM_X_137 : (Jvm.Cond.methodLink "ShopDesks" (137 : Nat) ({ cls := "ShopDesks$TellingSet", name := "sizeToSee", desc := "()I" } : Jvm.MethodName)) ∈ aw := aw_t (List.mem_append_right _ (List.mem_append_left _ (List.mem_of_getElem? (l := tables_1_2) (i := 205) rfl))) rfl
theorem aI_S_sizeToSee : (Jvm.Cond.instanceMethod ({ cls := "ShopDesks$TellingSet", name := "sizeToSee", desc := "()I" } : Jvm.MethodName)) ∈ aw := aw_t (List.mem_append_right _ (List.mem_append_left _ (List.mem_of_getElem? (l := tables_1_2) (i := 206) rfl))) rfl
theorem aV_S_sizeToSee : (Jvm.Cond.selects "ShopDesks$TellingSet" ({ cls := "ShopDesks$TellingSet", name := "sizeToSee", desc := "()I" } : Jvm.MethodName) ({ cls := "ShopDesks$TellingSet", name := "sizeToSee", desc := "()I" } : Jvm.MethodName)) ∈ aw := aw_t (List.mem_append_right _ (List.mem_append_left _ (List.mem_of_getElem? (l := tables_1_2) (i := 207) rfl))) rfl
theorem aK_S_sizeToSee : (Jvm.Cond.code ({ cls := "ShopDesks$TellingSet", name := "sizeToSee", desc := "()I" } : Jvm.MethodName) prog_4_method_8_code (1 : Nat) (Option.some Jvm.ClassFile.FieldType.int)) ∈ aw := aw_t (List.mem_append_right _ (List.mem_append_left _ (List.mem_of_getElem? (l := tables_1_2) (i := 208) rfl))) rfl
theorem aM_W_129 : (Jvm.Cond.methodLink "ShopDesksLaw" (129 : Nat) ({ cls := "ShopDesksLaw", name := "entry", desc := "(LShopDesks;I[J)I" } : Jvm.MethodName)) ∈ aw := aw_t (List.mem_append_right _ (List.mem_append_left _ (List.mem_of_getElem? (l := tables_1_2) (i := 209) rfl))) rfl
theorem aS_W_entry : (Jvm.Cond.static ({ cls := "ShopDesksLaw", name := "entry", desc := "(LShopDesks;I[J)I" } : Jvm.MethodName)) ∈ aw := aw_t (List.mem_append_right _ (List.mem_append_left _ (List.mem_of_getElem? (l := tables_1_2) (i := 210) rfl))) rfl
theorem aK_W_entry : (Jvm.Cond.codeWith ({ cls := "ShopDesksLaw", name := "entry", desc := "(LShopDesks;I[J)I" } : Jvm.MethodName) method_14_code (4 : Nat) (Option.some Jvm.ClassFile.FieldType.int) [((0 : Nat), (9 : Nat), (12 : Nat), (15 : Nat)), ((0 : Nat), (9 : Nat), (15 : Nat), (17 : Nat))]) ∈ aw := aw_t (List.mem_append_right _ (List.mem_append_left _ (List.mem_of_getElem? (l := tables_1_2) (i := 211) rfl))) rfl
theorem aM_W_56 : (Jvm.Cond.methodLink "ShopDesksLaw" (56 : Nat) ({ cls := "ShopDesks", name := "entry", desc := "(I)I" } : Jvm.MethodName)) ∈ aw := aw_t (List.mem_append_right _ (List.mem_append_left _ (List.mem_of_getElem? (l := tables_1_2) (i := 212) rfl))) rfl
theorem aI_X_entry : (Jvm.Cond.instanceMethod ({ cls := "ShopDesks", name := "entry", desc := "(I)I" } : Jvm.MethodName)) ∈ aw := aw_t (List.mem_append_right _ (List.mem_append_left _ (List.mem_of_getElem? (l := tables_1_2) (i := 213) rfl))) rfl
theorem aV_X_entry : (Jvm.Cond.selects "ShopDesks" ({ cls := "ShopDesks", name := "entry", desc := "(I)I" } : Jvm.MethodName) ({ cls := "ShopDesks", name := "entry", desc := "(I)I" } : Jvm.MethodName)) ∈ aw := aw_t (List.mem_append_right _ (List.mem_append_left _ (List.mem_of_getElem? (l := tables_1_2) (i := 214) rfl))) rfl
theorem aK_X_entry : (Jvm.Cond.code ({ cls := "ShopDesks", name := "entry", desc := "(I)I" } : Jvm.MethodName) prog_1_method_13_code (2 : Nat) (Option.some Jvm.ClassFile.FieldType.int)) ∈ aw := aw_t (List.mem_append_right _ (List.mem_append_left _ (List.mem_of_getElem? (l := tables_1_2) (i := 215) rfl))) rfl
theorem aM_X_141 : (Jvm.Cond.methodLink "ShopDesks" (141 : Nat) ({ cls := "ShopDesks", name := "needDay", desc := "(I)V" } : Jvm.MethodName)) ∈ aw := aw_t (List.mem_append_right _ (List.mem_append_left _ (List.mem_of_getElem? (l := tables_1_2) (i := 216) rfl))) rfl
theorem aS_X_needDay : (Jvm.Cond.static ({ cls := "ShopDesks", name := "needDay", desc := "(I)V" } : Jvm.MethodName)) ∈ aw := aw_t (List.mem_append_right _ (List.mem_append_left _ (List.mem_of_getElem? (l := tables_1_2) (i := 217) rfl))) rfl
theorem aK_X_needDay : (Jvm.Cond.code ({ cls := "ShopDesks", name := "needDay", desc := "(I)V" } : Jvm.MethodName) prog_1_method_24_code (1 : Nat) (Option.none : Option Jvm.ClassFile.FieldType)) ∈ aw := aw_t (List.mem_append_right _ (List.mem_append_left _ (List.mem_of_getElem? (l := tables_1_2) (i := 218) rfl))) rfl
theorem aM_X_144 : (Jvm.Cond.methodLink "ShopDesks" (144 : Nat) ({ cls := "ShopDesks", name := "needRoomForEntry", desc := "()V" } : Jvm.MethodName)) ∈ aw := aw_t (List.mem_append_right _ (List.mem_append_left _ (List.mem_of_getElem? (l := tables_1_2) (i := 220) rfl))) rfl
theorem aI_X_needRoomForEntry : (Jvm.Cond.instanceMethod ({ cls := "ShopDesks", name := "needRoomForEntry", desc := "()V" } : Jvm.MethodName)) ∈ aw := aw_t (List.mem_append_right _ (List.mem_append_left _ (List.mem_of_getElem? (l := tables_1_2) (i := 222) rfl))) rfl
theorem aK_X_needRoomForEntry : (Jvm.Cond.code ({ cls := "ShopDesks", name := "needRoomForEntry", desc := "()V" } : Jvm.MethodName) prog_1_method_27_code (1 : Nat) (Option.none : Option Jvm.ClassFile.FieldType)) ∈ aw := aw_t (List.mem_append_right _ (List.mem_append_left _ (List.mem_of_getElem? (l := tables_1_2) (i := 223) rfl))) rfl
theorem aM_X_147 : (Jvm.Cond.methodLink "ShopDesks" (147 : Nat) ({ cls := "ShopDesks$Ledger", name := "openEntry", desc := "(I)I" } : Jvm.MethodName)) ∈ aw := aw_t (List.mem_append_right _ (List.mem_append_left _ (List.mem_of_getElem? (l := tables_1_2) (i := 225) rfl))) rfl
theorem aI_L_openEntry : (Jvm.Cond.instanceMethod ({ cls := "ShopDesks$Ledger", name := "openEntry", desc := "(I)I" } : Jvm.MethodName)) ∈ aw := aw_t (List.mem_append_right _ (List.mem_append_left _ (List.mem_of_getElem? (l := tables_1_2) (i := 226) rfl))) rfl
theorem aV_L_openEntry : (Jvm.Cond.selects "ShopDesks$Ledger" ({ cls := "ShopDesks$Ledger", name := "openEntry", desc := "(I)I" } : Jvm.MethodName) ({ cls := "ShopDesks$Ledger", name := "openEntry", desc := "(I)I" } : Jvm.MethodName)) ∈ aw := aw_t (List.mem_append_right _ (List.mem_append_left _ (List.mem_of_getElem? (l := tables_1_2) (i := 227) rfl))) rfl
theorem aK_L_openEntry : (Jvm.Cond.code ({ cls := "ShopDesks$Ledger", name := "openEntry", desc := "(I)I" } : Jvm.MethodName) prog_3_method_2_code (2 : Nat) (Option.some Jvm.ClassFile.FieldType.int)) ∈ aw := aw_t (List.mem_append_right _ (List.mem_append_left _ (List.mem_of_getElem? (l := tables_1_2) (i := 228) rfl))) rfl
theorem aM_W_132 : (Jvm.Cond.methodLink "ShopDesksLaw" (132 : Nat) ({ cls := "ShopDesksLaw", name := "row", desc := "(LShopDesks;IIJ[J)I" } : Jvm.MethodName)) ∈ aw := aw_t (List.mem_append_right _ (List.mem_append_left _ (List.mem_of_getElem? (l := tables_1_2) (i := 229) rfl))) rfl
theorem aS_W_row : (Jvm.Cond.static ({ cls := "ShopDesksLaw", name := "row", desc := "(LShopDesks;IIJ[J)I" } : Jvm.MethodName)) ∈ aw := aw_t (List.mem_append_right _ (List.mem_append_left _ (List.mem_of_getElem? (l := tables_1_2) (i := 230) rfl))) rfl
theorem aK_W_row : (Jvm.Cond.codeWith ({ cls := "ShopDesksLaw", name := "row", desc := "(LShopDesks;IIJ[J)I" } : Jvm.MethodName) method_15_code (7 : Nat) (Option.some Jvm.ClassFile.FieldType.int) [((0 : Nat), (12 : Nat), (15 : Nat), (13 : Nat)), ((0 : Nat), (12 : Nat), (19 : Nat), (15 : Nat)), ((0 : Nat), (12 : Nat), (23 : Nat), (17 : Nat))]) ∈ aw := aw_t (List.mem_append_right _ (List.mem_append_left _ (List.mem_of_getElem? (l := tables_1_2) (i := 231) rfl))) rfl
theorem aM_W_59 : (Jvm.Cond.methodLink "ShopDesksLaw" (59 : Nat) ({ cls := "ShopDesks", name := "row", desc := "(IIJ)I" } : Jvm.MethodName)) ∈ aw := aw_t (List.mem_append_right _ (List.mem_append_left _ (List.mem_of_getElem? (l := tables_1_2) (i := 232) rfl))) rfl
theorem aI_X_row : (Jvm.Cond.instanceMethod ({ cls := "ShopDesks", name := "row", desc := "(IIJ)I" } : Jvm.MethodName)) ∈ aw := aw_t (List.mem_append_right _ (List.mem_append_left _ (List.mem_of_getElem? (l := tables_1_2) (i := 233) rfl))) rfl
theorem aV_X_row : (Jvm.Cond.selects "ShopDesks" ({ cls := "ShopDesks", name := "row", desc := "(IIJ)I" } : Jvm.MethodName) ({ cls := "ShopDesks", name := "row", desc := "(IIJ)I" } : Jvm.MethodName)) ∈ aw := aw_t (List.mem_append_right _ (List.mem_append_left _ (List.mem_of_getElem? (l := tables_1_2) (i := 234) rfl))) rfl
theorem aK_X_row : (Jvm.Cond.code ({ cls := "ShopDesks", name := "row", desc := "(IIJ)I" } : Jvm.MethodName) prog_1_method_14_code (6 : Nat) (Option.some Jvm.ClassFile.FieldType.int)) ∈ aw := aw_t (List.mem_append_right _ (List.mem_append_left _ (List.mem_of_getElem? (l := tables_1_2) (i := 235) rfl))) rfl
theorem aM_X_151 : (Jvm.Cond.methodLink "ShopDesks" (151 : Nat) ({ cls := "ShopDesks", name := "needEntry", desc := "(I)V" } : Jvm.MethodName)) ∈ aw := aw_t (List.mem_append_right _ (List.mem_append_left _ (List.mem_of_getElem? (l := tables_1_2) (i := 236) rfl))) rfl
theorem aI_X_needEntry : (Jvm.Cond.instanceMethod ({ cls := "ShopDesks", name := "needEntry", desc := "(I)V" } : Jvm.MethodName)) ∈ aw := aw_t (List.mem_append_right _ (List.mem_append_left _ (List.mem_of_getElem? (l := tables_1_2) (i := 238) rfl))) rfl
theorem aK_X_needEntry : (Jvm.Cond.code ({ cls := "ShopDesks", name := "needEntry", desc := "(I)V" } : Jvm.MethodName) prog_1_method_26_code (2 : Nat) (Option.none : Option Jvm.ClassFile.FieldType)) ∈ aw := aw_t (List.mem_append_right _ (List.mem_append_left _ (List.mem_of_getElem? (l := tables_1_2) (i := 239) rfl))) rfl
theorem aM_X_154 : (Jvm.Cond.methodLink "ShopDesks" (154 : Nat) ({ cls := "ShopDesks", name := "needAccount", desc := "(I)V" } : Jvm.MethodName)) ∈ aw := aw_t (List.mem_append_right _ (List.mem_append_right _ (List.mem_append_left _ (List.mem_of_getElem? (l := tables_1_3) (i := 1) rfl)))) rfl
theorem aS_X_needAccount : (Jvm.Cond.static ({ cls := "ShopDesks", name := "needAccount", desc := "(I)V" } : Jvm.MethodName)) ∈ aw := aw_t (List.mem_append_right _ (List.mem_append_right _ (List.mem_append_left _ (List.mem_of_getElem? (l := tables_1_3) (i := 2) rfl)))) rfl
theorem aK_X_needAccount : (Jvm.Cond.code ({ cls := "ShopDesks", name := "needAccount", desc := "(I)V" } : Jvm.MethodName) prog_1_method_23_code (1 : Nat) (Option.none : Option Jvm.ClassFile.FieldType)) ∈ aw := aw_t (List.mem_append_right _ (List.mem_append_right _ (List.mem_append_left _ (List.mem_of_getElem? (l := tables_1_3) (i := 3) rfl)))) rfl
theorem aL_X_157 : (Jvm.Cond.constantLong "ShopDesks" (157 : Nat) (-1000000000 : Int64)) ∈ aw := aw_t (List.mem_append_right _ (List.mem_append_right _ (List.mem_append_left _ (List.mem_of_getElem? (l := tables_1_3) (i := 5) rfl)))) rfl
theorem aL_X_159 : (Jvm.Cond.constantLong "ShopDesks" (159 : Nat) (1000000000 : Int64)) ∈ aw := aw_t (List.mem_append_right _ (List.mem_append_right _ (List.mem_append_left _ (List.mem_of_getElem? (l := tables_1_3) (i := 6) rfl)))) rfl
theorem aM_X_167 : (Jvm.Cond.methodLink "ShopDesks" (167 : Nat) ({ cls := "ShopDesks$Entry", name := "isClosed", desc := "()Z" } : Jvm.MethodName)) ∈ aw := aw_t (List.mem_append_right _ (List.mem_append_right _ (List.mem_append_left _ (List.mem_of_getElem? (l := tables_1_3) (i := 8) rfl)))) rfl
theorem aI_E_isClosed : (Jvm.Cond.instanceMethod ({ cls := "ShopDesks$Entry", name := "isClosed", desc := "()Z" } : Jvm.MethodName)) ∈ aw := aw_t (List.mem_append_right _ (List.mem_append_right _ (List.mem_append_left _ (List.mem_of_getElem? (l := tables_1_3) (i := 9) rfl)))) rfl
theorem aV_E_isClosed : (Jvm.Cond.selects "ShopDesks$Entry" ({ cls := "ShopDesks$Entry", name := "isClosed", desc := "()Z" } : Jvm.MethodName) ({ cls := "ShopDesks$Entry", name := "isClosed", desc := "()Z" } : Jvm.MethodName)) ∈ aw := aw_t (List.mem_append_right _ (List.mem_append_right _ (List.mem_append_left _ (List.mem_of_getElem? (l := tables_1_3) (i := 10) rfl)))) rfl
theorem aK_E_isClosed : (Jvm.Cond.code ({ cls := "ShopDesks$Entry", name := "isClosed", desc := "()Z" } : Jvm.MethodName) prog_2_method_2_code (1 : Nat) (Option.some Jvm.ClassFile.FieldType.boolean)) ∈ aw := aw_t (List.mem_append_right _ (List.mem_append_right _ (List.mem_append_left _ (List.mem_of_getElem? (l := tables_1_3) (i := 11) rfl)))) rfl
theorem aM_X_177 : (Jvm.Cond.methodLink "ShopDesks" (177 : Nat) ({ cls := "ShopDesks$Entry", name := "addRow", desc := "(IJ)V" } : Jvm.MethodName)) ∈ aw := aw_t (List.mem_append_right _ (List.mem_append_right _ (List.mem_append_left _ (List.mem_of_getElem? (l := tables_1_3) (i := 13) rfl)))) rfl
theorem aI_E_addRow : (Jvm.Cond.instanceMethod ({ cls := "ShopDesks$Entry", name := "addRow", desc := "(IJ)V" } : Jvm.MethodName)) ∈ aw := aw_t (List.mem_append_right _ (List.mem_append_right _ (List.mem_append_left _ (List.mem_of_getElem? (l := tables_1_3) (i := 14) rfl)))) rfl
theorem aV_E_addRow : (Jvm.Cond.selects "ShopDesks$Entry" ({ cls := "ShopDesks$Entry", name := "addRow", desc := "(IJ)V" } : Jvm.MethodName) ({ cls := "ShopDesks$Entry", name := "addRow", desc := "(IJ)V" } : Jvm.MethodName)) ∈ aw := aw_t (List.mem_append_right _ (List.mem_append_right _ (List.mem_append_left _ (List.mem_of_getElem? (l := tables_1_3) (i := 15) rfl)))) rfl
theorem aK_E_addRow : (Jvm.Cond.code ({ cls := "ShopDesks$Entry", name := "addRow", desc := "(IJ)V" } : Jvm.MethodName) prog_2_method_3_code (4 : Nat) (Option.none : Option Jvm.ClassFile.FieldType)) ∈ aw := aw_t (List.mem_append_right _ (List.mem_append_right _ (List.mem_append_left _ (List.mem_of_getElem? (l := tables_1_3) (i := 16) rfl)))) rfl
theorem aM_W_136 : (Jvm.Cond.methodLink "ShopDesksLaw" (136 : Nat) ({ cls := "ShopDesksLaw", name := "close", desc := "(LShopDesks;I[J)I" } : Jvm.MethodName)) ∈ aw := aw_t (List.mem_append_right _ (List.mem_append_right _ (List.mem_append_left _ (List.mem_of_getElem? (l := tables_1_3) (i := 17) rfl)))) rfl
theorem aS_W_close : (Jvm.Cond.static ({ cls := "ShopDesksLaw", name := "close", desc := "(LShopDesks;I[J)I" } : Jvm.MethodName)) ∈ aw := aw_t (List.mem_append_right _ (List.mem_append_right _ (List.mem_append_left _ (List.mem_of_getElem? (l := tables_1_3) (i := 18) rfl)))) rfl
theorem aK_W_close : (Jvm.Cond.codeWith ({ cls := "ShopDesksLaw", name := "close", desc := "(LShopDesks;I[J)I" } : Jvm.MethodName) method_16_code (4 : Nat) (Option.some Jvm.ClassFile.FieldType.int) [((0 : Nat), (9 : Nat), (12 : Nat), (13 : Nat)), ((0 : Nat), (9 : Nat), (15 : Nat), (17 : Nat))]) ∈ aw := aw_t (List.mem_append_right _ (List.mem_append_right _ (List.mem_append_left _ (List.mem_of_getElem? (l := tables_1_3) (i := 19) rfl)))) rfl
theorem aM_W_63 : (Jvm.Cond.methodLink "ShopDesksLaw" (63 : Nat) ({ cls := "ShopDesks", name := "close", desc := "(I)I" } : Jvm.MethodName)) ∈ aw := aw_t (List.mem_append_right _ (List.mem_append_right _ (List.mem_append_left _ (List.mem_of_getElem? (l := tables_1_3) (i := 20) rfl)))) rfl
theorem aI_X_close : (Jvm.Cond.instanceMethod ({ cls := "ShopDesks", name := "close", desc := "(I)I" } : Jvm.MethodName)) ∈ aw := aw_t (List.mem_append_right _ (List.mem_append_right _ (List.mem_append_left _ (List.mem_of_getElem? (l := tables_1_3) (i := 21) rfl)))) rfl
theorem aV_X_close : (Jvm.Cond.selects "ShopDesks" ({ cls := "ShopDesks", name := "close", desc := "(I)I" } : Jvm.MethodName) ({ cls := "ShopDesks", name := "close", desc := "(I)I" } : Jvm.MethodName)) ∈ aw := aw_t (List.mem_append_right _ (List.mem_append_right _ (List.mem_append_left _ (List.mem_of_getElem? (l := tables_1_3) (i := 22) rfl)))) rfl
theorem aK_X_close : (Jvm.Cond.code ({ cls := "ShopDesks", name := "close", desc := "(I)I" } : Jvm.MethodName) prog_1_method_15_code (3 : Nat) (Option.some Jvm.ClassFile.FieldType.int)) ∈ aw := aw_t (List.mem_append_right _ (List.mem_append_right _ (List.mem_append_left _ (List.mem_of_getElem? (l := tables_1_3) (i := 23) rfl)))) rfl
theorem aM_X_186 : (Jvm.Cond.methodLink "ShopDesks" (186 : Nat) ({ cls := "ShopDesks$Ledger", name := "isInClosedMonth", desc := "(I)Z" } : Jvm.MethodName)) ∈ aw := aw_t (List.mem_append_right _ (List.mem_append_right _ (List.mem_append_left _ (List.mem_of_getElem? (l := tables_1_3) (i := 25) rfl)))) rfl
theorem aI_L_isInClosedMonth : (Jvm.Cond.instanceMethod ({ cls := "ShopDesks$Ledger", name := "isInClosedMonth", desc := "(I)Z" } : Jvm.MethodName)) ∈ aw := aw_t (List.mem_append_right _ (List.mem_append_right _ (List.mem_append_left _ (List.mem_of_getElem? (l := tables_1_3) (i := 26) rfl)))) rfl
theorem aV_L_isInClosedMonth : (Jvm.Cond.selects "ShopDesks$Ledger" ({ cls := "ShopDesks$Ledger", name := "isInClosedMonth", desc := "(I)Z" } : Jvm.MethodName) ({ cls := "ShopDesks$Ledger", name := "isInClosedMonth", desc := "(I)Z" } : Jvm.MethodName)) ∈ aw := aw_t (List.mem_append_right _ (List.mem_append_right _ (List.mem_append_left _ (List.mem_of_getElem? (l := tables_1_3) (i := 27) rfl)))) rfl
theorem aK_L_isInClosedMonth : (Jvm.Cond.code ({ cls := "ShopDesks$Ledger", name := "isInClosedMonth", desc := "(I)Z" } : Jvm.MethodName) prog_3_method_5_code (2 : Nat) (Option.some Jvm.ClassFile.FieldType.boolean)) ∈ aw := aw_t (List.mem_append_right _ (List.mem_append_right _ (List.mem_append_left _ (List.mem_of_getElem? (l := tables_1_3) (i := 28) rfl)))) rfl
theorem aM_X_189 : (Jvm.Cond.methodLink "ShopDesks" (189 : Nat) ({ cls := "ShopDesks$Entry", name := "isBalanced", desc := "()Z" } : Jvm.MethodName)) ∈ aw := aw_t (List.mem_append_right _ (List.mem_append_right _ (List.mem_append_left _ (List.mem_of_getElem? (l := tables_1_3) (i := 29) rfl)))) rfl
theorem aI_E_isBalanced : (Jvm.Cond.instanceMethod ({ cls := "ShopDesks$Entry", name := "isBalanced", desc := "()Z" } : Jvm.MethodName)) ∈ aw := aw_t (List.mem_append_right _ (List.mem_append_right _ (List.mem_append_left _ (List.mem_of_getElem? (l := tables_1_3) (i := 30) rfl)))) rfl
theorem aV_E_isBalanced : (Jvm.Cond.selects "ShopDesks$Entry" ({ cls := "ShopDesks$Entry", name := "isBalanced", desc := "()Z" } : Jvm.MethodName) ({ cls := "ShopDesks$Entry", name := "isBalanced", desc := "()Z" } : Jvm.MethodName)) ∈ aw := aw_t (List.mem_append_right _ (List.mem_append_right _ (List.mem_append_left _ (List.mem_of_getElem? (l := tables_1_3) (i := 31) rfl)))) rfl
theorem aK_E_isBalanced : (Jvm.Cond.code ({ cls := "ShopDesks$Entry", name := "isBalanced", desc := "()Z" } : Jvm.MethodName) prog_2_method_5_code (4 : Nat) (Option.some Jvm.ClassFile.FieldType.boolean)) ∈ aw := aw_t (List.mem_append_right _ (List.mem_append_right _ (List.mem_append_left _ (List.mem_of_getElem? (l := tables_1_3) (i := 32) rfl)))) rfl
theorem aM_X_192 : (Jvm.Cond.methodLink "ShopDesks" (192 : Nat) ({ cls := "ShopDesks$Ledger", name := "giveNumber", desc := "(I)I" } : Jvm.MethodName)) ∈ aw := aw_t (List.mem_append_right _ (List.mem_append_right _ (List.mem_append_left _ (List.mem_of_getElem? (l := tables_1_3) (i := 33) rfl)))) rfl
theorem aI_L_giveNumber : (Jvm.Cond.instanceMethod ({ cls := "ShopDesks$Ledger", name := "giveNumber", desc := "(I)I" } : Jvm.MethodName)) ∈ aw := aw_t (List.mem_append_right _ (List.mem_append_right _ (List.mem_append_left _ (List.mem_of_getElem? (l := tables_1_3) (i := 34) rfl)))) rfl
theorem aV_L_giveNumber : (Jvm.Cond.selects "ShopDesks$Ledger" ({ cls := "ShopDesks$Ledger", name := "giveNumber", desc := "(I)I" } : Jvm.MethodName) ({ cls := "ShopDesks$Ledger", name := "giveNumber", desc := "(I)I" } : Jvm.MethodName)) ∈ aw := aw_t (List.mem_append_right _ (List.mem_append_right _ (List.mem_append_left _ (List.mem_of_getElem? (l := tables_1_3) (i := 35) rfl)))) rfl
theorem aK_L_giveNumber : (Jvm.Cond.code ({ cls := "ShopDesks$Ledger", name := "giveNumber", desc := "(I)I" } : Jvm.MethodName) prog_3_method_3_code (2 : Nat) (Option.some Jvm.ClassFile.FieldType.int)) ∈ aw := aw_t (List.mem_append_right _ (List.mem_append_right _ (List.mem_append_left _ (List.mem_of_getElem? (l := tables_1_3) (i := 36) rfl)))) rfl
theorem aM_W_139 : (Jvm.Cond.methodLink "ShopDesksLaw" (139 : Nat) ({ cls := "ShopDesksLaw", name := "balance", desc := "(LShopDesks;II[J)I" } : Jvm.MethodName)) ∈ aw := aw_t (List.mem_append_right _ (List.mem_append_right _ (List.mem_append_left _ (List.mem_of_getElem? (l := tables_1_3) (i := 37) rfl)))) rfl
theorem aS_W_balance : (Jvm.Cond.static ({ cls := "ShopDesksLaw", name := "balance", desc := "(LShopDesks;II[J)I" } : Jvm.MethodName)) ∈ aw := aw_t (List.mem_append_right _ (List.mem_append_right _ (List.mem_append_left _ (List.mem_of_getElem? (l := tables_1_3) (i := 38) rfl)))) rfl
theorem aK_W_balance : (Jvm.Cond.codeWith ({ cls := "ShopDesksLaw", name := "balance", desc := "(LShopDesks;II[J)I" } : Jvm.MethodName) method_17_code (5 : Nat) (Option.some Jvm.ClassFile.FieldType.int) [((0 : Nat), (9 : Nat), (12 : Nat), (13 : Nat))]) ∈ aw := aw_t (List.mem_append_right _ (List.mem_append_right _ (List.mem_append_left _ (List.mem_of_getElem? (l := tables_1_3) (i := 39) rfl)))) rfl
theorem aM_W_66 : (Jvm.Cond.methodLink "ShopDesksLaw" (66 : Nat) ({ cls := "ShopDesks", name := "balance", desc := "(II)J" } : Jvm.MethodName)) ∈ aw := aw_t (List.mem_append_right _ (List.mem_append_right _ (List.mem_append_left _ (List.mem_of_getElem? (l := tables_1_3) (i := 40) rfl)))) rfl
theorem aI_X_balance : (Jvm.Cond.instanceMethod ({ cls := "ShopDesks", name := "balance", desc := "(II)J" } : Jvm.MethodName)) ∈ aw := aw_t (List.mem_append_right _ (List.mem_append_right _ (List.mem_append_left _ (List.mem_of_getElem? (l := tables_1_3) (i := 41) rfl)))) rfl
theorem aV_X_balance : (Jvm.Cond.selects "ShopDesks" ({ cls := "ShopDesks", name := "balance", desc := "(II)J" } : Jvm.MethodName) ({ cls := "ShopDesks", name := "balance", desc := "(II)J" } : Jvm.MethodName)) ∈ aw := aw_t (List.mem_append_right _ (List.mem_append_right _ (List.mem_append_left _ (List.mem_of_getElem? (l := tables_1_3) (i := 42) rfl)))) rfl
theorem aK_X_balance : (Jvm.Cond.code ({ cls := "ShopDesks", name := "balance", desc := "(II)J" } : Jvm.MethodName) prog_1_method_16_code (3 : Nat) (Option.some Jvm.ClassFile.FieldType.long)) ∈ aw := aw_t (List.mem_append_right _ (List.mem_append_right _ (List.mem_append_left _ (List.mem_of_getElem? (l := tables_1_3) (i := 43) rfl)))) rfl
theorem aM_X_195 : (Jvm.Cond.methodLink "ShopDesks" (195 : Nat) ({ cls := "ShopDesks$Ledger", name := "sumUpTo", desc := "(II)J" } : Jvm.MethodName)) ∈ aw := aw_t (List.mem_append_right _ (List.mem_append_right _ (List.mem_append_left _ (List.mem_of_getElem? (l := tables_1_3) (i := 44) rfl)))) rfl
theorem aI_L_sumUpTo : (Jvm.Cond.instanceMethod ({ cls := "ShopDesks$Ledger", name := "sumUpTo", desc := "(II)J" } : Jvm.MethodName)) ∈ aw := aw_t (List.mem_append_right _ (List.mem_append_right _ (List.mem_append_left _ (List.mem_of_getElem? (l := tables_1_3) (i := 45) rfl)))) rfl
theorem aV_L_sumUpTo : (Jvm.Cond.selects "ShopDesks$Ledger" ({ cls := "ShopDesks$Ledger", name := "sumUpTo", desc := "(II)J" } : Jvm.MethodName) ({ cls := "ShopDesks$Ledger", name := "sumUpTo", desc := "(II)J" } : Jvm.MethodName)) ∈ aw := aw_t (List.mem_append_right _ (List.mem_append_right _ (List.mem_append_left _ (List.mem_of_getElem? (l := tables_1_3) (i := 46) rfl)))) rfl
theorem aK_L_sumUpTo : (Jvm.Cond.code ({ cls := "ShopDesks$Ledger", name := "sumUpTo", desc := "(II)J" } : Jvm.MethodName) prog_3_method_6_code (6 : Nat) (Option.some Jvm.ClassFile.FieldType.long)) ∈ aw := aw_t (List.mem_append_right _ (List.mem_append_right _ (List.mem_append_left _ (List.mem_of_getElem? (l := tables_1_3) (i := 47) rfl)))) rfl
theorem aM_L_56 : (Jvm.Cond.methodLink "ShopDesks$Ledger" (56 : Nat) ({ cls := "ShopDesks$Entry", name := "isClosed", desc := "()Z" } : Jvm.MethodName)) ∈ aw := aw_t (List.mem_append_right _ (List.mem_append_right _ (List.mem_append_left _ (List.mem_of_getElem? (l := tables_1_3) (i := 48) rfl)))) rfl
theorem aM_L_60 : (Jvm.Cond.methodLink "ShopDesks$Ledger" (60 : Nat) ({ cls := "ShopDesks$Entry", name := "sumOf", desc := "(I)J" } : Jvm.MethodName)) ∈ aw := aw_t (List.mem_append_right _ (List.mem_append_right _ (List.mem_append_left _ (List.mem_of_getElem? (l := tables_1_3) (i := 49) rfl)))) rfl
theorem aI_E_sumOf : (Jvm.Cond.instanceMethod ({ cls := "ShopDesks$Entry", name := "sumOf", desc := "(I)J" } : Jvm.MethodName)) ∈ aw := aw_t (List.mem_append_right _ (List.mem_append_right _ (List.mem_append_left _ (List.mem_of_getElem? (l := tables_1_3) (i := 50) rfl)))) rfl
theorem aV_E_sumOf : (Jvm.Cond.selects "ShopDesks$Entry" ({ cls := "ShopDesks$Entry", name := "sumOf", desc := "(I)J" } : Jvm.MethodName) ({ cls := "ShopDesks$Entry", name := "sumOf", desc := "(I)J" } : Jvm.MethodName)) ∈ aw := aw_t (List.mem_append_right _ (List.mem_append_right _ (List.mem_append_left _ (List.mem_of_getElem? (l := tables_1_3) (i := 51) rfl)))) rfl
theorem aK_E_sumOf : (Jvm.Cond.code ({ cls := "ShopDesks$Entry", name := "sumOf", desc := "(I)J" } : Jvm.MethodName) prog_2_method_6_code (5 : Nat) (Option.some Jvm.ClassFile.FieldType.long)) ∈ aw := aw_t (List.mem_append_right _ (List.mem_append_right _ (List.mem_append_left _ (List.mem_of_getElem? (l := tables_1_3) (i := 52) rfl)))) rfl
theorem aM_W_142 : (Jvm.Cond.methodLink "ShopDesksLaw" (142 : Nat) ({ cls := "ShopDesksLaw", name := "closeMonth", desc := "(LShopDesks;I[J)I" } : Jvm.MethodName)) ∈ aw := aw_t (List.mem_append_right _ (List.mem_append_right _ (List.mem_append_left _ (List.mem_of_getElem? (l := tables_1_3) (i := 53) rfl)))) rfl
theorem aS_W_closeMonth : (Jvm.Cond.static ({ cls := "ShopDesksLaw", name := "closeMonth", desc := "(LShopDesks;I[J)I" } : Jvm.MethodName)) ∈ aw := aw_t (List.mem_append_right _ (List.mem_append_right _ (List.mem_append_left _ (List.mem_of_getElem? (l := tables_1_3) (i := 54) rfl)))) rfl
theorem aK_W_closeMonth : (Jvm.Cond.codeWith ({ cls := "ShopDesksLaw", name := "closeMonth", desc := "(LShopDesks;I[J)I" } : Jvm.MethodName) method_18_code (4 : Nat) (Option.some Jvm.ClassFile.FieldType.int) [((0 : Nat), (16 : Nat), (19 : Nat), (15 : Nat))]) ∈ aw := aw_t (List.mem_append_right _ (List.mem_append_right _ (List.mem_append_left _ (List.mem_of_getElem? (l := tables_1_3) (i := 55) rfl)))) rfl
theorem aM_W_70 : (Jvm.Cond.methodLink "ShopDesksLaw" (70 : Nat) ({ cls := "ShopDesks", name := "closeMonth", desc := "(I)Z" } : Jvm.MethodName)) ∈ aw := aw_t (List.mem_append_right _ (List.mem_append_right _ (List.mem_append_left _ (List.mem_of_getElem? (l := tables_1_3) (i := 56) rfl)))) rfl
theorem aI_X_closeMonth : (Jvm.Cond.instanceMethod ({ cls := "ShopDesks", name := "closeMonth", desc := "(I)Z" } : Jvm.MethodName)) ∈ aw := aw_t (List.mem_append_right _ (List.mem_append_right _ (List.mem_append_left _ (List.mem_of_getElem? (l := tables_1_3) (i := 57) rfl)))) rfl
theorem aV_X_closeMonth : (Jvm.Cond.selects "ShopDesks" ({ cls := "ShopDesks", name := "closeMonth", desc := "(I)Z" } : Jvm.MethodName) ({ cls := "ShopDesks", name := "closeMonth", desc := "(I)Z" } : Jvm.MethodName)) ∈ aw := aw_t (List.mem_append_right _ (List.mem_append_right _ (List.mem_append_left _ (List.mem_of_getElem? (l := tables_1_3) (i := 58) rfl)))) rfl
theorem aK_X_closeMonth : (Jvm.Cond.code ({ cls := "ShopDesks", name := "closeMonth", desc := "(I)Z" } : Jvm.MethodName) prog_1_method_17_code (2 : Nat) (Option.some Jvm.ClassFile.FieldType.boolean)) ∈ aw := aw_t (List.mem_append_right _ (List.mem_append_right _ (List.mem_append_left _ (List.mem_of_getElem? (l := tables_1_3) (i := 59) rfl)))) rfl
theorem aM_W_145 : (Jvm.Cond.methodLink "ShopDesksLaw" (145 : Nat) ({ cls := "ShopDesksLaw", name := "reverse", desc := "(LShopDesks;II[J)I" } : Jvm.MethodName)) ∈ aw := aw_t (List.mem_append_right _ (List.mem_append_right _ (List.mem_append_left _ (List.mem_of_getElem? (l := tables_1_3) (i := 61) rfl)))) rfl
theorem aS_W_reverse : (Jvm.Cond.static ({ cls := "ShopDesksLaw", name := "reverse", desc := "(LShopDesks;II[J)I" } : Jvm.MethodName)) ∈ aw := aw_t (List.mem_append_right _ (List.mem_append_right _ (List.mem_append_left _ (List.mem_of_getElem? (l := tables_1_3) (i := 62) rfl)))) rfl
theorem aK_W_reverse : (Jvm.Cond.codeWith ({ cls := "ShopDesksLaw", name := "reverse", desc := "(LShopDesks;II[J)I" } : Jvm.MethodName) method_19_code (5 : Nat) (Option.some Jvm.ClassFile.FieldType.int) [((0 : Nat), (10 : Nat), (13 : Nat), (13 : Nat)), ((0 : Nat), (10 : Nat), (17 : Nat), (15 : Nat)), ((0 : Nat), (10 : Nat), (21 : Nat), (17 : Nat))]) ∈ aw := aw_t (List.mem_append_right _ (List.mem_append_right _ (List.mem_append_left _ (List.mem_of_getElem? (l := tables_1_3) (i := 63) rfl)))) rfl
theorem aM_W_74 : (Jvm.Cond.methodLink "ShopDesksLaw" (74 : Nat) ({ cls := "ShopDesks", name := "reverse", desc := "(II)I" } : Jvm.MethodName)) ∈ aw := aw_t (List.mem_append_right _ (List.mem_append_right _ (List.mem_append_left _ (List.mem_of_getElem? (l := tables_1_3) (i := 64) rfl)))) rfl
theorem aI_X_reverse : (Jvm.Cond.instanceMethod ({ cls := "ShopDesks", name := "reverse", desc := "(II)I" } : Jvm.MethodName)) ∈ aw := aw_t (List.mem_append_right _ (List.mem_append_right _ (List.mem_append_left _ (List.mem_of_getElem? (l := tables_1_3) (i := 65) rfl)))) rfl
theorem aV_X_reverse : (Jvm.Cond.selects "ShopDesks" ({ cls := "ShopDesks", name := "reverse", desc := "(II)I" } : Jvm.MethodName) ({ cls := "ShopDesks", name := "reverse", desc := "(II)I" } : Jvm.MethodName)) ∈ aw := aw_t (List.mem_append_right _ (List.mem_append_right _ (List.mem_append_left _ (List.mem_of_getElem? (l := tables_1_3) (i := 66) rfl)))) rfl
theorem aK_X_reverse : (Jvm.Cond.code ({ cls := "ShopDesks", name := "reverse", desc := "(II)I" } : Jvm.MethodName) prog_1_method_18_code (4 : Nat) (Option.some Jvm.ClassFile.FieldType.int)) ∈ aw := aw_t (List.mem_append_right _ (List.mem_append_right _ (List.mem_append_left _ (List.mem_of_getElem? (l := tables_1_3) (i := 67) rfl)))) rfl
theorem aM_X_221 : (Jvm.Cond.methodLink "ShopDesks" (221 : Nat) ({ cls := "ShopDesks$Ledger", name := "addReversal", desc := "(LShopDesks$Entry;I)I" } : Jvm.MethodName)) ∈ aw := aw_t (List.mem_append_right _ (List.mem_append_right _ (List.mem_append_left _ (List.mem_of_getElem? (l := tables_1_3) (i := 70) rfl)))) rfl
theorem aI_L_addReversal : (Jvm.Cond.instanceMethod ({ cls := "ShopDesks$Ledger", name := "addReversal", desc := "(LShopDesks$Entry;I)I" } : Jvm.MethodName)) ∈ aw := aw_t (List.mem_append_right _ (List.mem_append_right _ (List.mem_append_left _ (List.mem_of_getElem? (l := tables_1_3) (i := 71) rfl)))) rfl
theorem aV_L_addReversal : (Jvm.Cond.selects "ShopDesks$Ledger" ({ cls := "ShopDesks$Ledger", name := "addReversal", desc := "(LShopDesks$Entry;I)I" } : Jvm.MethodName) ({ cls := "ShopDesks$Ledger", name := "addReversal", desc := "(LShopDesks$Entry;I)I" } : Jvm.MethodName)) ∈ aw := aw_t (List.mem_append_right _ (List.mem_append_right _ (List.mem_append_left _ (List.mem_of_getElem? (l := tables_1_3) (i := 72) rfl)))) rfl
theorem aK_L_addReversal : (Jvm.Cond.code ({ cls := "ShopDesks$Ledger", name := "addReversal", desc := "(LShopDesks$Entry;I)I" } : Jvm.MethodName) prog_3_method_4_code (4 : Nat) (Option.some Jvm.ClassFile.FieldType.int)) ∈ aw := aw_t (List.mem_append_right _ (List.mem_append_right _ (List.mem_append_left _ (List.mem_of_getElem? (l := tables_1_3) (i := 73) rfl)))) rfl
theorem aM_L_38 : (Jvm.Cond.methodLink "ShopDesks$Ledger" (38 : Nat) ({ cls := "ShopDesks$Ledger", name := "openEntry", desc := "(I)I" } : Jvm.MethodName)) ∈ aw := aw_t (List.mem_append_right _ (List.mem_append_right _ (List.mem_append_left _ (List.mem_of_getElem? (l := tables_1_3) (i := 74) rfl)))) rfl
theorem aM_L_42 : (Jvm.Cond.methodLink "ShopDesks$Ledger" (42 : Nat) ({ cls := "ShopDesks$Entry", name := "takeTurnedRound", desc := "(LShopDesks$Entry;)V" } : Jvm.MethodName)) ∈ aw := aw_t (List.mem_append_right _ (List.mem_append_right _ (List.mem_append_left _ (List.mem_of_getElem? (l := tables_1_3) (i := 75) rfl)))) rfl
theorem aI_E_takeTurnedRound : (Jvm.Cond.instanceMethod ({ cls := "ShopDesks$Entry", name := "takeTurnedRound", desc := "(LShopDesks$Entry;)V" } : Jvm.MethodName)) ∈ aw := aw_t (List.mem_append_right _ (List.mem_append_right _ (List.mem_append_left _ (List.mem_of_getElem? (l := tables_1_3) (i := 76) rfl)))) rfl
theorem aV_E_takeTurnedRound : (Jvm.Cond.selects "ShopDesks$Entry" ({ cls := "ShopDesks$Entry", name := "takeTurnedRound", desc := "(LShopDesks$Entry;)V" } : Jvm.MethodName) ({ cls := "ShopDesks$Entry", name := "takeTurnedRound", desc := "(LShopDesks$Entry;)V" } : Jvm.MethodName)) ∈ aw := aw_t (List.mem_append_right _ (List.mem_append_right _ (List.mem_append_left _ (List.mem_of_getElem? (l := tables_1_3) (i := 77) rfl)))) rfl
theorem aK_E_takeTurnedRound : (Jvm.Cond.code ({ cls := "ShopDesks$Entry", name := "takeTurnedRound", desc := "(LShopDesks$Entry;)V" } : Jvm.MethodName) prog_2_method_4_code (3 : Nat) (Option.none : Option Jvm.ClassFile.FieldType)) ∈ aw := aw_t (List.mem_append_right _ (List.mem_append_right _ (List.mem_append_left _ (List.mem_of_getElem? (l := tables_1_3) (i := 78) rfl)))) rfl
theorem aM_E_36 : (Jvm.Cond.methodLink "ShopDesks$Entry" (36 : Nat) ({ cls := "ShopDesks$Entry", name := "addRow", desc := "(IJ)V" } : Jvm.MethodName)) ∈ aw := aw_t (List.mem_append_right _ (List.mem_append_right _ (List.mem_append_left _ (List.mem_of_getElem? (l := tables_1_3) (i := 79) rfl)))) rfl
theorem aM_L_53 : (Jvm.Cond.methodLink "ShopDesks$Ledger" (53 : Nat) ({ cls := "ShopDesks$Ledger", name := "giveNumber", desc := "(I)I" } : Jvm.MethodName)) ∈ aw := aw_t (List.mem_append_right _ (List.mem_append_right _ (List.mem_append_left _ (List.mem_of_getElem? (l := tables_1_3) (i := 80) rfl)))) rfl
theorem aC_W_78 : (Jvm.Cond.classLink "ShopDesksLaw" (78 : Nat) "ShopDesksModel") ∈ aw := aw_t (List.mem_append_right _ (List.mem_append_right _ (List.mem_append_left _ (List.mem_of_getElem? (l := tables_1_3) (i := 81) rfl)))) rfl
theorem aT_M : (Jvm.Cond.instantiable "ShopDesksModel" (22 : Nat)) ∈ aw := aw_t (List.mem_append_right _ (List.mem_append_right _ (List.mem_append_left _ (List.mem_of_getElem? (l := tables_1_3) (i := 82) rfl)))) rfl
theorem aM_W_80 : (Jvm.Cond.methodLink "ShopDesksLaw" (80 : Nat) ({ cls := "ShopDesksModel", name := "<init>", desc := "()V" } : Jvm.MethodName)) ∈ aw := aw_t (List.mem_append_right _ (List.mem_append_right _ (List.mem_append_left _ (List.mem_of_getElem? (l := tables_1_3) (i := 83) rfl)))) rfl
theorem aI_M_init : (Jvm.Cond.instanceMethod ({ cls := "ShopDesksModel", name := "<init>", desc := "()V" } : Jvm.MethodName)) ∈ aw := aw_t (List.mem_append_right _ (List.mem_append_right _ (List.mem_append_left _ (List.mem_of_getElem? (l := tables_1_3) (i := 84) rfl)))) rfl
theorem aK_M_init : (Jvm.Cond.code ({ cls := "ShopDesksModel", name := "<init>", desc := "()V" } : Jvm.MethodName) prog_7_method_1_code (1 : Nat) (Option.none : Option Jvm.ClassFile.FieldType)) ∈ aw := aw_t (List.mem_append_right _ (List.mem_append_right _ (List.mem_append_left _ (List.mem_of_getElem? (l := tables_1_3) (i := 85) rfl)))) rfl
theorem aM_M_1 : (Jvm.Cond.methodLink "ShopDesksModel" (1 : Nat) ({ cls := "java/lang/Object", name := "<init>", desc := "()V" } : Jvm.MethodName)) ∈ aw := aw_t (List.mem_append_right _ (List.mem_append_right _ (List.mem_append_left _ (List.mem_of_getElem? (l := tables_1_3) (i := 86) rfl)))) rfl
theorem aF_M_64 : (Jvm.Cond.fieldLink "ShopDesksModel" (64 : Nat) "ShopDesksModel" "code" "I") ∈ aw := aw_t (List.mem_append_right _ (List.mem_append_right _ (List.mem_append_left _ (List.mem_of_getElem? (l := tables_1_3) (i := 87) rfl)))) rfl
theorem aF_M_67 : (Jvm.Cond.fieldLink "ShopDesksModel" (67 : Nat) "ShopDesksModel" "told" "I") ∈ aw := aw_t (List.mem_append_right _ (List.mem_append_right _ (List.mem_append_left _ (List.mem_of_getElem? (l := tables_1_3) (i := 88) rfl)))) rfl
theorem aF_M_7 : (Jvm.Cond.fieldLink "ShopDesksModel" (7 : Nat) "ShopDesksModel" "tellers" "[I") ∈ aw := aw_t (List.mem_append_right _ (List.mem_append_right _ (List.mem_append_left _ (List.mem_of_getElem? (l := tables_1_3) (i := 89) rfl)))) rfl
theorem aF_M_13 : (Jvm.Cond.fieldLink "ShopDesksModel" (13 : Nat) "ShopDesksModel" "numbers" "[J") ∈ aw := aw_t (List.mem_append_right _ (List.mem_append_right _ (List.mem_append_left _ (List.mem_of_getElem? (l := tables_1_3) (i := 90) rfl)))) rfl
theorem aF_M_17 : (Jvm.Cond.fieldLink "ShopDesksModel" (17 : Nat) "ShopDesksModel" "things" "[I") ∈ aw := aw_t (List.mem_append_right _ (List.mem_append_right _ (List.mem_append_left _ (List.mem_of_getElem? (l := tables_1_3) (i := 91) rfl)))) rfl
theorem aF_M_20 : (Jvm.Cond.fieldLink "ShopDesksModel" (20 : Nat) "ShopDesksModel" "kinds" "[I") ∈ aw := aw_t (List.mem_append_right _ (List.mem_append_right _ (List.mem_append_left _ (List.mem_of_getElem? (l := tables_1_3) (i := 92) rfl)))) rfl
theorem aF_M_23 : (Jvm.Cond.fieldLink "ShopDesksModel" (23 : Nat) "ShopDesksModel" "values" "[J") ∈ aw := aw_t (List.mem_append_right _ (List.mem_append_right _ (List.mem_append_left _ (List.mem_of_getElem? (l := tables_1_3) (i := 93) rfl)))) rfl
theorem aF_M_26 : (Jvm.Cond.fieldLink "ShopDesksModel" (26 : Nat) "ShopDesksModel" "ons" "[J") ∈ aw := aw_t (List.mem_append_right _ (List.mem_append_right _ (List.mem_append_left _ (List.mem_of_getElem? (l := tables_1_3) (i := 94) rfl)))) rfl
theorem aF_M_86 : (Jvm.Cond.fieldLink "ShopDesksModel" (86 : Nat) "ShopDesksModel" "sets" "I") ∈ aw := aw_t (List.mem_append_right _ (List.mem_append_right _ (List.mem_append_left _ (List.mem_of_getElem? (l := tables_1_3) (i := 95) rfl)))) rfl
theorem aF_M_29 : (Jvm.Cond.fieldLink "ShopDesksModel" (29 : Nat) "ShopDesksModel" "sizes" "[I") ∈ aw := aw_t (List.mem_append_right _ (List.mem_append_right _ (List.mem_append_left _ (List.mem_of_getElem? (l := tables_1_3) (i := 96) rfl)))) rfl
theorem aF_M_32 : (Jvm.Cond.fieldLink "ShopDesksModel" (32 : Nat) "ShopDesksModel" "rows" "[I") ∈ aw := aw_t (List.mem_append_right _ (List.mem_append_right _ (List.mem_append_left _ (List.mem_of_getElem? (l := tables_1_3) (i := 97) rfl)))) rfl
theorem aF_M_35 : (Jvm.Cond.fieldLink "ShopDesksModel" (35 : Nat) "ShopDesksModel" "batches" "[I") ∈ aw := aw_t (List.mem_append_right _ (List.mem_append_right _ (List.mem_append_left _ (List.mem_of_getElem? (l := tables_1_3) (i := 98) rfl)))) rfl
theorem aF_M_38 : (Jvm.Cond.fieldLink "ShopDesksModel" (38 : Nat) "ShopDesksModel" "rights" "[Z") ∈ aw := aw_t (List.mem_append_right _ (List.mem_append_right _ (List.mem_append_left _ (List.mem_of_getElem? (l := tables_1_3) (i := 99) rfl)))) rfl
theorem aF_M_138 : (Jvm.Cond.fieldLink "ShopDesksModel" (138 : Nat) "ShopDesksModel" "entries" "I") ∈ aw := aw_t (List.mem_append_right _ (List.mem_append_right _ (List.mem_append_left _ (List.mem_of_getElem? (l := tables_1_3) (i := 100) rfl)))) rfl
theorem aF_M_42 : (Jvm.Cond.fieldLink "ShopDesksModel" (42 : Nat) "ShopDesksModel" "days" "[I") ∈ aw := aw_t (List.mem_append_right _ (List.mem_append_right _ (List.mem_append_left _ (List.mem_of_getElem? (l := tables_1_3) (i := 101) rfl)))) rfl
theorem aF_M_45 : (Jvm.Cond.fieldLink "ShopDesksModel" (45 : Nat) "ShopDesksModel" "many" "[I") ∈ aw := aw_t (List.mem_append_right _ (List.mem_append_right _ (List.mem_append_left _ (List.mem_of_getElem? (l := tables_1_3) (i := 102) rfl)))) rfl
theorem aF_M_48 : (Jvm.Cond.fieldLink "ShopDesksModel" (48 : Nat) "ShopDesksModel" "accounts" "[I") ∈ aw := aw_t (List.mem_append_right _ (List.mem_append_right _ (List.mem_append_left _ (List.mem_of_getElem? (l := tables_1_3) (i := 103) rfl)))) rfl
theorem aF_M_51 : (Jvm.Cond.fieldLink "ShopDesksModel" (51 : Nat) "ShopDesksModel" "cents" "[J") ∈ aw := aw_t (List.mem_append_right _ (List.mem_append_right _ (List.mem_append_left _ (List.mem_of_getElem? (l := tables_1_3) (i := 104) rfl)))) rfl
theorem aF_M_54 : (Jvm.Cond.fieldLink "ShopDesksModel" (54 : Nat) "ShopDesksModel" "closedAs" "[I") ∈ aw := aw_t (List.mem_append_right _ (List.mem_append_right _ (List.mem_append_left _ (List.mem_of_getElem? (l := tables_1_3) (i := 105) rfl)))) rfl
theorem aF_M_57 : (Jvm.Cond.fieldLink "ShopDesksModel" (57 : Nat) "ShopDesksModel" "reversed" "[Z") ∈ aw := aw_t (List.mem_append_right _ (List.mem_append_right _ (List.mem_append_left _ (List.mem_of_getElem? (l := tables_1_3) (i := 106) rfl)))) rfl
theorem aF_M_156 : (Jvm.Cond.fieldLink "ShopDesksModel" (156 : Nat) "ShopDesksModel" "closed" "I") ∈ aw := aw_t (List.mem_append_right _ (List.mem_append_right _ (List.mem_append_left _ (List.mem_of_getElem? (l := tables_1_3) (i := 107) rfl)))) rfl
theorem aF_M_60 : (Jvm.Cond.fieldLink "ShopDesksModel" (60 : Nat) "ShopDesksModel" "closedMonth" "I") ∈ aw := aw_t (List.mem_append_right _ (List.mem_append_right _ (List.mem_append_left _ (List.mem_of_getElem? (l := tables_1_3) (i := 108) rfl)))) rfl
theorem aM_W_125 : (Jvm.Cond.methodLink "ShopDesksLaw" (125 : Nat) ({ cls := "ShopDesksModel", name := "thrown", desc := "()I" } : Jvm.MethodName)) ∈ aw := aw_t (List.mem_append_right _ (List.mem_append_right _ (List.mem_append_left _ (List.mem_of_getElem? (l := tables_1_3) (i := 154) rfl)))) rfl
theorem aI_M_thrown : (Jvm.Cond.instanceMethod ({ cls := "ShopDesksModel", name := "thrown", desc := "()I" } : Jvm.MethodName)) ∈ aw := aw_t (List.mem_append_right _ (List.mem_append_right _ (List.mem_append_left _ (List.mem_of_getElem? (l := tables_1_3) (i := 155) rfl)))) rfl
theorem aV_M_thrown : (Jvm.Cond.selects "ShopDesksModel" ({ cls := "ShopDesksModel", name := "thrown", desc := "()I" } : Jvm.MethodName) ({ cls := "ShopDesksModel", name := "thrown", desc := "()I" } : Jvm.MethodName)) ∈ aw := aw_t (List.mem_append_right _ (List.mem_append_right _ (List.mem_append_left _ (List.mem_of_getElem? (l := tables_1_3) (i := 156) rfl)))) rfl
theorem aK_M_thrown : (Jvm.Cond.code ({ cls := "ShopDesksModel", name := "thrown", desc := "()I" } : Jvm.MethodName) prog_7_method_2_code (1 : Nat) (Option.some Jvm.ClassFile.FieldType.int)) ∈ aw := aw_t (List.mem_append_right _ (List.mem_append_right _ (List.mem_append_left _ (List.mem_of_getElem? (l := tables_1_3) (i := 157) rfl)))) rfl
theorem aM_W_88 : (Jvm.Cond.methodLink "ShopDesksLaw" (88 : Nat) ({ cls := "ShopDesksModel", name := "tell", desc := "(IJIIJJ)I" } : Jvm.MethodName)) ∈ aw := aw_t (List.mem_append_right _ (List.mem_append_right _ (List.mem_append_left _ (List.mem_of_getElem? (l := tables_1_3) (i := 158) rfl)))) rfl
theorem aI_M_tell : (Jvm.Cond.instanceMethod ({ cls := "ShopDesksModel", name := "tell", desc := "(IJIIJJ)I" } : Jvm.MethodName)) ∈ aw := aw_t (List.mem_append_right _ (List.mem_append_right _ (List.mem_append_left _ (List.mem_of_getElem? (l := tables_1_3) (i := 159) rfl)))) rfl
theorem aV_M_tell : (Jvm.Cond.selects "ShopDesksModel" ({ cls := "ShopDesksModel", name := "tell", desc := "(IJIIJJ)I" } : Jvm.MethodName) ({ cls := "ShopDesksModel", name := "tell", desc := "(IJIIJJ)I" } : Jvm.MethodName)) ∈ aw := aw_t (List.mem_append_right _ (List.mem_append_right _ (List.mem_append_left _ (List.mem_of_getElem? (l := tables_1_3) (i := 160) rfl)))) rfl
theorem aK_M_tell : (Jvm.Cond.code ({ cls := "ShopDesksModel", name := "tell", desc := "(IJIIJJ)I" } : Jvm.MethodName) prog_7_method_6_code (10 : Nat) (Option.some Jvm.ClassFile.FieldType.int)) ∈ aw := aw_t (List.mem_append_right _ (List.mem_append_right _ (List.mem_append_left _ (List.mem_of_getElem? (l := tables_1_3) (i := 161) rfl)))) rfl
theorem aL_M_70 : (Jvm.Cond.constantLong "ShopDesksModel" (70 : Nat) (5 : Int64)) ∈ aw := aw_t (List.mem_append_right _ (List.mem_append_right _ (List.mem_append_left _ (List.mem_of_getElem? (l := tables_1_3) (i := 162) rfl)))) rfl
theorem aM_M_72 : (Jvm.Cond.methodLink "ShopDesksModel" (72 : Nat) ({ cls := "ShopDesksModel", name := "isIn", desc := "(JJJ)Z" } : Jvm.MethodName)) ∈ aw := aw_t (List.mem_append_right _ (List.mem_append_right _ (List.mem_append_left _ (List.mem_of_getElem? (l := tables_1_3) (i := 163) rfl)))) rfl
theorem aS_M_isIn : (Jvm.Cond.static ({ cls := "ShopDesksModel", name := "isIn", desc := "(JJJ)Z" } : Jvm.MethodName)) ∈ aw := aw_t (List.mem_append_right _ (List.mem_append_right _ (List.mem_append_left _ (List.mem_of_getElem? (l := tables_1_3) (i := 164) rfl)))) rfl
theorem aK_M_isIn : (Jvm.Cond.code ({ cls := "ShopDesksModel", name := "isIn", desc := "(JJJ)Z" } : Jvm.MethodName) prog_7_method_3_code (6 : Nat) (Option.some Jvm.ClassFile.FieldType.boolean)) ∈ aw := aw_t (List.mem_append_right _ (List.mem_append_right _ (List.mem_append_left _ (List.mem_of_getElem? (l := tables_1_3) (i := 165) rfl)))) rfl
theorem aL_M_76 : (Jvm.Cond.constantLong "ShopDesksModel" (76 : Nat) (9 : Int64)) ∈ aw := aw_t (List.mem_append_right _ (List.mem_append_right _ (List.mem_append_left _ (List.mem_of_getElem? (l := tables_1_3) (i := 166) rfl)))) rfl
theorem aM_M_78 : (Jvm.Cond.methodLink "ShopDesksModel" (78 : Nat) ({ cls := "ShopDesksModel", name := "isKind", desc := "(I)Z" } : Jvm.MethodName)) ∈ aw := aw_t (List.mem_append_right _ (List.mem_append_right _ (List.mem_append_left _ (List.mem_of_getElem? (l := tables_1_3) (i := 167) rfl)))) rfl
theorem aS_M_isKind : (Jvm.Cond.static ({ cls := "ShopDesksModel", name := "isKind", desc := "(I)Z" } : Jvm.MethodName)) ∈ aw := aw_t (List.mem_append_right _ (List.mem_append_right _ (List.mem_append_left _ (List.mem_of_getElem? (l := tables_1_3) (i := 168) rfl)))) rfl
theorem aK_M_isKind : (Jvm.Cond.code ({ cls := "ShopDesksModel", name := "isKind", desc := "(I)Z" } : Jvm.MethodName) prog_7_method_4_code (1 : Nat) (Option.some Jvm.ClassFile.FieldType.boolean)) ∈ aw := aw_t (List.mem_append_right _ (List.mem_append_right _ (List.mem_append_left _ (List.mem_of_getElem? (l := tables_1_3) (i := 169) rfl)))) rfl
theorem aM_M_82 : (Jvm.Cond.methodLink "ShopDesksModel" (82 : Nat) ({ cls := "ShopDesksModel", name := "find", desc := "(IJ)I" } : Jvm.MethodName)) ∈ aw := aw_t (List.mem_append_right _ (List.mem_append_right _ (List.mem_append_left _ (List.mem_of_getElem? (l := tables_1_3) (i := 170) rfl)))) rfl
theorem aI_M_find : (Jvm.Cond.instanceMethod ({ cls := "ShopDesksModel", name := "find", desc := "(IJ)I" } : Jvm.MethodName)) ∈ aw := aw_t (List.mem_append_right _ (List.mem_append_right _ (List.mem_append_left _ (List.mem_of_getElem? (l := tables_1_3) (i := 172) rfl)))) rfl
theorem aK_M_find : (Jvm.Cond.code ({ cls := "ShopDesksModel", name := "find", desc := "(IJ)I" } : Jvm.MethodName) prog_7_method_5_code (5 : Nat) (Option.some Jvm.ClassFile.FieldType.int)) ∈ aw := aw_t (List.mem_append_right _ (List.mem_append_right _ (List.mem_append_left _ (List.mem_of_getElem? (l := tables_1_3) (i := 173) rfl)))) rfl
theorem aM_W_92 : (Jvm.Cond.methodLink "ShopDesksLaw" (92 : Nat) ({ cls := "ShopDesksModel", name := "set", desc := "(I)I" } : Jvm.MethodName)) ∈ aw := aw_t (List.mem_append_right _ (List.mem_append_right _ (List.mem_append_left _ (List.mem_of_getElem? (l := tables_1_3) (i := 174) rfl)))) rfl
theorem aI_M_set : (Jvm.Cond.instanceMethod ({ cls := "ShopDesksModel", name := "set", desc := "(I)I" } : Jvm.MethodName)) ∈ aw := aw_t (List.mem_append_right _ (List.mem_append_right _ (List.mem_append_left _ (List.mem_of_getElem? (l := tables_1_3) (i := 175) rfl)))) rfl
theorem aV_M_set : (Jvm.Cond.selects "ShopDesksModel" ({ cls := "ShopDesksModel", name := "set", desc := "(I)I" } : Jvm.MethodName) ({ cls := "ShopDesksModel", name := "set", desc := "(I)I" } : Jvm.MethodName)) ∈ aw := aw_t (List.mem_append_right _ (List.mem_append_right _ (List.mem_append_left _ (List.mem_of_getElem? (l := tables_1_3) (i := 176) rfl)))) rfl
theorem aK_M_set : (Jvm.Cond.code ({ cls := "ShopDesksModel", name := "set", desc := "(I)I" } : Jvm.MethodName) prog_7_method_9_code (4 : Nat) (Option.some Jvm.ClassFile.FieldType.int)) ∈ aw := aw_t (List.mem_append_right _ (List.mem_append_right _ (List.mem_append_left _ (List.mem_of_getElem? (l := tables_1_3) (i := 177) rfl)))) rfl
theorem aM_W_96 : (Jvm.Cond.methodLink "ShopDesksLaw" (96 : Nat) ({ cls := "ShopDesksModel", name := "join", desc := "(II)I" } : Jvm.MethodName)) ∈ aw := aw_t (List.mem_append_right _ (List.mem_append_right _ (List.mem_append_left _ (List.mem_of_getElem? (l := tables_1_3) (i := 178) rfl)))) rfl
theorem aI_M_join : (Jvm.Cond.instanceMethod ({ cls := "ShopDesksModel", name := "join", desc := "(II)I" } : Jvm.MethodName)) ∈ aw := aw_t (List.mem_append_right _ (List.mem_append_right _ (List.mem_append_left _ (List.mem_of_getElem? (l := tables_1_3) (i := 179) rfl)))) rfl
theorem aV_M_join : (Jvm.Cond.selects "ShopDesksModel" ({ cls := "ShopDesksModel", name := "join", desc := "(II)I" } : Jvm.MethodName) ({ cls := "ShopDesksModel", name := "join", desc := "(II)I" } : Jvm.MethodName)) ∈ aw := aw_t (List.mem_append_right _ (List.mem_append_right _ (List.mem_append_left _ (List.mem_of_getElem? (l := tables_1_3) (i := 180) rfl)))) rfl
theorem aK_M_join : (Jvm.Cond.code ({ cls := "ShopDesksModel", name := "join", desc := "(II)I" } : Jvm.MethodName) prog_7_method_11_code (5 : Nat) (Option.some Jvm.ClassFile.FieldType.int)) ∈ aw := aw_t (List.mem_append_right _ (List.mem_append_right _ (List.mem_append_left _ (List.mem_of_getElem? (l := tables_1_3) (i := 181) rfl)))) rfl
theorem aM_M_89 : (Jvm.Cond.methodLink "ShopDesksModel" (89 : Nat) ({ cls := "ShopDesksModel", name := "isSet", desc := "(I)Z" } : Jvm.MethodName)) ∈ aw := aw_t (List.mem_append_right _ (List.mem_append_right _ (List.mem_append_left _ (List.mem_of_getElem? (l := tables_1_3) (i := 182) rfl)))) rfl
theorem aI_M_isSet : (Jvm.Cond.instanceMethod ({ cls := "ShopDesksModel", name := "isSet", desc := "(I)Z" } : Jvm.MethodName)) ∈ aw := aw_t (List.mem_append_right _ (List.mem_append_right _ (List.mem_append_left _ (List.mem_of_getElem? (l := tables_1_3) (i := 184) rfl)))) rfl
theorem aK_M_isSet : (Jvm.Cond.code ({ cls := "ShopDesksModel", name := "isSet", desc := "(I)Z" } : Jvm.MethodName) prog_7_method_10_code (2 : Nat) (Option.some Jvm.ClassFile.FieldType.boolean)) ∈ aw := aw_t (List.mem_append_right _ (List.mem_append_right _ (List.mem_append_left _ (List.mem_of_getElem? (l := tables_1_3) (i := 185) rfl)))) rfl
theorem aM_M_92 : (Jvm.Cond.methodLink "ShopDesksModel" (92 : Nat) ({ cls := "ShopDesksModel", name := "has", desc := "(II)Z" } : Jvm.MethodName)) ∈ aw := aw_t (List.mem_append_right _ (List.mem_append_right _ (List.mem_append_left _ (List.mem_of_getElem? (l := tables_1_3) (i := 186) rfl)))) rfl
theorem aI_M_has : (Jvm.Cond.instanceMethod ({ cls := "ShopDesksModel", name := "has", desc := "(II)Z" } : Jvm.MethodName)) ∈ aw := aw_t (List.mem_append_right _ (List.mem_append_right _ (List.mem_append_left _ (List.mem_of_getElem? (l := tables_1_3) (i := 188) rfl)))) rfl
theorem aK_M_has : (Jvm.Cond.code ({ cls := "ShopDesksModel", name := "has", desc := "(II)Z" } : Jvm.MethodName) prog_7_method_7_code (5 : Nat) (Option.some Jvm.ClassFile.FieldType.boolean)) ∈ aw := aw_t (List.mem_append_right _ (List.mem_append_right _ (List.mem_append_left _ (List.mem_of_getElem? (l := tables_1_3) (i := 189) rfl)))) rfl
theorem aM_M_96 : (Jvm.Cond.methodLink "ShopDesksModel" (96 : Nat) ({ cls := "ShopDesksModel", name := "add", desc := "(II)V" } : Jvm.MethodName)) ∈ aw := aw_t (List.mem_append_right _ (List.mem_append_right _ (List.mem_append_left _ (List.mem_of_getElem? (l := tables_1_3) (i := 190) rfl)))) rfl
theorem aI_M_add : (Jvm.Cond.instanceMethod ({ cls := "ShopDesksModel", name := "add", desc := "(II)V" } : Jvm.MethodName)) ∈ aw := aw_t (List.mem_append_right _ (List.mem_append_right _ (List.mem_append_left _ (List.mem_of_getElem? (l := tables_1_3) (i := 192) rfl)))) rfl
theorem aK_M_add : (Jvm.Cond.code ({ cls := "ShopDesksModel", name := "add", desc := "(II)V" } : Jvm.MethodName) prog_7_method_8_code (3 : Nat) (Option.none : Option Jvm.ClassFile.FieldType)) ∈ aw := aw_t (List.mem_append_right _ (List.mem_append_right _ (List.mem_append_left _ (List.mem_of_getElem? (l := tables_1_3) (i := 193) rfl)))) rfl
theorem aM_W_99 : (Jvm.Cond.methodLink "ShopDesksLaw" (99 : Nat) ({ cls := "ShopDesksModel", name := "equal", desc := "(II)Z" } : Jvm.MethodName)) ∈ aw := aw_t (List.mem_append_right _ (List.mem_append_right _ (List.mem_append_left _ (List.mem_of_getElem? (l := tables_1_3) (i := 194) rfl)))) rfl
theorem aI_M_equal : (Jvm.Cond.instanceMethod ({ cls := "ShopDesksModel", name := "equal", desc := "(II)Z" } : Jvm.MethodName)) ∈ aw := aw_t (List.mem_append_right _ (List.mem_append_right _ (List.mem_append_left _ (List.mem_of_getElem? (l := tables_1_3) (i := 195) rfl)))) rfl
theorem aV_M_equal : (Jvm.Cond.selects "ShopDesksModel" ({ cls := "ShopDesksModel", name := "equal", desc := "(II)Z" } : Jvm.MethodName) ({ cls := "ShopDesksModel", name := "equal", desc := "(II)Z" } : Jvm.MethodName)) ∈ aw := aw_t (List.mem_append_right _ (List.mem_append_right _ (List.mem_append_left _ (List.mem_of_getElem? (l := tables_1_3) (i := 196) rfl)))) rfl
theorem aK_M_equal : (Jvm.Cond.code ({ cls := "ShopDesksModel", name := "equal", desc := "(II)Z" } : Jvm.MethodName) prog_7_method_12_code (5 : Nat) (Option.some Jvm.ClassFile.FieldType.boolean)) ∈ aw := aw_t (List.mem_append_right _ (List.mem_append_right _ (List.mem_append_left _ (List.mem_of_getElem? (l := tables_1_3) (i := 197) rfl)))) rfl
theorem aM_W_103 : (Jvm.Cond.methodLink "ShopDesksLaw" (103 : Nat) ({ cls := "ShopDesksModel", name := "at", desc := "(IIIJ)J" } : Jvm.MethodName)) ∈ aw := aw_t (List.mem_append_right _ (List.mem_append_right _ (List.mem_append_left _ (List.mem_of_getElem? (l := tables_1_3) (i := 198) rfl)))) rfl
theorem aI_M_at : (Jvm.Cond.instanceMethod ({ cls := "ShopDesksModel", name := "at", desc := "(IIIJ)J" } : Jvm.MethodName)) ∈ aw := aw_t (List.mem_append_right _ (List.mem_append_right _ (List.mem_append_left _ (List.mem_of_getElem? (l := tables_1_3) (i := 199) rfl)))) rfl
theorem aV_M_at : (Jvm.Cond.selects "ShopDesksModel" ({ cls := "ShopDesksModel", name := "at", desc := "(IIIJ)J" } : Jvm.MethodName) ({ cls := "ShopDesksModel", name := "at", desc := "(IIIJ)J" } : Jvm.MethodName)) ∈ aw := aw_t (List.mem_append_right _ (List.mem_append_right _ (List.mem_append_left _ (List.mem_of_getElem? (l := tables_1_3) (i := 200) rfl)))) rfl
theorem aK_M_at : (Jvm.Cond.code ({ cls := "ShopDesksModel", name := "at", desc := "(IIIJ)J" } : Jvm.MethodName) prog_7_method_20_code (6 : Nat) (Option.some Jvm.ClassFile.FieldType.long)) ∈ aw := aw_t (List.mem_append_right _ (List.mem_append_right _ (List.mem_append_left _ (List.mem_of_getElem? (l := tables_1_3) (i := 201) rfl)))) rfl
theorem aM_M_122 : (Jvm.Cond.methodLink "ShopDesksModel" (122 : Nat) ({ cls := "ShopDesksModel", name := "known", desc := "(IIIIJ)J" } : Jvm.MethodName)) ∈ aw := aw_t (List.mem_append_right _ (List.mem_append_right _ (List.mem_append_left _ (List.mem_of_getElem? (l := tables_1_3) (i := 202) rfl)))) rfl
theorem aI_M_known : (Jvm.Cond.instanceMethod ({ cls := "ShopDesksModel", name := "known", desc := "(IIIIJ)J" } : Jvm.MethodName)) ∈ aw := aw_t (List.mem_append_right _ (List.mem_append_right _ (List.mem_append_left _ (List.mem_of_getElem? (l := tables_1_3) (i := 204) rfl)))) rfl
theorem aK_M_known : (Jvm.Cond.code ({ cls := "ShopDesksModel", name := "known", desc := "(IIIIJ)J" } : Jvm.MethodName) prog_7_method_19_code (11 : Nat) (Option.some Jvm.ClassFile.FieldType.long)) ∈ aw := aw_t (List.mem_append_right _ (List.mem_append_right _ (List.mem_append_left _ (List.mem_of_getElem? (l := tables_1_3) (i := 205) rfl)))) rfl
theorem aM_M_104 : (Jvm.Cond.methodLink "ShopDesksModel" (104 : Nat) ({ cls := "ShopDesksModel", name := "speaks", desc := "(IIIJ)Z" } : Jvm.MethodName)) ∈ aw := aw_t (List.mem_append_right _ (List.mem_append_right _ (List.mem_append_left _ (List.mem_of_getElem? (l := tables_1_3) (i := 206) rfl)))) rfl
theorem aI_M_speaks : (Jvm.Cond.instanceMethod ({ cls := "ShopDesksModel", name := "speaks", desc := "(IIIJ)Z" } : Jvm.MethodName)) ∈ aw := aw_t (List.mem_append_right _ (List.mem_append_right _ (List.mem_append_left _ (List.mem_of_getElem? (l := tables_1_3) (i := 208) rfl)))) rfl
theorem aK_M_speaks : (Jvm.Cond.code ({ cls := "ShopDesksModel", name := "speaks", desc := "(IIIJ)Z" } : Jvm.MethodName) prog_7_method_15_code (6 : Nat) (Option.some Jvm.ClassFile.FieldType.boolean)) ∈ aw := aw_t (List.mem_append_right _ (List.mem_append_right _ (List.mem_append_left _ (List.mem_of_getElem? (l := tables_1_3) (i := 209) rfl)))) rfl
theorem aM_M_116 : (Jvm.Cond.methodLink "ShopDesksModel" (116 : Nat) ({ cls := "ShopDesksModel", name := "isSettled", desc := "(IIIJ)Z" } : Jvm.MethodName)) ∈ aw := aw_t (List.mem_append_right _ (List.mem_append_right _ (List.mem_append_left _ (List.mem_of_getElem? (l := tables_1_3) (i := 210) rfl)))) rfl
theorem aI_M_isSettled : (Jvm.Cond.instanceMethod ({ cls := "ShopDesksModel", name := "isSettled", desc := "(IIIJ)Z" } : Jvm.MethodName)) ∈ aw := aw_t (List.mem_append_right _ (List.mem_append_right _ (List.mem_append_left _ (List.mem_of_getElem? (l := tables_1_3) (i := 212) rfl)))) rfl
theorem aK_M_isSettled : (Jvm.Cond.code ({ cls := "ShopDesksModel", name := "isSettled", desc := "(IIIJ)Z" } : Jvm.MethodName) prog_7_method_17_code (10 : Nat) (Option.some Jvm.ClassFile.FieldType.boolean)) ∈ aw := aw_t (List.mem_append_right _ (List.mem_append_right _ (List.mem_append_left _ (List.mem_of_getElem? (l := tables_1_3) (i := 213) rfl)))) rfl
theorem aM_M_112 : (Jvm.Cond.methodLink "ShopDesksModel" (112 : Nat) ({ cls := "ShopDesksModel", name := "latest", desc := "(IIIIJ)I" } : Jvm.MethodName)) ∈ aw := aw_t (List.mem_append_right _ (List.mem_append_right _ (List.mem_append_left _ (List.mem_of_getElem? (l := tables_1_3) (i := 214) rfl)))) rfl
theorem aI_M_latest : (Jvm.Cond.instanceMethod ({ cls := "ShopDesksModel", name := "latest", desc := "(IIIIJ)I" } : Jvm.MethodName)) ∈ aw := aw_t (List.mem_append_right _ (List.mem_append_right _ (List.mem_append_left _ (List.mem_of_getElem? (l := tables_1_3) (i := 216) rfl)))) rfl
theorem aK_M_latest : (Jvm.Cond.code ({ cls := "ShopDesksModel", name := "latest", desc := "(IIIIJ)I" } : Jvm.MethodName) prog_7_method_16_code (10 : Nat) (Option.some Jvm.ClassFile.FieldType.int)) ∈ aw := aw_t (List.mem_append_right _ (List.mem_append_right _ (List.mem_append_left _ (List.mem_of_getElem? (l := tables_1_3) (i := 217) rfl)))) rfl
theorem aM_M_108 : (Jvm.Cond.methodLink "ShopDesksModel" (108 : Nat) ({ cls := "ShopDesksModel", name := "later", desc := "(II)I" } : Jvm.MethodName)) ∈ aw := aw_t (List.mem_append_right _ (List.mem_append_right _ (List.mem_append_left _ (List.mem_of_getElem? (l := tables_1_3) (i := 218) rfl)))) rfl
theorem aI_M_later : (Jvm.Cond.instanceMethod ({ cls := "ShopDesksModel", name := "later", desc := "(II)I" } : Jvm.MethodName)) ∈ aw := aw_t (List.mem_append_right _ (List.mem_append_right _ (List.mem_append_left _ (List.mem_of_getElem? (l := tables_1_3) (i := 220) rfl)))) rfl
theorem aK_M_later : (Jvm.Cond.code ({ cls := "ShopDesksModel", name := "later", desc := "(II)I" } : Jvm.MethodName) prog_7_method_14_code (3 : Nat) (Option.some Jvm.ClassFile.FieldType.int)) ∈ aw := aw_t (List.mem_append_right _ (List.mem_append_right _ (List.mem_append_left _ (List.mem_of_getElem? (l := tables_1_3) (i := 221) rfl)))) rfl
theorem aM_M_100 : (Jvm.Cond.methodLink "ShopDesksModel" (100 : Nat) ({ cls := "ShopDesksModel", name := "isAfter", desc := "(JJ)Z" } : Jvm.MethodName)) ∈ aw := aw_t (List.mem_append_right _ (List.mem_append_right _ (List.mem_append_left _ (List.mem_of_getElem? (l := tables_1_3) (i := 222) rfl)))) rfl
theorem aS_M_isAfter : (Jvm.Cond.static ({ cls := "ShopDesksModel", name := "isAfter", desc := "(JJ)Z" } : Jvm.MethodName)) ∈ aw := aw_t (List.mem_append_right _ (List.mem_append_right _ (List.mem_append_left _ (List.mem_of_getElem? (l := tables_1_3) (i := 223) rfl)))) rfl
theorem aK_M_isAfter : (Jvm.Cond.code ({ cls := "ShopDesksModel", name := "isAfter", desc := "(JJ)Z" } : Jvm.MethodName) prog_7_method_13_code (4 : Nat) (Option.some Jvm.ClassFile.FieldType.boolean)) ∈ aw := aw_t (List.mem_append_right _ (List.mem_append_right _ (List.mem_append_left _ (List.mem_of_getElem? (l := tables_1_3) (i := 224) rfl)))) rfl
theorem aM_M_119 : (Jvm.Cond.methodLink "ShopDesksModel" (119 : Nat) ({ cls := "ShopDesksModel", name := "areUnlike", desc := "(IIIJ)Z" } : Jvm.MethodName)) ∈ aw := aw_t (List.mem_append_right _ (List.mem_append_right _ (List.mem_append_left _ (List.mem_of_getElem? (l := tables_1_3) (i := 225) rfl)))) rfl
theorem aI_M_areUnlike : (Jvm.Cond.instanceMethod ({ cls := "ShopDesksModel", name := "areUnlike", desc := "(IIIJ)Z" } : Jvm.MethodName)) ∈ aw := aw_t (List.mem_append_right _ (List.mem_append_right _ (List.mem_append_left _ (List.mem_of_getElem? (l := tables_1_3) (i := 227) rfl)))) rfl
theorem aK_M_areUnlike : (Jvm.Cond.code ({ cls := "ShopDesksModel", name := "areUnlike", desc := "(IIIJ)Z" } : Jvm.MethodName) prog_7_method_18_code (10 : Nat) (Option.some Jvm.ClassFile.FieldType.boolean)) ∈ aw := aw_t (List.mem_append_right _ (List.mem_append_right _ (List.mem_append_left _ (List.mem_of_getElem? (l := tables_1_3) (i := 228) rfl)))) rfl
theorem aM_W_106 : (Jvm.Cond.methodLink "ShopDesksLaw" (106 : Nat) ({ cls := "ShopDesksModel", name := "conflict", desc := "(II)I" } : Jvm.MethodName)) ∈ aw := aw_t (List.mem_append_right _ (List.mem_append_right _ (List.mem_append_left _ (List.mem_of_getElem? (l := tables_1_3) (i := 229) rfl)))) rfl
theorem aI_M_conflict : (Jvm.Cond.instanceMethod ({ cls := "ShopDesksModel", name := "conflict", desc := "(II)I" } : Jvm.MethodName)) ∈ aw := aw_t (List.mem_append_right _ (List.mem_append_right _ (List.mem_append_left _ (List.mem_of_getElem? (l := tables_1_3) (i := 230) rfl)))) rfl
theorem aV_M_conflict : (Jvm.Cond.selects "ShopDesksModel" ({ cls := "ShopDesksModel", name := "conflict", desc := "(II)I" } : Jvm.MethodName) ({ cls := "ShopDesksModel", name := "conflict", desc := "(II)I" } : Jvm.MethodName)) ∈ aw := aw_t (List.mem_append_right _ (List.mem_append_right _ (List.mem_append_left _ (List.mem_of_getElem? (l := tables_1_3) (i := 231) rfl)))) rfl
theorem aK_M_conflict : (Jvm.Cond.code ({ cls := "ShopDesksModel", name := "conflict", desc := "(II)I" } : Jvm.MethodName) prog_7_method_22_code (5 : Nat) (Option.some Jvm.ClassFile.FieldType.int)) ∈ aw := aw_t (List.mem_append_right _ (List.mem_append_right _ (List.mem_append_left _ (List.mem_of_getElem? (l := tables_1_3) (i := 232) rfl)))) rfl
theorem aM_M_128 : (Jvm.Cond.methodLink "ShopDesksModel" (128 : Nat) ({ cls := "ShopDesksModel", name := "end", desc := "()J" } : Jvm.MethodName)) ∈ aw := aw_t (List.mem_append_right _ (List.mem_append_right _ (List.mem_append_left _ (List.mem_of_getElem? (l := tables_1_3) (i := 233) rfl)))) rfl
theorem aS_M_end : (Jvm.Cond.static ({ cls := "ShopDesksModel", name := "end", desc := "()J" } : Jvm.MethodName)) ∈ aw := aw_t (List.mem_append_right _ (List.mem_append_right _ (List.mem_append_left _ (List.mem_of_getElem? (l := tables_1_3) (i := 234) rfl)))) rfl
theorem aK_M_end : (Jvm.Cond.code ({ cls := "ShopDesksModel", name := "end", desc := "()J" } : Jvm.MethodName) prog_7_method_21_code (0 : Nat) (Option.some Jvm.ClassFile.FieldType.long)) ∈ aw := aw_t (List.mem_append_right _ (List.mem_append_right _ (List.mem_append_left _ (List.mem_of_getElem? (l := tables_1_3) (i := 235) rfl)))) rfl
theorem aL_M_126 : (Jvm.Cond.constantLong "ShopDesksModel" (126 : Nat) (9223372036854775807 : Int64)) ∈ aw := aw_t (List.mem_append_right _ (List.mem_append_right _ (List.mem_append_left _ (List.mem_of_getElem? (l := tables_1_3) (i := 236) rfl)))) rfl
theorem aM_W_109 : (Jvm.Cond.methodLink "ShopDesksLaw" (109 : Nat) ({ cls := "ShopDesksModel", name := "mark", desc := "(I)I" } : Jvm.MethodName)) ∈ aw := aw_t (List.mem_append_right _ (List.mem_append_right _ (List.mem_append_left _ (List.mem_of_getElem? (l := tables_1_3) (i := 237) rfl)))) rfl
theorem aI_M_mark : (Jvm.Cond.instanceMethod ({ cls := "ShopDesksModel", name := "mark", desc := "(I)I" } : Jvm.MethodName)) ∈ aw := aw_t (List.mem_append_right _ (List.mem_append_right _ (List.mem_append_left _ (List.mem_of_getElem? (l := tables_1_3) (i := 238) rfl)))) rfl
theorem aV_M_mark : (Jvm.Cond.selects "ShopDesksModel" ({ cls := "ShopDesksModel", name := "mark", desc := "(I)I" } : Jvm.MethodName) ({ cls := "ShopDesksModel", name := "mark", desc := "(I)I" } : Jvm.MethodName)) ∈ aw := aw_t (List.mem_append_right _ (List.mem_append_right _ (List.mem_append_left _ (List.mem_of_getElem? (l := tables_1_3) (i := 239) rfl)))) rfl
theorem aK_M_mark : (Jvm.Cond.code ({ cls := "ShopDesksModel", name := "mark", desc := "(I)I" } : Jvm.MethodName) prog_7_method_23_code (2 : Nat) (Option.some Jvm.ClassFile.FieldType.int)) ∈ aw := aw_t (List.mem_append_right _ (List.mem_append_right _ (List.mem_append_right _ (List.mem_of_getElem? (l := tables_1_4) (i := 0) rfl)))) rfl
theorem aM_W_113 : (Jvm.Cond.methodLink "ShopDesksLaw" (113 : Nat) ({ cls := "ShopDesksModel", name := "since", desc := "(IIII)J" } : Jvm.MethodName)) ∈ aw := aw_t (List.mem_append_right _ (List.mem_append_right _ (List.mem_append_right _ (List.mem_of_getElem? (l := tables_1_4) (i := 1) rfl)))) rfl
theorem aI_M_since : (Jvm.Cond.instanceMethod ({ cls := "ShopDesksModel", name := "since", desc := "(IIII)J" } : Jvm.MethodName)) ∈ aw := aw_t (List.mem_append_right _ (List.mem_append_right _ (List.mem_append_right _ (List.mem_of_getElem? (l := tables_1_4) (i := 2) rfl)))) rfl
theorem aV_M_since : (Jvm.Cond.selects "ShopDesksModel" ({ cls := "ShopDesksModel", name := "since", desc := "(IIII)J" } : Jvm.MethodName) ({ cls := "ShopDesksModel", name := "since", desc := "(IIII)J" } : Jvm.MethodName)) ∈ aw := aw_t (List.mem_append_right _ (List.mem_append_right _ (List.mem_append_right _ (List.mem_of_getElem? (l := tables_1_4) (i := 3) rfl)))) rfl
theorem aK_M_since : (Jvm.Cond.code ({ cls := "ShopDesksModel", name := "since", desc := "(IIII)J" } : Jvm.MethodName) prog_7_method_24_code (6 : Nat) (Option.some Jvm.ClassFile.FieldType.long)) ∈ aw := aw_t (List.mem_append_right _ (List.mem_append_right _ (List.mem_append_right _ (List.mem_of_getElem? (l := tables_1_4) (i := 4) rfl)))) rfl
theorem aL_M_132 : (Jvm.Cond.constantLong "ShopDesksModel" (132 : Nat) (2 : Int64)) ∈ aw := aw_t (List.mem_append_right _ (List.mem_append_right _ (List.mem_append_right _ (List.mem_of_getElem? (l := tables_1_4) (i := 5) rfl)))) rfl
theorem aM_W_117 : (Jvm.Cond.methodLink "ShopDesksLaw" (117 : Nat) ({ cls := "ShopDesksModel", name := "batch", desc := "(IZ)Z" } : Jvm.MethodName)) ∈ aw := aw_t (List.mem_append_right _ (List.mem_append_right _ (List.mem_append_right _ (List.mem_of_getElem? (l := tables_1_4) (i := 6) rfl)))) rfl
theorem aI_M_batch : (Jvm.Cond.instanceMethod ({ cls := "ShopDesksModel", name := "batch", desc := "(IZ)Z" } : Jvm.MethodName)) ∈ aw := aw_t (List.mem_append_right _ (List.mem_append_right _ (List.mem_append_right _ (List.mem_of_getElem? (l := tables_1_4) (i := 7) rfl)))) rfl
theorem aV_M_batch : (Jvm.Cond.selects "ShopDesksModel" ({ cls := "ShopDesksModel", name := "batch", desc := "(IZ)Z" } : Jvm.MethodName) ({ cls := "ShopDesksModel", name := "batch", desc := "(IZ)Z" } : Jvm.MethodName)) ∈ aw := aw_t (List.mem_append_right _ (List.mem_append_right _ (List.mem_append_right _ (List.mem_of_getElem? (l := tables_1_4) (i := 8) rfl)))) rfl
theorem aK_M_batch : (Jvm.Cond.code ({ cls := "ShopDesksModel", name := "batch", desc := "(IZ)Z" } : Jvm.MethodName) prog_7_method_25_code (3 : Nat) (Option.some Jvm.ClassFile.FieldType.boolean)) ∈ aw := aw_t (List.mem_append_right _ (List.mem_append_right _ (List.mem_append_right _ (List.mem_of_getElem? (l := tables_1_4) (i := 9) rfl)))) rfl
theorem aM_W_121 : (Jvm.Cond.methodLink "ShopDesksLaw" (121 : Nat) ({ cls := "ShopDesksModel", name := "right", desc := "(IIZ)Z" } : Jvm.MethodName)) ∈ aw := aw_t (List.mem_append_right _ (List.mem_append_right _ (List.mem_append_right _ (List.mem_of_getElem? (l := tables_1_4) (i := 10) rfl)))) rfl
theorem aI_M_right : (Jvm.Cond.instanceMethod ({ cls := "ShopDesksModel", name := "right", desc := "(IIZ)Z" } : Jvm.MethodName)) ∈ aw := aw_t (List.mem_append_right _ (List.mem_append_right _ (List.mem_append_right _ (List.mem_of_getElem? (l := tables_1_4) (i := 11) rfl)))) rfl
theorem aV_M_right : (Jvm.Cond.selects "ShopDesksModel" ({ cls := "ShopDesksModel", name := "right", desc := "(IIZ)Z" } : Jvm.MethodName) ({ cls := "ShopDesksModel", name := "right", desc := "(IIZ)Z" } : Jvm.MethodName)) ∈ aw := aw_t (List.mem_append_right _ (List.mem_append_right _ (List.mem_append_right _ (List.mem_of_getElem? (l := tables_1_4) (i := 12) rfl)))) rfl
theorem aK_M_right : (Jvm.Cond.code ({ cls := "ShopDesksModel", name := "right", desc := "(IIZ)Z" } : Jvm.MethodName) prog_7_method_26_code (4 : Nat) (Option.some Jvm.ClassFile.FieldType.boolean)) ∈ aw := aw_t (List.mem_append_right _ (List.mem_append_right _ (List.mem_append_right _ (List.mem_of_getElem? (l := tables_1_4) (i := 13) rfl)))) rfl
theorem aL_M_134 : (Jvm.Cond.constantLong "ShopDesksModel" (134 : Nat) (3 : Int64)) ∈ aw := aw_t (List.mem_append_right _ (List.mem_append_right _ (List.mem_append_right _ (List.mem_of_getElem? (l := tables_1_4) (i := 14) rfl)))) rfl
theorem aM_W_124 : (Jvm.Cond.methodLink "ShopDesksLaw" (124 : Nat) ({ cls := "ShopDesksModel", name := "seen", desc := "(IIII)J" } : Jvm.MethodName)) ∈ aw := aw_t (List.mem_append_right _ (List.mem_append_right _ (List.mem_append_right _ (List.mem_of_getElem? (l := tables_1_4) (i := 15) rfl)))) rfl
theorem aI_M_seen : (Jvm.Cond.instanceMethod ({ cls := "ShopDesksModel", name := "seen", desc := "(IIII)J" } : Jvm.MethodName)) ∈ aw := aw_t (List.mem_append_right _ (List.mem_append_right _ (List.mem_append_right _ (List.mem_of_getElem? (l := tables_1_4) (i := 16) rfl)))) rfl
theorem aV_M_seen : (Jvm.Cond.selects "ShopDesksModel" ({ cls := "ShopDesksModel", name := "seen", desc := "(IIII)J" } : Jvm.MethodName) ({ cls := "ShopDesksModel", name := "seen", desc := "(IIII)J" } : Jvm.MethodName)) ∈ aw := aw_t (List.mem_append_right _ (List.mem_append_right _ (List.mem_append_right _ (List.mem_of_getElem? (l := tables_1_4) (i := 17) rfl)))) rfl
theorem aK_M_seen : (Jvm.Cond.code ({ cls := "ShopDesksModel", name := "seen", desc := "(IIII)J" } : Jvm.MethodName) prog_7_method_27_code (5 : Nat) (Option.some Jvm.ClassFile.FieldType.long)) ∈ aw := aw_t (List.mem_append_right _ (List.mem_append_right _ (List.mem_append_right _ (List.mem_of_getElem? (l := tables_1_4) (i := 18) rfl)))) rfl
theorem aM_W_131 : (Jvm.Cond.methodLink "ShopDesksLaw" (131 : Nat) ({ cls := "ShopDesksModel", name := "entry", desc := "(I)I" } : Jvm.MethodName)) ∈ aw := aw_t (List.mem_append_right _ (List.mem_append_right _ (List.mem_append_right _ (List.mem_of_getElem? (l := tables_1_4) (i := 19) rfl)))) rfl
theorem aI_M_entry : (Jvm.Cond.instanceMethod ({ cls := "ShopDesksModel", name := "entry", desc := "(I)I" } : Jvm.MethodName)) ∈ aw := aw_t (List.mem_append_right _ (List.mem_append_right _ (List.mem_append_right _ (List.mem_of_getElem? (l := tables_1_4) (i := 20) rfl)))) rfl
theorem aV_M_entry : (Jvm.Cond.selects "ShopDesksModel" ({ cls := "ShopDesksModel", name := "entry", desc := "(I)I" } : Jvm.MethodName) ({ cls := "ShopDesksModel", name := "entry", desc := "(I)I" } : Jvm.MethodName)) ∈ aw := aw_t (List.mem_append_right _ (List.mem_append_right _ (List.mem_append_right _ (List.mem_of_getElem? (l := tables_1_4) (i := 21) rfl)))) rfl
theorem aK_M_entry : (Jvm.Cond.code ({ cls := "ShopDesksModel", name := "entry", desc := "(I)I" } : Jvm.MethodName) prog_7_method_28_code (2 : Nat) (Option.some Jvm.ClassFile.FieldType.int)) ∈ aw := aw_t (List.mem_append_right _ (List.mem_append_right _ (List.mem_append_right _ (List.mem_of_getElem? (l := tables_1_4) (i := 22) rfl)))) rfl
theorem aL_M_136 : (Jvm.Cond.constantLong "ShopDesksModel" (136 : Nat) (3599 : Int64)) ∈ aw := aw_t (List.mem_append_right _ (List.mem_append_right _ (List.mem_append_right _ (List.mem_of_getElem? (l := tables_1_4) (i := 23) rfl)))) rfl
theorem aM_M_141 : (Jvm.Cond.methodLink "ShopDesksModel" (141 : Nat) ({ cls := "ShopDesksModel", name := "open", desc := "(I)I" } : Jvm.MethodName)) ∈ aw := aw_t (List.mem_append_right _ (List.mem_append_right _ (List.mem_append_right _ (List.mem_of_getElem? (l := tables_1_4) (i := 24) rfl)))) rfl
theorem aI_M_open : (Jvm.Cond.instanceMethod ({ cls := "ShopDesksModel", name := "open", desc := "(I)I" } : Jvm.MethodName)) ∈ aw := aw_t (List.mem_append_right _ (List.mem_append_right _ (List.mem_append_right _ (List.mem_of_getElem? (l := tables_1_4) (i := 26) rfl)))) rfl
theorem aK_M_open : (Jvm.Cond.code ({ cls := "ShopDesksModel", name := "open", desc := "(I)I" } : Jvm.MethodName) prog_7_method_29_code (2 : Nat) (Option.some Jvm.ClassFile.FieldType.int)) ∈ aw := aw_t (List.mem_append_right _ (List.mem_append_right _ (List.mem_append_right _ (List.mem_of_getElem? (l := tables_1_4) (i := 27) rfl)))) rfl
theorem aM_W_135 : (Jvm.Cond.methodLink "ShopDesksLaw" (135 : Nat) ({ cls := "ShopDesksModel", name := "row", desc := "(IIJ)I" } : Jvm.MethodName)) ∈ aw := aw_t (List.mem_append_right _ (List.mem_append_right _ (List.mem_append_right _ (List.mem_of_getElem? (l := tables_1_4) (i := 28) rfl)))) rfl
theorem aI_M_row : (Jvm.Cond.instanceMethod ({ cls := "ShopDesksModel", name := "row", desc := "(IIJ)I" } : Jvm.MethodName)) ∈ aw := aw_t (List.mem_append_right _ (List.mem_append_right _ (List.mem_append_right _ (List.mem_of_getElem? (l := tables_1_4) (i := 29) rfl)))) rfl
theorem aV_M_row : (Jvm.Cond.selects "ShopDesksModel" ({ cls := "ShopDesksModel", name := "row", desc := "(IIJ)I" } : Jvm.MethodName) ({ cls := "ShopDesksModel", name := "row", desc := "(IIJ)I" } : Jvm.MethodName)) ∈ aw := aw_t (List.mem_append_right _ (List.mem_append_right _ (List.mem_append_right _ (List.mem_of_getElem? (l := tables_1_4) (i := 30) rfl)))) rfl
theorem aK_M_row : (Jvm.Cond.code ({ cls := "ShopDesksModel", name := "row", desc := "(IIJ)I" } : Jvm.MethodName) prog_7_method_32_code (5 : Nat) (Option.some Jvm.ClassFile.FieldType.int)) ∈ aw := aw_t (List.mem_append_right _ (List.mem_append_right _ (List.mem_append_right _ (List.mem_of_getElem? (l := tables_1_4) (i := 31) rfl)))) rfl
theorem aM_M_145 : (Jvm.Cond.methodLink "ShopDesksModel" (145 : Nat) ({ cls := "ShopDesksModel", name := "isEntry", desc := "(I)Z" } : Jvm.MethodName)) ∈ aw := aw_t (List.mem_append_right _ (List.mem_append_right _ (List.mem_append_right _ (List.mem_of_getElem? (l := tables_1_4) (i := 32) rfl)))) rfl
theorem aI_M_isEntry : (Jvm.Cond.instanceMethod ({ cls := "ShopDesksModel", name := "isEntry", desc := "(I)Z" } : Jvm.MethodName)) ∈ aw := aw_t (List.mem_append_right _ (List.mem_append_right _ (List.mem_append_right _ (List.mem_of_getElem? (l := tables_1_4) (i := 34) rfl)))) rfl
theorem aK_M_isEntry : (Jvm.Cond.code ({ cls := "ShopDesksModel", name := "isEntry", desc := "(I)Z" } : Jvm.MethodName) prog_7_method_30_code (2 : Nat) (Option.some Jvm.ClassFile.FieldType.boolean)) ∈ aw := aw_t (List.mem_append_right _ (List.mem_append_right _ (List.mem_append_right _ (List.mem_of_getElem? (l := tables_1_4) (i := 35) rfl)))) rfl
theorem aL_M_148 : (Jvm.Cond.constantLong "ShopDesksModel" (148 : Nat) (-1000000000 : Int64)) ∈ aw := aw_t (List.mem_append_right _ (List.mem_append_right _ (List.mem_append_right _ (List.mem_of_getElem? (l := tables_1_4) (i := 36) rfl)))) rfl
theorem aL_M_150 : (Jvm.Cond.constantLong "ShopDesksModel" (150 : Nat) (1000000000 : Int64)) ∈ aw := aw_t (List.mem_append_right _ (List.mem_append_right _ (List.mem_append_right _ (List.mem_of_getElem? (l := tables_1_4) (i := 37) rfl)))) rfl
theorem aM_M_152 : (Jvm.Cond.methodLink "ShopDesksModel" (152 : Nat) ({ cls := "ShopDesksModel", name := "addRow", desc := "(IIJ)V" } : Jvm.MethodName)) ∈ aw := aw_t (List.mem_append_right _ (List.mem_append_right _ (List.mem_append_right _ (List.mem_of_getElem? (l := tables_1_4) (i := 38) rfl)))) rfl
theorem aI_M_addRow : (Jvm.Cond.instanceMethod ({ cls := "ShopDesksModel", name := "addRow", desc := "(IIJ)V" } : Jvm.MethodName)) ∈ aw := aw_t (List.mem_append_right _ (List.mem_append_right _ (List.mem_append_right _ (List.mem_of_getElem? (l := tables_1_4) (i := 40) rfl)))) rfl
theorem aK_M_addRow : (Jvm.Cond.code ({ cls := "ShopDesksModel", name := "addRow", desc := "(IIJ)V" } : Jvm.MethodName) prog_7_method_31_code (5 : Nat) (Option.none : Option Jvm.ClassFile.FieldType)) ∈ aw := aw_t (List.mem_append_right _ (List.mem_append_right _ (List.mem_append_right _ (List.mem_of_getElem? (l := tables_1_4) (i := 41) rfl)))) rfl
theorem aM_W_138 : (Jvm.Cond.methodLink "ShopDesksLaw" (138 : Nat) ({ cls := "ShopDesksModel", name := "close", desc := "(I)I" } : Jvm.MethodName)) ∈ aw := aw_t (List.mem_append_right _ (List.mem_append_right _ (List.mem_append_right _ (List.mem_of_getElem? (l := tables_1_4) (i := 42) rfl)))) rfl
theorem aI_M_close : (Jvm.Cond.instanceMethod ({ cls := "ShopDesksModel", name := "close", desc := "(I)I" } : Jvm.MethodName)) ∈ aw := aw_t (List.mem_append_right _ (List.mem_append_right _ (List.mem_append_right _ (List.mem_of_getElem? (l := tables_1_4) (i := 43) rfl)))) rfl
theorem aV_M_close : (Jvm.Cond.selects "ShopDesksModel" ({ cls := "ShopDesksModel", name := "close", desc := "(I)I" } : Jvm.MethodName) ({ cls := "ShopDesksModel", name := "close", desc := "(I)I" } : Jvm.MethodName)) ∈ aw := aw_t (List.mem_append_right _ (List.mem_append_right _ (List.mem_append_right _ (List.mem_of_getElem? (l := tables_1_4) (i := 44) rfl)))) rfl
theorem aK_M_close : (Jvm.Cond.code ({ cls := "ShopDesksModel", name := "close", desc := "(I)I" } : Jvm.MethodName) prog_7_method_34_code (5 : Nat) (Option.some Jvm.ClassFile.FieldType.int)) ∈ aw := aw_t (List.mem_append_right _ (List.mem_append_right _ (List.mem_append_right _ (List.mem_of_getElem? (l := tables_1_4) (i := 45) rfl)))) rfl
theorem aM_M_159 : (Jvm.Cond.methodLink "ShopDesksModel" (159 : Nat) ({ cls := "ShopDesksModel", name := "closeNow", desc := "(I)V" } : Jvm.MethodName)) ∈ aw := aw_t (List.mem_append_right _ (List.mem_append_right _ (List.mem_append_right _ (List.mem_of_getElem? (l := tables_1_4) (i := 46) rfl)))) rfl
theorem aI_M_closeNow : (Jvm.Cond.instanceMethod ({ cls := "ShopDesksModel", name := "closeNow", desc := "(I)V" } : Jvm.MethodName)) ∈ aw := aw_t (List.mem_append_right _ (List.mem_append_right _ (List.mem_append_right _ (List.mem_of_getElem? (l := tables_1_4) (i := 48) rfl)))) rfl
theorem aK_M_closeNow : (Jvm.Cond.code ({ cls := "ShopDesksModel", name := "closeNow", desc := "(I)V" } : Jvm.MethodName) prog_7_method_33_code (2 : Nat) (Option.none : Option Jvm.ClassFile.FieldType)) ∈ aw := aw_t (List.mem_append_right _ (List.mem_append_right _ (List.mem_append_right _ (List.mem_of_getElem? (l := tables_1_4) (i := 49) rfl)))) rfl
theorem aM_W_141 : (Jvm.Cond.methodLink "ShopDesksLaw" (141 : Nat) ({ cls := "ShopDesksModel", name := "balance", desc := "(II)J" } : Jvm.MethodName)) ∈ aw := aw_t (List.mem_append_right _ (List.mem_append_right _ (List.mem_append_right _ (List.mem_of_getElem? (l := tables_1_4) (i := 50) rfl)))) rfl
theorem aI_M_balance : (Jvm.Cond.instanceMethod ({ cls := "ShopDesksModel", name := "balance", desc := "(II)J" } : Jvm.MethodName)) ∈ aw := aw_t (List.mem_append_right _ (List.mem_append_right _ (List.mem_append_right _ (List.mem_of_getElem? (l := tables_1_4) (i := 51) rfl)))) rfl
theorem aV_M_balance : (Jvm.Cond.selects "ShopDesksModel" ({ cls := "ShopDesksModel", name := "balance", desc := "(II)J" } : Jvm.MethodName) ({ cls := "ShopDesksModel", name := "balance", desc := "(II)J" } : Jvm.MethodName)) ∈ aw := aw_t (List.mem_append_right _ (List.mem_append_right _ (List.mem_append_right _ (List.mem_of_getElem? (l := tables_1_4) (i := 52) rfl)))) rfl
theorem aK_M_balance : (Jvm.Cond.code ({ cls := "ShopDesksModel", name := "balance", desc := "(II)J" } : Jvm.MethodName) prog_7_method_35_code (7 : Nat) (Option.some Jvm.ClassFile.FieldType.long)) ∈ aw := aw_t (List.mem_append_right _ (List.mem_append_right _ (List.mem_append_right _ (List.mem_of_getElem? (l := tables_1_4) (i := 53) rfl)))) rfl
theorem aM_W_144 : (Jvm.Cond.methodLink "ShopDesksLaw" (144 : Nat) ({ cls := "ShopDesksModel", name := "closeMonth", desc := "(I)Z" } : Jvm.MethodName)) ∈ aw := aw_t (List.mem_append_right _ (List.mem_append_right _ (List.mem_append_right _ (List.mem_of_getElem? (l := tables_1_4) (i := 54) rfl)))) rfl
theorem aI_M_closeMonth : (Jvm.Cond.instanceMethod ({ cls := "ShopDesksModel", name := "closeMonth", desc := "(I)Z" } : Jvm.MethodName)) ∈ aw := aw_t (List.mem_append_right _ (List.mem_append_right _ (List.mem_append_right _ (List.mem_of_getElem? (l := tables_1_4) (i := 55) rfl)))) rfl
theorem aV_M_closeMonth : (Jvm.Cond.selects "ShopDesksModel" ({ cls := "ShopDesksModel", name := "closeMonth", desc := "(I)Z" } : Jvm.MethodName) ({ cls := "ShopDesksModel", name := "closeMonth", desc := "(I)Z" } : Jvm.MethodName)) ∈ aw := aw_t (List.mem_append_right _ (List.mem_append_right _ (List.mem_append_right _ (List.mem_of_getElem? (l := tables_1_4) (i := 56) rfl)))) rfl
theorem aK_M_closeMonth : (Jvm.Cond.code ({ cls := "ShopDesksModel", name := "closeMonth", desc := "(I)Z" } : Jvm.MethodName) prog_7_method_36_code (2 : Nat) (Option.some Jvm.ClassFile.FieldType.boolean)) ∈ aw := aw_t (List.mem_append_right _ (List.mem_append_right _ (List.mem_append_right _ (List.mem_of_getElem? (l := tables_1_4) (i := 57) rfl)))) rfl
theorem aL_M_163 : (Jvm.Cond.constantLong "ShopDesksModel" (163 : Nat) (119 : Int64)) ∈ aw := aw_t (List.mem_append_right _ (List.mem_append_right _ (List.mem_append_right _ (List.mem_of_getElem? (l := tables_1_4) (i := 58) rfl)))) rfl
theorem aM_W_147 : (Jvm.Cond.methodLink "ShopDesksLaw" (147 : Nat) ({ cls := "ShopDesksModel", name := "reverse", desc := "(II)I" } : Jvm.MethodName)) ∈ aw := aw_t (List.mem_append_right _ (List.mem_append_right _ (List.mem_append_right _ (List.mem_of_getElem? (l := tables_1_4) (i := 59) rfl)))) rfl
theorem aI_M_reverse : (Jvm.Cond.instanceMethod ({ cls := "ShopDesksModel", name := "reverse", desc := "(II)I" } : Jvm.MethodName)) ∈ aw := aw_t (List.mem_append_right _ (List.mem_append_right _ (List.mem_append_right _ (List.mem_of_getElem? (l := tables_1_4) (i := 60) rfl)))) rfl
theorem aV_M_reverse : (Jvm.Cond.selects "ShopDesksModel" ({ cls := "ShopDesksModel", name := "reverse", desc := "(II)I" } : Jvm.MethodName) ({ cls := "ShopDesksModel", name := "reverse", desc := "(II)I" } : Jvm.MethodName)) ∈ aw := aw_t (List.mem_append_right _ (List.mem_append_right _ (List.mem_append_right _ (List.mem_of_getElem? (l := tables_1_4) (i := 61) rfl)))) rfl
theorem aK_M_reverse : (Jvm.Cond.code ({ cls := "ShopDesksModel", name := "reverse", desc := "(II)I" } : Jvm.MethodName) prog_7_method_37_code (6 : Nat) (Option.some Jvm.ClassFile.FieldType.int)) ∈ aw := aw_t (List.mem_append_right _ (List.mem_append_right _ (List.mem_append_right _ (List.mem_of_getElem? (l := tables_1_4) (i := 62) rfl)))) rfl
theorem aL_W_81 : (Jvm.Cond.constantLong "ShopDesksLaw" (81 : Nat) (4294967295 : Int64)) ∈ aw := aw_t (List.mem_append_right _ (List.mem_append_right _ (List.mem_append_right _ (List.mem_of_getElem? (l := tables_1_4) (i := 63) rfl)))) rfl
theorem aV_S_insertByNumber : Cond.selects "ShopDesks$TellingSet" ⟨"ShopDesks$TellingSet", "insertByNumber", "(I)V"⟩ ⟨"ShopDesks$TellingSet", "insertByNumber", "(I)V"⟩ ∈ aw := aw_p (List.mem_of_getElem? (i := 1) rfl) rfl
theorem aV_X_needSet : Cond.selects "ShopDesks" ⟨"ShopDesks", "needSet", "(I)V"⟩ ⟨"ShopDesks", "needSet", "(I)V"⟩ ∈ aw := aw_p (List.mem_of_getElem? (i := 2) rfl) rfl
theorem aV_S_sumOfCounts : Cond.selects "ShopDesks$TellingSet" ⟨"ShopDesks$TellingSet", "sumOfCounts", "(IJI)J"⟩ ⟨"ShopDesks$TellingSet", "sumOfCounts", "(IJI)J"⟩ ∈ aw := aw_p (List.mem_of_getElem? (i := 3) rfl) rfl
theorem aV_S_knownMark : Cond.selects "ShopDesks$TellingSet" ⟨"ShopDesks$TellingSet", "knownMark", "(IJI)J"⟩ ⟨"ShopDesks$TellingSet", "knownMark", "(IJI)J"⟩ ∈ aw := aw_p (List.mem_of_getElem? (i := 4) rfl) rfl
theorem aV_S_settling : Cond.selects "ShopDesks$TellingSet" ⟨"ShopDesks$TellingSet", "settling", "(IJI)I"⟩ ⟨"ShopDesks$TellingSet", "settling", "(IJI)I"⟩ ∈ aw := aw_p (List.mem_of_getElem? (i := 5) rfl) rfl
theorem aV_S_latest : Cond.selects "ShopDesks$TellingSet" ⟨"ShopDesks$TellingSet", "latest", "(IIJI)I"⟩ ⟨"ShopDesks$TellingSet", "latest", "(IIJI)I"⟩ ∈ aw := aw_p (List.mem_of_getElem? (i := 6) rfl) rfl
theorem aV_S_hasUnlikeMarks : Cond.selects "ShopDesks$TellingSet" ⟨"ShopDesks$TellingSet", "hasUnlikeMarks", "(IJI)Z"⟩ ⟨"ShopDesks$TellingSet", "hasUnlikeMarks", "(IJI)Z"⟩ ∈ aw := aw_p (List.mem_of_getElem? (i := 7) rfl) rfl
theorem aV_S_valueOrZero : Cond.selects "ShopDesks$TellingSet" ⟨"ShopDesks$TellingSet", "valueOrZero", "(I)J"⟩ ⟨"ShopDesks$TellingSet", "valueOrZero", "(I)J"⟩ ∈ aw := aw_p (List.mem_of_getElem? (i := 8) rfl) rfl
theorem aV_X_needRoomForEntry : Cond.selects "ShopDesks" ⟨"ShopDesks", "needRoomForEntry", "()V"⟩ ⟨"ShopDesks", "needRoomForEntry", "()V"⟩ ∈ aw := aw_p (List.mem_of_getElem? (i := 9) rfl) rfl
theorem aV_X_needEntry : Cond.selects "ShopDesks" ⟨"ShopDesks", "needEntry", "(I)V"⟩ ⟨"ShopDesks", "needEntry", "(I)V"⟩ ∈ aw := aw_p (List.mem_of_getElem? (i := 10) rfl) rfl
theorem aV_M_find : Cond.selects "ShopDesksModel" ⟨"ShopDesksModel", "find", "(IJ)I"⟩ ⟨"ShopDesksModel", "find", "(IJ)I"⟩ ∈ aw := aw_p (List.mem_of_getElem? (i := 11) rfl) rfl
theorem aV_M_isSet : Cond.selects "ShopDesksModel" ⟨"ShopDesksModel", "isSet", "(I)Z"⟩ ⟨"ShopDesksModel", "isSet", "(I)Z"⟩ ∈ aw := aw_p (List.mem_of_getElem? (i := 12) rfl) rfl
theorem aV_M_has : Cond.selects "ShopDesksModel" ⟨"ShopDesksModel", "has", "(II)Z"⟩ ⟨"ShopDesksModel", "has", "(II)Z"⟩ ∈ aw := aw_p (List.mem_of_getElem? (i := 13) rfl) rfl
theorem aV_M_add : Cond.selects "ShopDesksModel" ⟨"ShopDesksModel", "add", "(II)V"⟩ ⟨"ShopDesksModel", "add", "(II)V"⟩ ∈ aw := aw_p (List.mem_of_getElem? (i := 14) rfl) rfl
theorem aV_M_known : Cond.selects "ShopDesksModel" ⟨"ShopDesksModel", "known", "(IIIIJ)J"⟩ ⟨"ShopDesksModel", "known", "(IIIIJ)J"⟩ ∈ aw := aw_p (List.mem_of_getElem? (i := 15) rfl) rfl
theorem aV_M_speaks : Cond.selects "ShopDesksModel" ⟨"ShopDesksModel", "speaks", "(IIIJ)Z"⟩ ⟨"ShopDesksModel", "speaks", "(IIIJ)Z"⟩ ∈ aw := aw_p (List.mem_of_getElem? (i := 16) rfl) rfl
theorem aV_M_isSettled : Cond.selects "ShopDesksModel" ⟨"ShopDesksModel", "isSettled", "(IIIJ)Z"⟩ ⟨"ShopDesksModel", "isSettled", "(IIIJ)Z"⟩ ∈ aw := aw_p (List.mem_of_getElem? (i := 17) rfl) rfl
theorem aV_M_latest : Cond.selects "ShopDesksModel" ⟨"ShopDesksModel", "latest", "(IIIIJ)I"⟩ ⟨"ShopDesksModel", "latest", "(IIIIJ)I"⟩ ∈ aw := aw_p (List.mem_of_getElem? (i := 18) rfl) rfl
theorem aV_M_later : Cond.selects "ShopDesksModel" ⟨"ShopDesksModel", "later", "(II)I"⟩ ⟨"ShopDesksModel", "later", "(II)I"⟩ ∈ aw := aw_p (List.mem_of_getElem? (i := 19) rfl) rfl
theorem aV_M_areUnlike : Cond.selects "ShopDesksModel" ⟨"ShopDesksModel", "areUnlike", "(IIIJ)Z"⟩ ⟨"ShopDesksModel", "areUnlike", "(IIIJ)Z"⟩ ∈ aw := aw_p (List.mem_of_getElem? (i := 20) rfl) rfl
theorem aV_M_open : Cond.selects "ShopDesksModel" ⟨"ShopDesksModel", "open", "(I)I"⟩ ⟨"ShopDesksModel", "open", "(I)I"⟩ ∈ aw := aw_p (List.mem_of_getElem? (i := 21) rfl) rfl
theorem aV_M_isEntry : Cond.selects "ShopDesksModel" ⟨"ShopDesksModel", "isEntry", "(I)Z"⟩ ⟨"ShopDesksModel", "isEntry", "(I)Z"⟩ ∈ aw := aw_p (List.mem_of_getElem? (i := 22) rfl) rfl
theorem aV_M_addRow : Cond.selects "ShopDesksModel" ⟨"ShopDesksModel", "addRow", "(IIJ)V"⟩ ⟨"ShopDesksModel", "addRow", "(IIJ)V"⟩ ∈ aw := aw_p (List.mem_of_getElem? (i := 23) rfl) rfl
theorem aV_M_closeNow : Cond.selects "ShopDesksModel" ⟨"ShopDesksModel", "closeNow", "(I)V"⟩ ⟨"ShopDesksModel", "closeNow", "(I)V"⟩ ∈ aw := aw_p (List.mem_of_getElem? (i := 24) rfl) rfl
theorem in_E : ∀ w ∈ u_ws R_E F_E 7, w ∈ aw := by decide +kernel
theorem in_L : ∀ w ∈ u_ws R_L F_L 5, w ∈ aw := by decide +kernel
theorem in_S : ∀ w ∈ u_ws R_S F_S 5, w ∈ aw := by decide +kernel
theorem in_T : ∀ w ∈ u_ws R_T F_T 7, w ∈ aw := by decide +kernel
theorem in_X : ∀ w ∈ u_ws R_X F_X 5, w ∈ aw := by decide +kernel
theorem in_M : ∀ w ∈ u_ws R_M F_M 22, w ∈ aw := by decide +kernel
