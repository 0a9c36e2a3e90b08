/-! names of the classes and methods, as the claim's print of the program has them; the table of the methods; their code with what each instruction links -/
def RX0 : String := "DropSwitch$History"
def TX0 : u_T := fun k => match k with
  | 0 => ("DropSwitch$History", "events", "I", false)
  | 1 => ("DropSwitch$History", "packets", "I", false)
  | 2 => ("DropSwitch$History", "kind", "[I", true)
  | 3 => ("DropSwitch$History", "place", "[I", true)
  | 4 => ("DropSwitch$History", "packet", "[I", true)
  | 5 => ("DropSwitch$History", "arrival", "[I", true)
  | 6 => ("DropSwitch$History", "source", "[I", true)
  | 7 => ("DropSwitch$History", "target", "[I", true)
  | 8 => ("DropSwitch$History", "size", "[I", true)
  | 9 => ("DropSwitch$History", "rank", "[I", true)
  | _ => ("DropSwitch$History", "rules", "[I", true)
def tyX0 : Nat → FieldType := fun k => match k with
  | 0 => .int
  | 1 => .int
  | 2 => .array .int
  | 3 => .array .int
  | 4 => .array .int
  | 5 => .array .int
  | 6 => .array .int
  | 7 => .array .int
  | 8 => .array .int
  | 9 => .array .int
  | _ => .array .int
theorem nmX0 : ∀ a, a < 11 → ∀ b, b < 11 → a ≠ b → (TX0 a).2.1 ≠ (TX0 b).2.1 := by decide +kernel
theorem tyX0_ok : ∀ k, k < 11 → parseFieldDescriptor (TX0 k).2.2.1 = some (tyX0 k) := by decide +kernel
abbrev cX0_init : ByteArray := prog_2_method_1_code
def yX0_init : MethodName := ⟨RX0, "<init>", "()V"⟩
abbrev cX0_addEvent : ByteArray := prog_2_method_2_code
def yX0_addEvent : MethodName := ⟨RX0, "addEvent", "(II)V"⟩
abbrev cX0_addPacket : ByteArray := prog_2_method_3_code
def yX0_addPacket : MethodName := ⟨RX0, "addPacket", "(IIIII)V"⟩
abbrev cX0_cut : ByteArray := prog_2_method_4_code
def yX0_cut : MethodName := ⟨RX0, "cut", "(I)V"⟩
abbrev cX0_entryPort : ByteArray := prog_2_method_5_code
def yX0_entryPort : MethodName := ⟨RX0, "entryPort", "(I)I"⟩
abbrev cX0_sizeOf : ByteArray := prog_2_method_6_code
def yX0_sizeOf : MethodName := ⟨RX0, "sizeOf", "(I)I"⟩
abbrev cX0_rankOf : ByteArray := prog_2_method_7_code
def yX0_rankOf : MethodName := ⟨RX0, "rankOf", "(I)I"⟩
def RX1 : String := "DropSwitch$Limits"
def TX1 : u_T := fun k => match k with
  | 0 => ("DropSwitch$Limits", "ports", "I", false)
  | 1 => ("DropSwitch$Limits", "capacity", "[I", true)
  | 2 => ("DropSwitch$Limits", "speed", "[I", true)
  | 3 => ("DropSwitch$Limits", "rate", "[I", true)
  | 4 => ("DropSwitch$Limits", "burst", "[I", true)
  | 5 => ("DropSwitch$Limits", "buffer", "I", false)
  | 6 => ("DropSwitch$Limits", "wait", "I", false)
  | 7 => ("DropSwitch$Limits", "age", "I", false)
  | 8 => ("DropSwitch$Limits", "droppingRules", "I", false)
  | _ => ("DropSwitch$Limits", "idleRules", "I", false)
def tyX1 : Nat → FieldType := fun k => match k with
  | 0 => .int
  | 1 => .array .int
  | 2 => .array .int
  | 3 => .array .int
  | 4 => .array .int
  | 5 => .int
  | 6 => .int
  | 7 => .int
  | 8 => .int
  | _ => .int
theorem nmX1 : ∀ a, a < 10 → ∀ b, b < 10 → a ≠ b → (TX1 a).2.1 ≠ (TX1 b).2.1 := by decide +kernel
theorem tyX1_ok : ∀ k, k < 10 → parseFieldDescriptor (TX1 k).2.2.1 = some (tyX1 k) := by decide +kernel
abbrev cX1_init : ByteArray := prog_3_method_1_code
def yX1_init : MethodName := ⟨RX1, "<init>", "()V"⟩
abbrev cX1_reset : ByteArray := prog_3_method_2_code
def yX1_reset : MethodName := ⟨RX1, "reset", "()V"⟩
abbrev cX1_copyFrom : ByteArray := prog_3_method_3_code
def yX1_copyFrom : MethodName := ⟨RX1, "copyFrom", "(LDropSwitch$Limits;)V"⟩
abbrev cX1_hasPolicer : ByteArray := prog_3_method_4_code
def yX1_hasPolicer : MethodName := ⟨RX1, "hasPolicer", "(I)Z"⟩
abbrev cX1_isDropping : ByteArray := prog_3_method_5_code
def yX1_isDropping : MethodName := ⟨RX1, "isDropping", "(I)Z"⟩
def RX2 : String := "DropSwitch$Line"
def TX2 : u_T := fun k => match k with
  | 0 => ("DropSwitch$Line", "bytes", "[B", true)
  | _ => ("DropSwitch$Line", "length", "I", false)
def tyX2 : Nat → FieldType := fun k => match k with
  | 0 => .array .byte
  | _ => .int
theorem nmX2 : ∀ a, a < 2 → ∀ b, b < 2 → a ≠ b → (TX2 a).2.1 ≠ (TX2 b).2.1 := by decide +kernel
theorem tyX2_ok : ∀ k, k < 2 → parseFieldDescriptor (TX2 k).2.2.1 = some (tyX2 k) := by decide +kernel
abbrev cX2_init : ByteArray := prog_4_method_1_code
def yX2_init : MethodName := ⟨RX2, "<init>", "()V"⟩
abbrev cX2_add : ByteArray := prog_4_method_2_code
def yX2_add : MethodName := ⟨RX2, "add", "(I)V"⟩
abbrev cX2_addWord : ByteArray := prog_4_method_3_code
def yX2_addWord : MethodName := ⟨RX2, "addWord", "(Ljava/lang/String;)V"⟩
abbrev cX2_addNumber : ByteArray := prog_4_method_4_code
def yX2_addNumber : MethodName := ⟨RX2, "addNumber", "(I)V"⟩
abbrev cX2_addName : ByteArray := prog_4_method_5_code
def yX2_addName : MethodName := ⟨RX2, "addName", "(I)V"⟩
def RX3 : String := "DropSwitch$Log"
def TX3 : u_T := fun k => match k with
  | 0 => ("DropSwitch$Log", "drops", "I", false)
  | 1 => ("DropSwitch$Log", "dropRow", "[I", true)
  | 2 => ("DropSwitch$Log", "fates", "[I", true)
  | 3 => ("DropSwitch$Log", "deliveries", "[I", true)
  | 4 => ("DropSwitch$Log", "peakUnits", "[I", true)
  | _ => ("DropSwitch$Log", "peakEvent", "[I", true)
def tyX3 : Nat → FieldType := fun k => match k with
  | 0 => .int
  | 1 => .array .int
  | 2 => .array .int
  | 3 => .array .int
  | 4 => .array .int
  | _ => .array .int
theorem nmX3 : ∀ a, a < 6 → ∀ b, b < 6 → a ≠ b → (TX3 a).2.1 ≠ (TX3 b).2.1 := by decide +kernel
theorem tyX3_ok : ∀ k, k < 6 → parseFieldDescriptor (TX3 k).2.2.1 = some (tyX3 k) := by decide +kernel
abbrev cX3_init : ByteArray := prog_5_method_1_code
def yX3_init : MethodName := ⟨RX3, "<init>", "()V"⟩
abbrev cX3_clear : ByteArray := prog_5_method_2_code
def yX3_clear : MethodName := ⟨RX3, "clear", "()V"⟩
abbrev cX3_addDrop : ByteArray := prog_5_method_3_code
def yX3_addDrop : MethodName := ⟨RX3, "addDrop", "(IIIII)V"⟩
abbrev cX3_addDelivery : ByteArray := prog_5_method_4_code
def yX3_addDelivery : MethodName := ⟨RX3, "addDelivery", "(II)V"⟩
abbrev cX3_setFate : ByteArray := prog_5_method_5_code
def yX3_setFate : MethodName := ⟨RX3, "setFate", "(III)V"⟩
abbrev cX3_fateOf : ByteArray := prog_5_method_6_code
def yX3_fateOf : MethodName := ⟨RX3, "fateOf", "(II)I"⟩
abbrev cX3_notePeaks : ByteArray := prog_5_method_7_code
def yX3_notePeaks : MethodName := ⟨RX3, "notePeaks", "(ILDropSwitch$State;)V"⟩
abbrev cX3_dropPart : ByteArray := prog_5_method_8_code
def yX3_dropPart : MethodName := ⟨RX3, "dropPart", "(II)I"⟩
abbrev cX3_dropsWith : ByteArray := prog_5_method_9_code
def yX3_dropsWith : MethodName := ⟨RX3, "dropsWith", "(I)I"⟩
abbrev cX3_dropsWith_ : ByteArray := prog_5_method_10_code
def yX3_dropsWith_ : MethodName := ⟨RX3, "dropsWith", "(II)I"⟩
abbrev cX3_hasDropLike : ByteArray := prog_5_method_11_code
def yX3_hasDropLike : MethodName := ⟨RX3, "hasDropLike", "(LDropSwitch$Log;I)Z"⟩
abbrev cX3_dropsMissingIn : ByteArray := prog_5_method_12_code
def yX3_dropsMissingIn : MethodName := ⟨RX3, "dropsMissingIn", "(LDropSwitch$Log;)I"⟩
abbrev cX3_wasCrowded : ByteArray := prog_5_method_13_code
def yX3_wasCrowded : MethodName := ⟨RX3, "wasCrowded", "(I)Z"⟩
def RX4 : String := "DropSwitch$Reader"
def TX4 : u_T := fun k => match k with
  | 0 => ("DropSwitch$Reader", "setup", "LDropSwitch$Setup;", false)
  | 1 => ("DropSwitch$Reader", "badOffset", "I", false)
  | 2 => ("DropSwitch$Reader", "badKind", "I", false)
  | 3 => ("DropSwitch$Reader", "text", "[B", true)
  | 4 => ("DropSwitch$Reader", "length", "I", false)
  | 5 => ("DropSwitch$Reader", "at", "I", false)
  | 6 => ("DropSwitch$Reader", "start", "I", false)
  | 7 => ("DropSwitch$Reader", "token", "I", false)
  | 8 => ("DropSwitch$Reader", "name", "I", false)
  | 9 => ("DropSwitch$Reader", "port", "I", false)
  | _ => ("DropSwitch$Reader", "number", "I", false)
def tyX4 : Nat → FieldType := fun k => match k with
  | 0 => .object "DropSwitch$Setup"
  | 1 => .int
  | 2 => .int
  | 3 => .array .byte
  | 4 => .int
  | 5 => .int
  | 6 => .int
  | 7 => .int
  | 8 => .int
  | 9 => .int
  | _ => .int
theorem nmX4 : ∀ a, a < 11 → ∀ b, b < 11 → a ≠ b → (TX4 a).2.1 ≠ (TX4 b).2.1 := by decide +kernel
theorem tyX4_ok : ∀ k, k < 11 → parseFieldDescriptor (TX4 k).2.2.1 = some (tyX4 k) := by decide +kernel
abbrev cX4_init : ByteArray := prog_6_method_1_code
def yX4_init : MethodName := ⟨RX4, "<init>", "([B)V"⟩
abbrev cX4_read : ByteArray := prog_6_method_2_code
def yX4_read : MethodName := ⟨RX4, "read", "(I)Z"⟩
abbrev cX4_next : ByteArray := prog_6_method_3_code
def yX4_next : MethodName := ⟨RX4, "next", "()V"⟩
abbrev cX4_fail : ByteArray := prog_6_method_4_code
def yX4_fail : MethodName := ⟨RX4, "fail", "(I)Z"⟩
abbrev cX4_isWord : ByteArray := prog_6_method_5_code
def yX4_isWord : MethodName := ⟨RX4, "isWord", "(Ljava/lang/String;)Z"⟩
abbrev cX4_isSign : ByteArray := prog_6_method_6_code
def yX4_isSign : MethodName := ⟨RX4, "isSign", "(C)Z"⟩
abbrev cX4_readSign : ByteArray := prog_6_method_7_code
def yX4_readSign : MethodName := ⟨RX4, "readSign", "(C)Z"⟩
abbrev cX4_readNumber : ByteArray := prog_6_method_8_code
def yX4_readNumber : MethodName := ⟨RX4, "readNumber", "(II)Z"⟩
abbrev cX4_readName : ByteArray := prog_6_method_9_code
def yX4_readName : MethodName := ⟨RX4, "readName", "(Z)Z"⟩
abbrev cX4_readLimit : ByteArray := prog_6_method_10_code
def yX4_readLimit : MethodName := ⟨RX4, "readLimit", "()Z"⟩
abbrev cX4_readPort : ByteArray := prog_6_method_11_code
def yX4_readPort : MethodName := ⟨RX4, "readPort", "()Z"⟩
abbrev cX4_readPolicer : ByteArray := prog_6_method_12_code
def yX4_readPolicer : MethodName := ⟨RX4, "readPolicer", "()Z"⟩
abbrev cX4_readRule : ByteArray := prog_6_method_13_code
def yX4_readRule : MethodName := ⟨RX4, "readRule", "()Z"⟩
abbrev cX4_readCondition : ByteArray := prog_6_method_14_code
def yX4_readCondition : MethodName := ⟨RX4, "readCondition", "(I)Z"⟩
abbrev cX4_readAll : ByteArray := prog_6_method_15_code
def yX4_readAll : MethodName := ⟨RX4, "readAll", "(I)Z"⟩
abbrev cX4_readAtom : ByteArray := prog_6_method_16_code
def yX4_readAtom : MethodName := ⟨RX4, "readAtom", "(I)Z"⟩
abbrev cX4_atomKind : ByteArray := prog_6_method_17_code
def yX4_atomKind : MethodName := ⟨RX4, "atomKind", "()I"⟩
abbrev cX4_readNested : ByteArray := prog_6_method_18_code
def yX4_readNested : MethodName := ⟨RX4, "readNested", "(I)Z"⟩
def RX5 : String := "DropSwitch$Run"
def TX5 : u_T := fun k => match k with
  | 0 => ("DropSwitch$Run", "limits", "LDropSwitch$Limits;", true)
  | 1 => ("DropSwitch$Run", "state", "LDropSwitch$State;", true)
  | 2 => ("DropSwitch$Run", "log", "LDropSwitch$Log;", true)
  | 3 => ("DropSwitch$Run", "history", "LDropSwitch$History;", true)
  | _ => ("DropSwitch$Run", "event", "I", false)
def tyX5 : Nat → FieldType := fun k => match k with
  | 0 => .object "DropSwitch$Limits"
  | 1 => .object "DropSwitch$State"
  | 2 => .object "DropSwitch$Log"
  | 3 => .object "DropSwitch$History"
  | _ => .int
theorem nmX5 : ∀ a, a < 5 → ∀ b, b < 5 → a ≠ b → (TX5 a).2.1 ≠ (TX5 b).2.1 := by decide +kernel
theorem tyX5_ok : ∀ k, k < 5 → parseFieldDescriptor (TX5 k).2.2.1 = some (tyX5 k) := by decide +kernel
abbrev cX5_init : ByteArray := prog_7_method_1_code
def yX5_init : MethodName := ⟨RX5, "<init>", "(LDropSwitch$History;)V"⟩
abbrev cX5_start : ByteArray := prog_7_method_2_code
def yX5_start : MethodName := ⟨RX5, "start", "()V"⟩
abbrev cX5_startAt : ByteArray := prog_7_method_3_code
def yX5_startAt : MethodName := ⟨RX5, "startAt", "(LDropSwitch$State;)V"⟩
abbrev cX5_happen : ByteArray := prog_7_method_4_code
def yX5_happen : MethodName := ⟨RX5, "happen", "(I)I"⟩
abbrev cX5_takeIn : ByteArray := prog_7_method_5_code
def yX5_takeIn : MethodName := ⟨RX5, "takeIn", "(II)I"⟩
abbrev cX5_refuse : ByteArray := prog_7_method_6_code
def yX5_refuse : MethodName := ⟨RX5, "refuse", "(III)I"⟩
abbrev cX5_decidingRule : ByteArray := prog_7_method_7_code
def yX5_decidingRule : MethodName := ⟨RX5, "decidingRule", "(I)I"⟩
abbrev cX5_waysOut : ByteArray := prog_7_method_8_code
def yX5_waysOut : MethodName := ⟨RX5, "waysOut", "(II)I"⟩
abbrev cX5_putCopy : ByteArray := prog_7_method_9_code
def yX5_putCopy : MethodName := ⟨RX5, "putCopy", "(II)I"⟩
abbrev cX5_unitsBelow : ByteArray := prog_7_method_10_code
def yX5_unitsBelow : MethodName := ⟨RX5, "unitsBelow", "(II)I"⟩
abbrev cX5_leastImportant : ByteArray := prog_7_method_11_code
def yX5_leastImportant : MethodName := ⟨RX5, "leastImportant", "(I)I"⟩
abbrev cX5_mostImportant : ByteArray := prog_7_method_12_code
def yX5_mostImportant : MethodName := ⟨RX5, "mostImportant", "(I)I"⟩
abbrev cX5_takeOut : ByteArray := prog_7_method_13_code
def yX5_takeOut : MethodName := ⟨RX5, "takeOut", "(II)I"⟩
abbrev cX5_passTick : ByteArray := prog_7_method_14_code
def yX5_passTick : MethodName := ⟨RX5, "passTick", "()I"⟩
abbrev cX5_deliverFrom : ByteArray := prog_7_method_15_code
def yX5_deliverFrom : MethodName := ⟨RX5, "deliverFrom", "(I)I"⟩
abbrev cX5_dropStale : ByteArray := prog_7_method_16_code
def yX5_dropStale : MethodName := ⟨RX5, "dropStale", "(I)V"⟩
abbrev cX5_loseLink : ByteArray := prog_7_method_17_code
def yX5_loseLink : MethodName := ⟨RX5, "loseLink", "(I)I"⟩
def RX6 : String := "DropSwitch$Setup"
def TX6 : u_T := fun k => match k with
  | 0 => ("DropSwitch$Setup", "limits", "LDropSwitch$Limits;", true)
  | 1 => ("DropSwitch$Setup", "names", "[I", true)
  | 2 => ("DropSwitch$Setup", "rules", "I", false)
  | 3 => ("DropSwitch$Setup", "firstItem", "[I", true)
  | 4 => ("DropSwitch$Setup", "items", "[I", true)
  | _ => ("DropSwitch$Setup", "itemCount", "I", false)
def tyX6 : Nat → FieldType := fun k => match k with
  | 0 => .object "DropSwitch$Limits"
  | 1 => .array .int
  | 2 => .int
  | 3 => .array .int
  | 4 => .array .int
  | _ => .int
theorem nmX6 : ∀ a, a < 6 → ∀ b, b < 6 → a ≠ b → (TX6 a).2.1 ≠ (TX6 b).2.1 := by decide +kernel
theorem tyX6_ok : ∀ k, k < 6 → parseFieldDescriptor (TX6 k).2.2.1 = some (tyX6 k) := by decide +kernel
abbrev cX6_init : ByteArray := prog_8_method_1_code
def yX6_init : MethodName := ⟨RX6, "<init>", "()V"⟩
abbrev cX6_reset : ByteArray := prog_8_method_2_code
def yX6_reset : MethodName := ⟨RX6, "reset", "()V"⟩
abbrev cX6_addPort : ByteArray := prog_8_method_3_code
def yX6_addPort : MethodName := ⟨RX6, "addPort", "(III)V"⟩
abbrev cX6_portNamed : ByteArray := prog_8_method_4_code
def yX6_portNamed : MethodName := ⟨RX6, "portNamed", "(I)I"⟩
abbrev cX6_nameOf : ByteArray := prog_8_method_5_code
def yX6_nameOf : MethodName := ⟨RX6, "nameOf", "(I)I"⟩
abbrev cX6_addItem : ByteArray := prog_8_method_6_code
def yX6_addItem : MethodName := ⟨RX6, "addItem", "(II)V"⟩
abbrev cX6_addRule : ByteArray := prog_8_method_7_code
def yX6_addRule : MethodName := ⟨RX6, "addRule", "(Z)V"⟩
abbrev cX6_rulesHolding : ByteArray := prog_8_method_8_code
def yX6_rulesHolding : MethodName := ⟨RX6, "rulesHolding", "(LDropSwitch$History;I)I"⟩
abbrev cX6_holds : ByteArray := prog_8_method_9_code
def yX6_holds : MethodName := ⟨RX6, "holds", "(ILDropSwitch$History;I)Z"⟩
abbrev cX6_isTrue : ByteArray := prog_8_method_10_code
def yX6_isTrue : MethodName := ⟨RX6, "isTrue", "(ILDropSwitch$History;I)Z"⟩
abbrev cX6_comparison : ByteArray := prog_8_method_11_code
def yX6_comparison : MethodName := ⟨RX6, "comparison", "(II)I"⟩
abbrev cX6_compares : ByteArray := prog_8_method_12_code
def yX6_compares : MethodName := ⟨RX6, "compares", "(II)Z"⟩
def RX7 : String := "DropSwitch$State"
def TX7 : u_T := fun k => match k with
  | 0 => ("DropSwitch$State", "time", "I", false)
  | 1 => ("DropSwitch$State", "downLinks", "I", false)
  | 2 => ("DropSwitch$State", "allowance", "[I", true)
  | 3 => ("DropSwitch$State", "units", "[I", true)
  | 4 => ("DropSwitch$State", "copies", "[I", true)
  | 5 => ("DropSwitch$State", "packetRow", "[I", true)
  | 6 => ("DropSwitch$State", "timeRow", "[I", true)
  | 7 => ("DropSwitch$State", "entryPort", "[I", true)
  | _ => ("DropSwitch$State", "entryTime", "[I", true)
def tyX7 : Nat → FieldType := fun k => match k with
  | 0 => .int
  | 1 => .int
  | 2 => .array .int
  | 3 => .array .int
  | 4 => .array .int
  | 5 => .array .int
  | 6 => .array .int
  | 7 => .array .int
  | _ => .array .int
theorem nmX7 : ∀ a, a < 9 → ∀ b, b < 9 → a ≠ b → (TX7 a).2.1 ≠ (TX7 b).2.1 := by decide +kernel
theorem tyX7_ok : ∀ k, k < 9 → parseFieldDescriptor (TX7 k).2.2.1 = some (tyX7 k) := by decide +kernel
abbrev cX7_init : ByteArray := prog_9_method_1_code
def yX7_init : MethodName := ⟨RX7, "<init>", "()V"⟩
abbrev cX7_start : ByteArray := prog_9_method_2_code
def yX7_start : MethodName := ⟨RX7, "start", "(LDropSwitch$Limits;)V"⟩
abbrev cX7_copyFrom : ByteArray := prog_9_method_3_code
def yX7_copyFrom : MethodName := ⟨RX7, "copyFrom", "(LDropSwitch$State;)V"⟩
abbrev cX7_hasLink : ByteArray := prog_9_method_4_code
def yX7_hasLink : MethodName := ⟨RX7, "hasLink", "(I)Z"⟩
abbrev cX7_setLink : ByteArray := prog_9_method_5_code
def yX7_setLink : MethodName := ⟨RX7, "setLink", "(IZ)V"⟩
abbrev cX7_spend : ByteArray := prog_9_method_6_code
def yX7_spend : MethodName := ⟨RX7, "spend", "(II)Z"⟩
abbrev cX7_allUnits : ByteArray := prog_9_method_7_code
def yX7_allUnits : MethodName := ⟨RX7, "allUnits", "()I"⟩
abbrev cX7_packetAt : ByteArray := prog_9_method_8_code
def yX7_packetAt : MethodName := ⟨RX7, "packetAt", "(II)I"⟩
abbrev cX7_ageOf : ByteArray := prog_9_method_9_code
def yX7_ageOf : MethodName := ⟨RX7, "ageOf", "(II)I"⟩
abbrev cX7_putLast : ByteArray := prog_9_method_10_code
def yX7_putLast : MethodName := ⟨RX7, "putLast", "(III)V"⟩
abbrev cX7_remove : ByteArray := prog_9_method_11_code
def yX7_remove : MethodName := ⟨RX7, "remove", "(III)V"⟩
abbrev cX7_learn : ByteArray := prog_9_method_12_code
def yX7_learn : MethodName := ⟨RX7, "learn", "(II)V"⟩
abbrev cX7_forget : ByteArray := prog_9_method_13_code
def yX7_forget : MethodName := ⟨RX7, "forget", "(I)V"⟩
abbrev cX7_wayTo : ByteArray := prog_9_method_14_code
def yX7_wayTo : MethodName := ⟨RX7, "wayTo", "(II)I"⟩
def RX8 : String := "DropSwitch$Suppositions"
def TX8 : u_T := fun k => match k with
  | 0 => ("DropSwitch$Suppositions", "values", "[I", true)
  | _ => ("DropSwitch$Suppositions", "leftOut", "[Z", true)
def tyX8 : Nat → FieldType := fun k => match k with
  | 0 => .array .int
  | _ => .array .boolean
theorem nmX8 : ∀ a, a < 2 → ∀ b, b < 2 → a ≠ b → (TX8 a).2.1 ≠ (TX8 b).2.1 := by decide +kernel
theorem tyX8_ok : ∀ k, k < 2 → parseFieldDescriptor (TX8 k).2.2.1 = some (tyX8 k) := by decide +kernel
abbrev cX8_init : ByteArray := prog_10_method_1_code
def yX8_init : MethodName := ⟨RX8, "<init>", "()V"⟩
abbrev cX8_clear : ByteArray := prog_10_method_2_code
def yX8_clear : MethodName := ⟨RX8, "clear", "()V"⟩
abbrev cX8_set : ByteArray := prog_10_method_3_code
def yX8_set : MethodName := ⟨RX8, "set", "(III)V"⟩
abbrev cX8_settings : ByteArray := prog_10_method_4_code
def yX8_settings : MethodName := ⟨RX8, "settings", "()I"⟩
abbrev cX8_eventsLeftOut : ByteArray := prog_10_method_5_code
def yX8_eventsLeftOut : MethodName := ⟨RX8, "eventsLeftOut", "()I"⟩
abbrev cX8_changeLimits : ByteArray := prog_10_method_6_code
def yX8_changeLimits : MethodName := ⟨RX8, "changeLimits", "(LDropSwitch$Limits;)V"⟩
abbrev cX8_valueOr : ByteArray := prog_10_method_7_code
def yX8_valueOr : MethodName := ⟨RX8, "valueOr", "(II)I"⟩
def RX9 : String := "DropSwitch"
def TX9 : u_T := fun k => match k with
  | 0 => ("DropSwitch", "input", "[B", true)
  | 1 => ("DropSwitch", "inputLength", "I", false)
  | 2 => ("DropSwitch", "badOffset", "I", false)
  | 3 => ("DropSwitch", "badKind", "I", false)
  | 4 => ("DropSwitch", "reader", "LDropSwitch$Reader;", true)
  | 5 => ("DropSwitch", "setup", "LDropSwitch$Setup;", false)
  | 6 => ("DropSwitch", "history", "LDropSwitch$History;", true)
  | 7 => ("DropSwitch", "checkpointStates", "[LDropSwitch$State;", true)
  | 8 => ("DropSwitch", "present", "LDropSwitch$Run;", true)
  | 9 => ("DropSwitch", "trial", "LDropSwitch$Run;", true)
  | 10 => ("DropSwitch", "suppositions", "LDropSwitch$Suppositions;", true)
  | 11 => ("DropSwitch", "supposed", "LDropSwitch$Run;", true)
  | 12 => ("DropSwitch", "changes", "I", false)
  | 13 => ("DropSwitch", "supposedAt", "I", false)
  | 14 => ("DropSwitch", "triedAt", "[I", true)
  | 15 => ("DropSwitch", "savedWithout", "[J", true)
  | _ => ("DropSwitch", "line", "LDropSwitch$Line;", true)
def tyX9 : Nat → FieldType := fun k => match k with
  | 0 => .array .byte
  | 1 => .int
  | 2 => .int
  | 3 => .int
  | 4 => .object "DropSwitch$Reader"
  | 5 => .object "DropSwitch$Setup"
  | 6 => .object "DropSwitch$History"
  | 7 => .array (.object "DropSwitch$State")
  | 8 => .object "DropSwitch$Run"
  | 9 => .object "DropSwitch$Run"
  | 10 => .object "DropSwitch$Suppositions"
  | 11 => .object "DropSwitch$Run"
  | 12 => .int
  | 13 => .int
  | 14 => .array .int
  | 15 => .array .long
  | _ => .object "DropSwitch$Line"
theorem nmX9 : ∀ a, a < 17 → ∀ b, b < 17 → a ≠ b → (TX9 a).2.1 ≠ (TX9 b).2.1 := by decide +kernel
theorem tyX9_ok : ∀ k, k < 17 → parseFieldDescriptor (TX9 k).2.2.1 = some (tyX9 k) := by decide +kernel
abbrev cX9_init : ByteArray := prog_1_method_1_code
def yX9_init : MethodName := ⟨RX9, "<init>", "()V"⟩
abbrev cX9_append : ByteArray := prog_1_method_2_code
def yX9_append : MethodName := ⟨RX9, "append", "(IIIII)I"⟩
abbrev cX9_truncate : ByteArray := prog_1_method_3_code
def yX9_truncate : MethodName := ⟨RX9, "truncate", "(I)Z"⟩
abbrev cX9_load : ByteArray := prog_1_method_4_code
def yX9_load : MethodName := ⟨RX9, "load", "()I"⟩
abbrev cX9_errorOffset : ByteArray := prog_1_method_5_code
def yX9_errorOffset : MethodName := ⟨RX9, "errorOffset", "()I"⟩
abbrev cX9_errorKind : ByteArray := prog_1_method_6_code
def yX9_errorKind : MethodName := ⟨RX9, "errorKind", "()I"⟩
abbrev cX9_count : ByteArray := prog_1_method_7_code
def yX9_count : MethodName := ⟨RX9, "count", "(I)I"⟩
abbrev cX9_arrive : ByteArray := prog_1_method_8_code
def yX9_arrive : MethodName := ⟨RX9, "arrive", "(IIIII)I"⟩
abbrev cX9_tick : ByteArray := prog_1_method_9_code
def yX9_tick : MethodName := ⟨RX9, "tick", "()I"⟩
abbrev cX9_link : ByteArray := prog_1_method_10_code
def yX9_link : MethodName := ⟨RX9, "link", "(IZ)I"⟩
abbrev cX9_rewind : ByteArray := prog_1_method_11_code
def yX9_rewind : MethodName := ⟨RX9, "rewind", "(I)I"⟩
abbrev cX9_eventKind : ByteArray := prog_1_method_12_code
def yX9_eventKind : MethodName := ⟨RX9, "eventKind", "(I)I"⟩
abbrev cX9_packetOf : ByteArray := prog_1_method_13_code
def yX9_packetOf : MethodName := ⟨RX9, "packetOf", "(I)I"⟩
abbrev cX9_arrivalOf : ByteArray := prog_1_method_14_code
def yX9_arrivalOf : MethodName := ⟨RX9, "arrivalOf", "(I)I"⟩
abbrev cX9_fill : ByteArray := prog_1_method_15_code
def yX9_fill : MethodName := ⟨RX9, "fill", "(I)I"⟩
abbrev cX9_queueLength : ByteArray := prog_1_method_16_code
def yX9_queueLength : MethodName := ⟨RX9, "queueLength", "(I)I"⟩
abbrev cX9_queued : ByteArray := prog_1_method_17_code
def yX9_queued : MethodName := ⟨RX9, "queued", "(II)I"⟩
abbrev cX9_isUp : ByteArray := prog_1_method_18_code
def yX9_isUp : MethodName := ⟨RX9, "isUp", "(I)Z"⟩
abbrev cX9_tokens : ByteArray := prog_1_method_19_code
def yX9_tokens : MethodName := ⟨RX9, "tokens", "(I)I"⟩
abbrev cX9_portOf : ByteArray := prog_1_method_20_code
def yX9_portOf : MethodName := ⟨RX9, "portOf", "(I)I"⟩
abbrev cX9_tableSize : ByteArray := prog_1_method_21_code
def yX9_tableSize : MethodName := ⟨RX9, "tableSize", "()I"⟩
abbrev cX9_delivered : ByteArray := prog_1_method_22_code
def yX9_delivered : MethodName := ⟨RX9, "delivered", "(I)I"⟩
abbrev cX9_fate : ByteArray := prog_1_method_23_code
def yX9_fate : MethodName := ⟨RX9, "fate", "(II)I"⟩
abbrev cX9_dropField : ByteArray := prog_1_method_24_code
def yX9_dropField : MethodName := ⟨RX9, "dropField", "(II)I"⟩
abbrev cX9_firstDrop : ByteArray := prog_1_method_25_code
def yX9_firstDrop : MethodName := ⟨RX9, "firstDrop", "(I)I"⟩
abbrev cX9_dropsBy : ByteArray := prog_1_method_26_code
def yX9_dropsBy : MethodName := ⟨RX9, "dropsBy", "(I)I"⟩
abbrev cX9_dropsByRule : ByteArray := prog_1_method_27_code
def yX9_dropsByRule : MethodName := ⟨RX9, "dropsByRule", "(I)I"⟩
abbrev cX9_pushedBy : ByteArray := prog_1_method_28_code
def yX9_pushedBy : MethodName := ⟨RX9, "pushedBy", "(I)I"⟩
abbrev cX9_checkpoints : ByteArray := prog_1_method_29_code
def yX9_checkpoints : MethodName := ⟨RX9, "checkpoints", "()I"⟩
abbrev cX9_repeats : ByteArray := prog_1_method_30_code
def yX9_repeats : MethodName := ⟨RX9, "repeats", "(I)I"⟩
abbrev cX9_fillAt : ByteArray := prog_1_method_31_code
def yX9_fillAt : MethodName := ⟨RX9, "fillAt", "(II)I"⟩
abbrev cX9_portAt : ByteArray := prog_1_method_32_code
def yX9_portAt : MethodName := ⟨RX9, "portAt", "(II)I"⟩
abbrev cX9_peak : ByteArray := prog_1_method_33_code
def yX9_peak : MethodName := ⟨RX9, "peak", "(I)I"⟩
abbrev cX9_suppose : ByteArray := prog_1_method_34_code
def yX9_suppose : MethodName := ⟨RX9, "suppose", "(III)I"⟩
abbrev cX9_leaveOut : ByteArray := prog_1_method_35_code
def yX9_leaveOut : MethodName := ⟨RX9, "leaveOut", "(I)I"⟩
abbrev cX9_clearSuppositions : ByteArray := prog_1_method_36_code
def yX9_clearSuppositions : MethodName := ⟨RX9, "clearSuppositions", "()I"⟩
abbrev cX9_supposedDrops : ByteArray := prog_1_method_37_code
def yX9_supposedDrops : MethodName := ⟨RX9, "supposedDrops", "()I"⟩
abbrev cX9_supposedDropsBy : ByteArray := prog_1_method_38_code
def yX9_supposedDropsBy : MethodName := ⟨RX9, "supposedDropsBy", "(I)I"⟩
abbrev cX9_supposedFate : ByteArray := prog_1_method_39_code
def yX9_supposedFate : MethodName := ⟨RX9, "supposedFate", "(II)I"⟩
abbrev cX9_supposedDelivered : ByteArray := prog_1_method_40_code
def yX9_supposedDelivered : MethodName := ⟨RX9, "supposedDelivered", "(I)I"⟩
abbrev cX9_saved : ByteArray := prog_1_method_41_code
def yX9_saved : MethodName := ⟨RX9, "saved", "()I"⟩
abbrev cX9_newlyDropped : ByteArray := prog_1_method_42_code
def yX9_newlyDropped : MethodName := ⟨RX9, "newlyDropped", "()I"⟩
abbrev cX9_evidenceCount : ByteArray := prog_1_method_43_code
def yX9_evidenceCount : MethodName := ⟨RX9, "evidenceCount", "(I)I"⟩
abbrev cX9_evidence : ByteArray := prog_1_method_44_code
def yX9_evidence : MethodName := ⟨RX9, "evidence", "(II)I"⟩
abbrev cX9_leastCapacity : ByteArray := prog_1_method_45_code
def yX9_leastCapacity : MethodName := ⟨RX9, "leastCapacity", "(I)I"⟩
abbrev cX9_savingRules : ByteArray := prog_1_method_46_code
def yX9_savingRules : MethodName := ⟨RX9, "savingRules", "(I)I"⟩
abbrev cX9_formatDrop : ByteArray := prog_1_method_47_code
def yX9_formatDrop : MethodName := ⟨RX9, "formatDrop", "(I)I"⟩
abbrev cX9_formatQueue : ByteArray := prog_1_method_48_code
def yX9_formatQueue : MethodName := ⟨RX9, "formatQueue", "(I)I"⟩
abbrev cX9_formattedByte : ByteArray := prog_1_method_49_code
def yX9_formattedByte : MethodName := ⟨RX9, "formattedByte", "(I)I"⟩
abbrev cX9_needPort : ByteArray := prog_1_method_50_code
def yX9_needPort : MethodName := ⟨RX9, "needPort", "(I)V"⟩
abbrev cX9_needRule : ByteArray := prog_1_method_51_code
def yX9_needRule : MethodName := ⟨RX9, "needRule", "(I)V"⟩
abbrev cX9_needEvent : ByteArray := prog_1_method_52_code
def yX9_needEvent : MethodName := ⟨RX9, "needEvent", "(I)V"⟩
abbrev cX9_needMoment : ByteArray := prog_1_method_53_code
def yX9_needMoment : MethodName := ⟨RX9, "needMoment", "(I)V"⟩
abbrev cX9_needPacket : ByteArray := prog_1_method_54_code
def yX9_needPacket : MethodName := ⟨RX9, "needPacket", "(I)V"⟩
abbrev cX9_needDrop : ByteArray := prog_1_method_55_code
def yX9_needDrop : MethodName := ⟨RX9, "needDrop", "(I)V"⟩
abbrev cX9_needAddress : ByteArray := prog_1_method_56_code
def yX9_needAddress : MethodName := ⟨RX9, "needAddress", "(I)V"⟩
abbrev cX9_needCause : ByteArray := prog_1_method_57_code
def yX9_needCause : MethodName := ⟨RX9, "needCause", "(I)V"⟩
abbrev cX9_needRoom : ByteArray := prog_1_method_58_code
def yX9_needRoom : MethodName := ⟨RX9, "needRoom", "()V"⟩
abbrev cX9_appendWord : ByteArray := prog_1_method_59_code
def yX9_appendWord : MethodName := ⟨RX9, "appendWord", "(I)V"⟩
abbrev cX9_startOver : ByteArray := prog_1_method_60_code
def yX9_startOver : MethodName := ⟨RX9, "startOver", "()V"⟩
abbrev cX9_goOn : ByteArray := prog_1_method_61_code
def yX9_goOn : MethodName := ⟨RX9, "goOn", "()I"⟩
abbrev cX9_latestCheckpoint : ByteArray := prog_1_method_62_code
def yX9_latestCheckpoint : MethodName := ⟨RX9, "latestCheckpoint", "(I)I"⟩
abbrev cX9_reach : ByteArray := prog_1_method_63_code
def yX9_reach : MethodName := ⟨RX9, "reach", "(I)V"⟩
abbrev cX9_fitsSetting : ByteArray := prog_1_method_64_code
def yX9_fitsSetting : MethodName := ⟨RX9, "fitsSetting", "(II)Z"⟩
abbrev cX9_refreshSupposed : ByteArray := prog_1_method_65_code
def yX9_refreshSupposed : MethodName := ⟨RX9, "refreshSupposed", "()V"⟩
abbrev cX9_tryWithout : ByteArray := prog_1_method_66_code
def yX9_tryWithout : MethodName := ⟨RX9, "tryWithout", "(I)V"⟩
abbrev cX9_isSavedWithout : ByteArray := prog_1_method_67_code
def yX9_isSavedWithout : MethodName := ⟨RX9, "isSavedWithout", "(II)Z"⟩
abbrev cX9_trialDrops : ByteArray := prog_1_method_68_code
def yX9_trialDrops : MethodName := ⟨RX9, "trialDrops", "(I)Z"⟩
abbrev cX9_causeWord : ByteArray := prog_1_method_69_code
def yX9_causeWord : MethodName := ⟨RX9, "causeWord", "(I)Ljava/lang/String;"⟩
def RX10 : String := "DropSwitchModel"
def TX10 : u_T := fun k => match k with
  | 0 => ("DropSwitchModel", "thrown", "I", false)
  | 1 => ("DropSwitchModel", "ports", "I", false)
  | 2 => ("DropSwitchModel", "name", "[J", true)
  | 3 => ("DropSwitchModel", "capacity", "[I", true)
  | 4 => ("DropSwitchModel", "speed", "[I", true)
  | 5 => ("DropSwitchModel", "rate", "[I", true)
  | 6 => ("DropSwitchModel", "burst", "[I", true)
  | 7 => ("DropSwitchModel", "space", "I", false)
  | 8 => ("DropSwitchModel", "oldest", "I", false)
  | 9 => ("DropSwitchModel", "longest", "I", false)
  | 10 => ("DropSwitchModel", "rules", "I", false)
  | 11 => ("DropSwitchModel", "isDrop", "[Z", true)
  | 12 => ("DropSwitchModel", "codeFrom", "[I", true)
  | 13 => ("DropSwitchModel", "codeTo", "[I", true)
  | 14 => ("DropSwitchModel", "code", "[I", true)
  | 15 => ("DropSwitchModel", "events", "I", false)
  | 16 => ("DropSwitchModel", "packets", "I", false)
  | 17 => ("DropSwitchModel", "event", "[I", true)
  | 18 => ("DropSwitchModel", "arrival", "[I", true)
  | 19 => ("DropSwitchModel", "buffer", "[B", true)
  | 20 => ("DropSwitchModel", "buffered", "I", false)
  | 21 => ("DropSwitchModel", "length", "I", false)
  | 22 => ("DropSwitchModel", "at", "I", false)
  | 23 => ("DropSwitchModel", "error", "I", false)
  | 24 => ("DropSwitchModel", "kind", "I", false)
  | 25 => ("DropSwitchModel", "newPorts", "I", false)
  | 26 => ("DropSwitchModel", "newName", "[J", true)
  | 27 => ("DropSwitchModel", "newCapacity", "[I", true)
  | 28 => ("DropSwitchModel", "newSpeed", "[I", true)
  | 29 => ("DropSwitchModel", "newRate", "[I", true)
  | 30 => ("DropSwitchModel", "newBurst", "[I", true)
  | 31 => ("DropSwitchModel", "newSpace", "I", false)
  | 32 => ("DropSwitchModel", "newOldest", "I", false)
  | 33 => ("DropSwitchModel", "newLongest", "I", false)
  | 34 => ("DropSwitchModel", "newRules", "I", false)
  | 35 => ("DropSwitchModel", "newDrop", "[Z", true)
  | 36 => ("DropSwitchModel", "newFrom", "[I", true)
  | 37 => ("DropSwitchModel", "newTo", "[I", true)
  | 38 => ("DropSwitchModel", "newCode", "[I", true)
  | 39 => ("DropSwitchModel", "codes", "I", false)
  | 40 => ("DropSwitchModel", "pile", "[I", true)
  | 41 => ("DropSwitchModel", "piled", "I", false)
  | 42 => ("DropSwitchModel", "opened", "I", false)
  | 43 => ("DropSwitchModel", "supposedCapacity", "[I", true)
  | 44 => ("DropSwitchModel", "supposedSpace", "I", false)
  | 45 => ("DropSwitchModel", "supposedLongest", "I", false)
  | 46 => ("DropSwitchModel", "supposedOldest", "I", false)
  | 47 => ("DropSwitchModel", "supposedRules", "I", false)
  | 48 => ("DropSwitchModel", "isLeftOut", "[Z", true)
  | 49 => ("DropSwitchModel", "capacityNow", "[I", true)
  | 50 => ("DropSwitchModel", "spaceNow", "I", false)
  | 51 => ("DropSwitchModel", "longestNow", "I", false)
  | 52 => ("DropSwitchModel", "oldestNow", "I", false)
  | 53 => ("DropSwitchModel", "rulesOut", "I", false)
  | 54 => ("DropSwitchModel", "isOut", "[Z", true)
  | 55 => ("DropSwitchModel", "time", "I", false)
  | 56 => ("DropSwitchModel", "up", "[Z", true)
  | 57 => ("DropSwitchModel", "queue", "[I", true)
  | 58 => ("DropSwitchModel", "since", "[I", true)
  | 59 => ("DropSwitchModel", "queueMany", "[I", true)
  | 60 => ("DropSwitchModel", "tokens", "[I", true)
  | 61 => ("DropSwitchModel", "wayOf", "[I", true)
  | 62 => ("DropSwitchModel", "learnt", "[I", true)
  | 63 => ("DropSwitchModel", "fate", "[I", true)
  | 64 => ("DropSwitchModel", "delivered", "[I", true)
  | 65 => ("DropSwitchModel", "drop", "[I", true)
  | 66 => ("DropSwitchModel", "drops", "I", false)
  | 67 => ("DropSwitchModel", "eventNow", "I", false)
  | 68 => ("DropSwitchModel", "putMany", "I", false)
  | 69 => ("DropSwitchModel", "deliveredMany", "I", false)
  | 70 => ("DropSwitchModel", "truth", "[Z", true)
  | 71 => ("DropSwitchModel", "wasDropped", "[Z", true)
  | 72 => ("DropSwitchModel", "packetIn", "I", false)
  | 73 => ("DropSwitchModel", "portIn", "I", false)
  | 74 => ("DropSwitchModel", "formatted", "[I", true)
  | _ => ("DropSwitchModel", "formattedLength", "I", false)
def tyX10 : Nat → FieldType := fun k => match k with
  | 0 => .int
  | 1 => .int
  | 2 => .array .long
  | 3 => .array .int
  | 4 => .array .int
  | 5 => .array .int
  | 6 => .array .int
  | 7 => .int
  | 8 => .int
  | 9 => .int
  | 10 => .int
  | 11 => .array .boolean
  | 12 => .array .int
  | 13 => .array .int
  | 14 => .array .int
  | 15 => .int
  | 16 => .int
  | 17 => .array .int
  | 18 => .array .int
  | 19 => .array .byte
  | 20 => .int
  | 21 => .int
  | 22 => .int
  | 23 => .int
  | 24 => .int
  | 25 => .int
  | 26 => .array .long
  | 27 => .array .int
  | 28 => .array .int
  | 29 => .array .int
  | 30 => .array .int
  | 31 => .int
  | 32 => .int
  | 33 => .int
  | 34 => .int
  | 35 => .array .boolean
  | 36 => .array .int
  | 37 => .array .int
  | 38 => .array .int
  | 39 => .int
  | 40 => .array .int
  | 41 => .int
  | 42 => .int
  | 43 => .array .int
  | 44 => .int
  | 45 => .int
  | 46 => .int
  | 47 => .int
  | 48 => .array .boolean
  | 49 => .array .int
  | 50 => .int
  | 51 => .int
  | 52 => .int
  | 53 => .int
  | 54 => .array .boolean
  | 55 => .int
  | 56 => .array .boolean
  | 57 => .array .int
  | 58 => .array .int
  | 59 => .array .int
  | 60 => .array .int
  | 61 => .array .int
  | 62 => .array .int
  | 63 => .array .int
  | 64 => .array .int
  | 65 => .array .int
  | 66 => .int
  | 67 => .int
  | 68 => .int
  | 69 => .int
  | 70 => .array .boolean
  | 71 => .array .boolean
  | 72 => .int
  | 73 => .int
  | 74 => .array .int
  | _ => .int
theorem nmX10 : ∀ a, a < 76 → ∀ b, b < 76 → a ≠ b → (TX10 a).2.1 ≠ (TX10 b).2.1 := by decide +kernel
theorem tyX10_ok : ∀ k, k < 76 → parseFieldDescriptor (TX10 k).2.2.1 = some (tyX10 k) := by decide +kernel
abbrev cX10_init : ByteArray := prog_12_method_1_code
def yX10_init : MethodName := ⟨RX10, "<init>", "()V"⟩
abbrev cX10_thrown : ByteArray := prog_12_method_2_code
def yX10_thrown : MethodName := ⟨RX10, "thrown", "()I"⟩
abbrev cX10_inRange : ByteArray := prog_12_method_3_code
def yX10_inRange : MethodName := ⟨RX10, "inRange", "(III)Z"⟩
abbrev cX10_isIn : ByteArray := prog_12_method_4_code
def yX10_isIn : MethodName := ⟨RX10, "isIn", "(II)Z"⟩
abbrev cX10_append : ByteArray := prog_12_method_5_code
def yX10_append : MethodName := ⟨RX10, "append", "(IIIII)I"⟩
abbrev cX10_truncate : ByteArray := prog_12_method_6_code
def yX10_truncate : MethodName := ⟨RX10, "truncate", "(I)Z"⟩
abbrev cX10_byteAt : ByteArray := prog_12_method_7_code
def yX10_byteAt : MethodName := ⟨RX10, "byteAt", "(I)I"⟩
abbrev cX10_peek : ByteArray := prog_12_method_8_code
def yX10_peek : MethodName := ⟨RX10, "peek", "()I"⟩
abbrev cX10_failed : ByteArray := prog_12_method_9_code
def yX10_failed : MethodName := ⟨RX10, "failed", "()Z"⟩
abbrev cX10_fail : ByteArray := prog_12_method_10_code
def yX10_fail : MethodName := ⟨RX10, "fail", "(II)V"⟩
abbrev cX10_wordEnd : ByteArray := prog_12_method_11_code
def yX10_wordEnd : MethodName := ⟨RX10, "wordEnd", "()I"⟩
abbrev cX10_isWord : ByteArray := prog_12_method_12_code
def yX10_isWord : MethodName := ⟨RX10, "isWord", "(Ljava/lang/String;)Z"⟩
abbrev cX10_accept : ByteArray := prog_12_method_13_code
def yX10_accept : MethodName := ⟨RX10, "accept", "(Ljava/lang/String;)Z"⟩
abbrev cX10_number : ByteArray := prog_12_method_14_code
def yX10_number : MethodName := ⟨RX10, "number", "(II)I"⟩
abbrev cX10_packed : ByteArray := prog_12_method_15_code
def yX10_packed : MethodName := ⟨RX10, "packed", "()J"⟩
abbrev cX10_find : ByteArray := prog_12_method_16_code
def yX10_find : MethodName := ⟨RX10, "find", "(J)I"⟩
abbrev cX10_portLine : ByteArray := prog_12_method_17_code
def yX10_portLine : MethodName := ⟨RX10, "portLine", "()V"⟩
abbrev cX10_portHere : ByteArray := prog_12_method_18_code
def yX10_portHere : MethodName := ⟨RX10, "portHere", "()I"⟩
abbrev cX10_policeLine : ByteArray := prog_12_method_19_code
def yX10_policeLine : MethodName := ⟨RX10, "policeLine", "()V"⟩
abbrev cX10_emit : ByteArray := prog_12_method_20_code
def yX10_emit : MethodName := ⟨RX10, "emit", "(III)V"⟩
abbrev cX10_push : ByteArray := prog_12_method_21_code
def yX10_push : MethodName := ⟨RX10, "push", "(I)V"⟩
abbrev cX10_flush : ByteArray := prog_12_method_22_code
def yX10_flush : MethodName := ⟨RX10, "flush", "(I)V"⟩
abbrev cX10_isOpen : ByteArray := prog_12_method_23_code
def yX10_isOpen : MethodName := ⟨RX10, "isOpen", "()Z"⟩
abbrev cX10_openings : ByteArray := prog_12_method_24_code
def yX10_openings : MethodName := ⟨RX10, "openings", "()V"⟩
abbrev cX10_factNow : ByteArray := prog_12_method_25_code
def yX10_factNow : MethodName := ⟨RX10, "factNow", "()I"⟩
abbrev cX10_atom : ByteArray := prog_12_method_26_code
def yX10_atom : MethodName := ⟨RX10, "atom", "()V"⟩
abbrev cX10_closings : ByteArray := prog_12_method_27_code
def yX10_closings : MethodName := ⟨RX10, "closings", "()V"⟩
abbrev cX10_condition : ByteArray := prog_12_method_28_code
def yX10_condition : MethodName := ⟨RX10, "condition", "()V"⟩
abbrev cX10_ruleLine : ByteArray := prog_12_method_29_code
def yX10_ruleLine : MethodName := ⟨RX10, "ruleLine", "(Z)V"⟩
abbrev cX10_line : ByteArray := prog_12_method_30_code
def yX10_line : MethodName := ⟨RX10, "line", "()V"⟩
abbrev cX10_parse : ByteArray := prog_12_method_31_code
def yX10_parse : MethodName := ⟨RX10, "parse", "()V"⟩
abbrev cX10_load : ByteArray := prog_12_method_32_code
def yX10_load : MethodName := ⟨RX10, "load", "()I"⟩
abbrev cX10_errorOffset : ByteArray := prog_12_method_33_code
def yX10_errorOffset : MethodName := ⟨RX10, "errorOffset", "()I"⟩
abbrev cX10_errorKind : ByteArray := prog_12_method_34_code
def yX10_errorKind : MethodName := ⟨RX10, "errorKind", "()I"⟩
abbrev cX10_endsSuppositions : ByteArray := prog_12_method_35_code
def yX10_endsSuppositions : MethodName := ⟨RX10, "endsSuppositions", "()V"⟩
abbrev cX10_plain : ByteArray := prog_12_method_36_code
def yX10_plain : MethodName := ⟨RX10, "plain", "()V"⟩
abbrev cX10_supposed : ByteArray := prog_12_method_37_code
def yX10_supposed : MethodName := ⟨RX10, "supposed", "()V"⟩
abbrev cX10_field : ByteArray := prog_12_method_38_code
def yX10_field : MethodName := ⟨RX10, "field", "([IIII)I"⟩
abbrev cX10_ofEvent : ByteArray := prog_12_method_39_code
def yX10_ofEvent : MethodName := ⟨RX10, "ofEvent", "(II)I"⟩
abbrev cX10_ofPacket : ByteArray := prog_12_method_40_code
def yX10_ofPacket : MethodName := ⟨RX10, "ofPacket", "(II)I"⟩
abbrev cX10_sizeOf : ByteArray := prog_12_method_41_code
def yX10_sizeOf : MethodName := ⟨RX10, "sizeOf", "(I)I"⟩
abbrev cX10_classOf : ByteArray := prog_12_method_42_code
def yX10_classOf : MethodName := ⟨RX10, "classOf", "(I)I"⟩
abbrev cX10_fillOf : ByteArray := prog_12_method_43_code
def yX10_fillOf : MethodName := ⟨RX10, "fillOf", "(I)I"⟩
abbrev cX10_fillOfAll : ByteArray := prog_12_method_44_code
def yX10_fillOfAll : MethodName := ⟨RX10, "fillOfAll", "()I"⟩
abbrev cX10_drops : ByteArray := prog_12_method_45_code
def yX10_drops : MethodName := ⟨RX10, "drops", "(IIII)V"⟩
abbrev cX10_takesOut : ByteArray := prog_12_method_46_code
def yX10_takesOut : MethodName := ⟨RX10, "takesOut", "(II)I"⟩
abbrev cX10_begins : ByteArray := prog_12_method_47_code
def yX10_begins : MethodName := ⟨RX10, "begins", "()V"⟩
abbrev cX10_runsTo : ByteArray := prog_12_method_48_code
def yX10_runsTo : MethodName := ⟨RX10, "runsTo", "(I)V"⟩
abbrev cX10_now : ByteArray := prog_12_method_49_code
def yX10_now : MethodName := ⟨RX10, "now", "()V"⟩
abbrev cX10_happens : ByteArray := prog_12_method_50_code
def yX10_happens : MethodName := ⟨RX10, "happens", "(I)V"⟩
abbrev cX10_goesDown : ByteArray := prog_12_method_51_code
def yX10_goesDown : MethodName := ⟨RX10, "goesDown", "(I)V"⟩
abbrev cX10_tells : ByteArray := prog_12_method_52_code
def yX10_tells : MethodName := ⟨RX10, "tells", "(II)Z"⟩
abbrev cX10_holds : ByteArray := prog_12_method_53_code
def yX10_holds : MethodName := ⟨RX10, "holds", "(II)Z"⟩
abbrev cX10_ruleAgainst : ByteArray := prog_12_method_54_code
def yX10_ruleAgainst : MethodName := ⟨RX10, "ruleAgainst", "(I)I"⟩
abbrev cX10_isValid : ByteArray := prog_12_method_55_code
def yX10_isValid : MethodName := ⟨RX10, "isValid", "(I)Z"⟩
abbrev cX10_arrives : ByteArray := prog_12_method_56_code
def yX10_arrives : MethodName := ⟨RX10, "arrives", "(II)V"⟩
abbrev cX10_lowestBelow : ByteArray := prog_12_method_57_code
def yX10_lowestBelow : MethodName := ⟨RX10, "lowestBelow", "(II)I"⟩
abbrev cX10_sizesBelow : ByteArray := prog_12_method_58_code
def yX10_sizesBelow : MethodName := ⟨RX10, "sizesBelow", "(II)I"⟩
abbrev cX10_puts : ByteArray := prog_12_method_59_code
def yX10_puts : MethodName := ⟨RX10, "puts", "(II)V"⟩
abbrev cX10_highest : ByteArray := prog_12_method_60_code
def yX10_highest : MethodName := ⟨RX10, "highest", "(I)I"⟩
abbrev cX10_ticks : ByteArray := prog_12_method_61_code
def yX10_ticks : MethodName := ⟨RX10, "ticks", "()V"⟩
abbrev cX10_isPort : ByteArray := prog_12_method_62_code
def yX10_isPort : MethodName := ⟨RX10, "isPort", "(I)Z"⟩
abbrev cX10_isRule : ByteArray := prog_12_method_63_code
def yX10_isRule : MethodName := ⟨RX10, "isRule", "(I)Z"⟩
abbrev cX10_isPacket : ByteArray := prog_12_method_64_code
def yX10_isPacket : MethodName := ⟨RX10, "isPacket", "(I)Z"⟩
abbrev cX10_isEvent : ByteArray := prog_12_method_65_code
def yX10_isEvent : MethodName := ⟨RX10, "isEvent", "(I)Z"⟩
abbrev cX10_adds : ByteArray := prog_12_method_66_code
def yX10_adds : MethodName := ⟨RX10, "adds", "(IIIIII)V"⟩
abbrev cX10_isAddress : ByteArray := prog_12_method_67_code
def yX10_isAddress : MethodName := ⟨RX10, "isAddress", "(I)Z"⟩
abbrev cX10_arrive : ByteArray := prog_12_method_68_code
def yX10_arrive : MethodName := ⟨RX10, "arrive", "(IIIII)I"⟩
abbrev cX10_tick : ByteArray := prog_12_method_69_code
def yX10_tick : MethodName := ⟨RX10, "tick", "()I"⟩
abbrev cX10_link : ByteArray := prog_12_method_70_code
def yX10_link : MethodName := ⟨RX10, "link", "(IZ)I"⟩
abbrev cX10_rewind : ByteArray := prog_12_method_71_code
def yX10_rewind : MethodName := ⟨RX10, "rewind", "(I)I"⟩
abbrev cX10_count : ByteArray := prog_12_method_72_code
def yX10_count : MethodName := ⟨RX10, "count", "(I)I"⟩
abbrev cX10_eventKind : ByteArray := prog_12_method_73_code
def yX10_eventKind : MethodName := ⟨RX10, "eventKind", "(I)I"⟩
abbrev cX10_packetOf : ByteArray := prog_12_method_74_code
def yX10_packetOf : MethodName := ⟨RX10, "packetOf", "(I)I"⟩
abbrev cX10_arrivalOf : ByteArray := prog_12_method_75_code
def yX10_arrivalOf : MethodName := ⟨RX10, "arrivalOf", "(I)I"⟩
abbrev cX10_isGood : ByteArray := prog_12_method_76_code
def yX10_isGood : MethodName := ⟨RX10, "isGood", "(I)Z"⟩
abbrev cX10_fill : ByteArray := prog_12_method_77_code
def yX10_fill : MethodName := ⟨RX10, "fill", "(I)I"⟩
abbrev cX10_queueLength : ByteArray := prog_12_method_78_code
def yX10_queueLength : MethodName := ⟨RX10, "queueLength", "(I)I"⟩
abbrev cX10_queued : ByteArray := prog_12_method_79_code
def yX10_queued : MethodName := ⟨RX10, "queued", "(II)I"⟩
abbrev cX10_isUp : ByteArray := prog_12_method_80_code
def yX10_isUp : MethodName := ⟨RX10, "isUp", "(I)Z"⟩
abbrev cX10_tokens : ByteArray := prog_12_method_81_code
def yX10_tokens : MethodName := ⟨RX10, "tokens", "(I)I"⟩
abbrev cX10_portOf : ByteArray := prog_12_method_82_code
def yX10_portOf : MethodName := ⟨RX10, "portOf", "(I)I"⟩
abbrev cX10_tableSize : ByteArray := prog_12_method_83_code
def yX10_tableSize : MethodName := ⟨RX10, "tableSize", "()I"⟩
abbrev cX10_delivered : ByteArray := prog_12_method_84_code
def yX10_delivered : MethodName := ⟨RX10, "delivered", "(I)I"⟩
abbrev cX10_fate : ByteArray := prog_12_method_85_code
def yX10_fate : MethodName := ⟨RX10, "fate", "(II)I"⟩
abbrev cX10_isDropNow : ByteArray := prog_12_method_86_code
def yX10_isDropNow : MethodName := ⟨RX10, "isDropNow", "(I)Z"⟩
abbrev cX10_dropField : ByteArray := prog_12_method_87_code
def yX10_dropField : MethodName := ⟨RX10, "dropField", "(II)I"⟩
abbrev cX10_firstDrop : ByteArray := prog_12_method_88_code
def yX10_firstDrop : MethodName := ⟨RX10, "firstDrop", "(I)I"⟩
abbrev cX10_dropsWith : ByteArray := prog_12_method_89_code
def yX10_dropsWith : MethodName := ⟨RX10, "dropsWith", "(II)I"⟩
abbrev cX10_isCause : ByteArray := prog_12_method_90_code
def yX10_isCause : MethodName := ⟨RX10, "isCause", "(I)Z"⟩
abbrev cX10_dropsBy : ByteArray := prog_12_method_91_code
def yX10_dropsBy : MethodName := ⟨RX10, "dropsBy", "(I)I"⟩
abbrev cX10_dropsByRule : ByteArray := prog_12_method_92_code
def yX10_dropsByRule : MethodName := ⟨RX10, "dropsByRule", "(I)I"⟩
abbrev cX10_pushedBy : ByteArray := prog_12_method_93_code
def yX10_pushedBy : MethodName := ⟨RX10, "pushedBy", "(I)I"⟩
abbrev cX10_checkpoints : ByteArray := prog_12_method_94_code
def yX10_checkpoints : MethodName := ⟨RX10, "checkpoints", "()I"⟩
abbrev cX10_isMoment : ByteArray := prog_12_method_95_code
def yX10_isMoment : MethodName := ⟨RX10, "isMoment", "(I)Z"⟩
abbrev cX10_repeats : ByteArray := prog_12_method_96_code
def yX10_repeats : MethodName := ⟨RX10, "repeats", "(I)I"⟩
abbrev cX10_fillAt : ByteArray := prog_12_method_97_code
def yX10_fillAt : MethodName := ⟨RX10, "fillAt", "(II)I"⟩
abbrev cX10_portAt : ByteArray := prog_12_method_98_code
def yX10_portAt : MethodName := ⟨RX10, "portAt", "(II)I"⟩
abbrev cX10_peak : ByteArray := prog_12_method_99_code
def yX10_peak : MethodName := ⟨RX10, "peak", "(I)I"⟩
abbrev cX10_settings : ByteArray := prog_12_method_100_code
def yX10_settings : MethodName := ⟨RX10, "settings", "()I"⟩
abbrev cX10_isValue : ByteArray := prog_12_method_101_code
def yX10_isValue : MethodName := ⟨RX10, "isValue", "(II)Z"⟩
abbrev cX10_suppose : ByteArray := prog_12_method_102_code
def yX10_suppose : MethodName := ⟨RX10, "suppose", "(III)I"⟩
abbrev cX10_leftOut : ByteArray := prog_12_method_103_code
def yX10_leftOut : MethodName := ⟨RX10, "leftOut", "()I"⟩
abbrev cX10_leaveOut : ByteArray := prog_12_method_104_code
def yX10_leaveOut : MethodName := ⟨RX10, "leaveOut", "(I)I"⟩
abbrev cX10_clearSuppositions : ByteArray := prog_12_method_105_code
def yX10_clearSuppositions : MethodName := ⟨RX10, "clearSuppositions", "()I"⟩
abbrev cX10_runsSupposed : ByteArray := prog_12_method_106_code
def yX10_runsSupposed : MethodName := ⟨RX10, "runsSupposed", "()V"⟩
abbrev cX10_supposedDrops : ByteArray := prog_12_method_107_code
def yX10_supposedDrops : MethodName := ⟨RX10, "supposedDrops", "()I"⟩
abbrev cX10_supposedDropsBy : ByteArray := prog_12_method_108_code
def yX10_supposedDropsBy : MethodName := ⟨RX10, "supposedDropsBy", "(I)I"⟩
abbrev cX10_supposedFate : ByteArray := prog_12_method_109_code
def yX10_supposedFate : MethodName := ⟨RX10, "supposedFate", "(II)I"⟩
abbrev cX10_supposedDelivered : ByteArray := prog_12_method_110_code
def yX10_supposedDelivered : MethodName := ⟨RX10, "supposedDelivered", "(I)I"⟩
abbrev cX10_place : ByteArray := prog_12_method_111_code
def yX10_place : MethodName := ⟨RX10, "place", "(II)I"⟩
abbrev cX10_keepsDrops : ByteArray := prog_12_method_112_code
def yX10_keepsDrops : MethodName := ⟨RX10, "keepsDrops", "()V"⟩
abbrev cX10_dropsNotKept : ByteArray := prog_12_method_113_code
def yX10_dropsNotKept : MethodName := ⟨RX10, "dropsNotKept", "()I"⟩
abbrev cX10_saved : ByteArray := prog_12_method_114_code
def yX10_saved : MethodName := ⟨RX10, "saved", "()I"⟩
abbrev cX10_newlyDropped : ByteArray := prog_12_method_115_code
def yX10_newlyDropped : MethodName := ⟨RX10, "newlyDropped", "()I"⟩
abbrev cX10_keepsOne : ByteArray := prog_12_method_116_code
def yX10_keepsOne : MethodName := ⟨RX10, "keepsOne", "(I)Z"⟩
abbrev cX10_isDroppedStill : ByteArray := prog_12_method_117_code
def yX10_isDroppedStill : MethodName := ⟨RX10, "isDroppedStill", "()Z"⟩
abbrev cX10_evidenceTill : ByteArray := prog_12_method_118_code
def yX10_evidenceTill : MethodName := ⟨RX10, "evidenceTill", "(I)I"⟩
abbrev cX10_evidenceCount : ByteArray := prog_12_method_119_code
def yX10_evidenceCount : MethodName := ⟨RX10, "evidenceCount", "(I)I"⟩
abbrev cX10_evidence : ByteArray := prog_12_method_120_code
def yX10_evidence : MethodName := ⟨RX10, "evidence", "(II)I"⟩
abbrev cX10_leastCapacity : ByteArray := prog_12_method_121_code
def yX10_leastCapacity : MethodName := ⟨RX10, "leastCapacity", "(I)I"⟩
abbrev cX10_savingRules : ByteArray := prog_12_method_122_code
def yX10_savingRules : MethodName := ⟨RX10, "savingRules", "(I)I"⟩
abbrev cX10_put : ByteArray := prog_12_method_123_code
def yX10_put : MethodName := ⟨RX10, "put", "(I)V"⟩
abbrev cX10_putNumber : ByteArray := prog_12_method_124_code
def yX10_putNumber : MethodName := ⟨RX10, "putNumber", "(I)V"⟩
abbrev cX10_putWord : ByteArray := prog_12_method_125_code
def yX10_putWord : MethodName := ⟨RX10, "putWord", "(Ljava/lang/String;)V"⟩
abbrev cX10_putName : ByteArray := prog_12_method_126_code
def yX10_putName : MethodName := ⟨RX10, "putName", "(I)V"⟩
abbrev cX10_causeWord : ByteArray := prog_12_method_127_code
def yX10_causeWord : MethodName := ⟨RX10, "causeWord", "(I)Ljava/lang/String;"⟩
abbrev cX10_formatDrop : ByteArray := prog_12_method_128_code
def yX10_formatDrop : MethodName := ⟨RX10, "formatDrop", "(I)I"⟩
abbrev cX10_formatQueue : ByteArray := prog_12_method_129_code
def yX10_formatQueue : MethodName := ⟨RX10, "formatQueue", "(I)I"⟩
abbrev cX10_formattedByte : ByteArray := prog_12_method_130_code
def yX10_formattedByte : MethodName := ⟨RX10, "formattedByte", "(I)I"⟩
def RJ6 : String := "java/lang/Integer"
abbrev cJ6_compare_7cf53 : ByteArray := prog_20_method_40_code
def yJ6_compare_7cf53 : MethodName := ⟨RJ6, "compare", "(II)I"⟩
def RJ9 : String := "java/lang/Math"
abbrev cJ9_min_7cf53 : ByteArray := prog_21_method_69_code
def yJ9_min_7cf53 : MethodName := ⟨RJ9, "min", "(II)I"⟩
def RJ0 : String := "java/lang/String"
abbrev cJ0_length_8abf5 : ByteArray := prog_23_method_54_code
def yJ0_length_8abf5 : MethodName := ⟨RJ0, "length", "()I"⟩
abbrev cJ0_charAt_5068e : ByteArray := prog_23_method_56_code
def yJ0_charAt_5068e : MethodName := ⟨RJ0, "charAt", "(I)C"⟩
abbrev cJ0_coder_7d493 : ByteArray := prog_23_method_152_code
def yJ0_coder_7d493 : MethodName := ⟨RJ0, "coder", "()B"⟩
abbrev cJ0_isLatin1_aae02 : ByteArray := prog_23_method_154_code
def yJ0_isLatin1_aae02 : MethodName := ⟨RJ0, "isLatin1", "()Z"⟩
abbrev cJ0_checkIndex_df160 : ByteArray := prog_23_method_155_code
def yJ0_checkIndex_df160 : MethodName := ⟨RJ0, "checkIndex", "(II)V"⟩
def RJ1 : String := "java/lang/StringLatin1"
abbrev cJ1_charAt_3b067 : ByteArray := prog_24_method_2_code
def yJ1_charAt_3b067 : MethodName := ⟨RJ1, "charAt", "([BI)C"⟩
def RJ2 : String := "java/lang/StringUTF16"
abbrev cJ2_getChar_3b067 : ByteArray := prog_25_method_5_code
def yJ2_getChar_3b067 : MethodName := ⟨RJ2, "getChar", "([BI)C"⟩
abbrev cJ2_length_9d52b : ByteArray := prog_25_method_6_code
def yJ2_length_9d52b : MethodName := ⟨RJ2, "length", "([B)I"⟩
abbrev cJ2_charAt_3b067 : ByteArray := prog_25_method_83_code
def yJ2_charAt_3b067 : MethodName := ⟨RJ2, "charAt", "([BI)C"⟩
abbrev cJ2_checkIndex_2214a : ByteArray := prog_25_method_91_code
def yJ2_checkIndex_2214a : MethodName := ⟨RJ2, "checkIndex", "(I[B)V"⟩
def RJ10 : String := "java/lang/System"
def RJ7 : String := "java/util/Arrays"
abbrev cJ7_fill_53178 : ByteArray := prog_30_method_103_code
def yJ7_fill_53178 : MethodName := ⟨RJ7, "fill", "([II)V"⟩
def RJ3 : String := "jdk/internal/util/Preconditions"
abbrev cJ3_checkIndex_8e157 : ByteArray := prog_32_method_11_code
def yJ3_checkIndex_8e157 : MethodName := ⟨RJ3, "checkIndex", "(IILjava/util/function/BiFunction;)I"⟩
def RL : String := "DropSwitchLaw"
abbrev cL_load : ByteArray := method_3_code
def yL_load : MethodName := ⟨RL, "load", "(LDropSwitch;[J)I"⟩
abbrev cL_count : ByteArray := method_4_code
def yL_count : MethodName := ⟨RL, "count", "(LDropSwitch;I[J)I"⟩
abbrev cL_arrive : ByteArray := method_5_code
def yL_arrive : MethodName := ⟨RL, "arrive", "(LDropSwitch;IIIII[J)I"⟩
abbrev cL_tick : ByteArray := method_6_code
def yL_tick : MethodName := ⟨RL, "tick", "(LDropSwitch;[J)I"⟩
abbrev cL_link : ByteArray := method_7_code
def yL_link : MethodName := ⟨RL, "link", "(LDropSwitch;IZ[J)I"⟩
abbrev cL_rewind : ByteArray := method_8_code
def yL_rewind : MethodName := ⟨RL, "rewind", "(LDropSwitch;I[J)I"⟩
abbrev cL_eventKind : ByteArray := method_9_code
def yL_eventKind : MethodName := ⟨RL, "eventKind", "(LDropSwitch;I[J)I"⟩
abbrev cL_packetOf : ByteArray := method_10_code
def yL_packetOf : MethodName := ⟨RL, "packetOf", "(LDropSwitch;I[J)I"⟩
abbrev cL_arrivalOf : ByteArray := method_11_code
def yL_arrivalOf : MethodName := ⟨RL, "arrivalOf", "(LDropSwitch;I[J)I"⟩
abbrev cL_fill : ByteArray := method_12_code
def yL_fill : MethodName := ⟨RL, "fill", "(LDropSwitch;I[J)I"⟩
abbrev cL_queueLength : ByteArray := method_13_code
def yL_queueLength : MethodName := ⟨RL, "queueLength", "(LDropSwitch;I[J)I"⟩
abbrev cL_queued : ByteArray := method_14_code
def yL_queued : MethodName := ⟨RL, "queued", "(LDropSwitch;II[J)I"⟩
abbrev cL_isUp : ByteArray := method_15_code
def yL_isUp : MethodName := ⟨RL, "isUp", "(LDropSwitch;I[J)I"⟩
abbrev cL_tokens : ByteArray := method_16_code
def yL_tokens : MethodName := ⟨RL, "tokens", "(LDropSwitch;I[J)I"⟩
abbrev cL_portOf : ByteArray := method_17_code
def yL_portOf : MethodName := ⟨RL, "portOf", "(LDropSwitch;I[J)I"⟩
abbrev cL_delivered : ByteArray := method_18_code
def yL_delivered : MethodName := ⟨RL, "delivered", "(LDropSwitch;I[J)I"⟩
abbrev cL_fate : ByteArray := method_19_code
def yL_fate : MethodName := ⟨RL, "fate", "(LDropSwitch;II[J)I"⟩
abbrev cL_dropField : ByteArray := method_20_code
def yL_dropField : MethodName := ⟨RL, "dropField", "(LDropSwitch;II[J)I"⟩
abbrev cL_firstDrop : ByteArray := method_21_code
def yL_firstDrop : MethodName := ⟨RL, "firstDrop", "(LDropSwitch;I[J)I"⟩
abbrev cL_dropsBy : ByteArray := method_22_code
def yL_dropsBy : MethodName := ⟨RL, "dropsBy", "(LDropSwitch;I[J)I"⟩
abbrev cL_dropsByRule : ByteArray := method_23_code
def yL_dropsByRule : MethodName := ⟨RL, "dropsByRule", "(LDropSwitch;I[J)I"⟩
abbrev cL_pushedBy : ByteArray := method_24_code
def yL_pushedBy : MethodName := ⟨RL, "pushedBy", "(LDropSwitch;I[J)I"⟩
abbrev cL_repeats : ByteArray := method_25_code
def yL_repeats : MethodName := ⟨RL, "repeats", "(LDropSwitch;I[J)I"⟩
abbrev cL_fillAt : ByteArray := method_26_code
def yL_fillAt : MethodName := ⟨RL, "fillAt", "(LDropSwitch;II[J)I"⟩
abbrev cL_portAt : ByteArray := method_27_code
def yL_portAt : MethodName := ⟨RL, "portAt", "(LDropSwitch;II[J)I"⟩
abbrev cL_peak : ByteArray := method_28_code
def yL_peak : MethodName := ⟨RL, "peak", "(LDropSwitch;I[J)I"⟩
abbrev cL_suppose : ByteArray := method_29_code
def yL_suppose : MethodName := ⟨RL, "suppose", "(LDropSwitch;III[J)I"⟩
abbrev cL_leaveOut : ByteArray := method_30_code
def yL_leaveOut : MethodName := ⟨RL, "leaveOut", "(LDropSwitch;I[J)I"⟩
abbrev cL_supposedDropsBy : ByteArray := method_31_code
def yL_supposedDropsBy : MethodName := ⟨RL, "supposedDropsBy", "(LDropSwitch;I[J)I"⟩
abbrev cL_supposedFate : ByteArray := method_32_code
def yL_supposedFate : MethodName := ⟨RL, "supposedFate", "(LDropSwitch;II[J)I"⟩
abbrev cL_supposedDelivered : ByteArray := method_33_code
def yL_supposedDelivered : MethodName := ⟨RL, "supposedDelivered", "(LDropSwitch;I[J)I"⟩
abbrev cL_evidenceCount : ByteArray := method_34_code
def yL_evidenceCount : MethodName := ⟨RL, "evidenceCount", "(LDropSwitch;I[J)I"⟩
abbrev cL_evidence : ByteArray := method_35_code
def yL_evidence : MethodName := ⟨RL, "evidence", "(LDropSwitch;II[J)I"⟩
abbrev cL_leastCapacity : ByteArray := method_36_code
def yL_leastCapacity : MethodName := ⟨RL, "leastCapacity", "(LDropSwitch;I[J)I"⟩
abbrev cL_savingRules : ByteArray := method_37_code
def yL_savingRules : MethodName := ⟨RL, "savingRules", "(LDropSwitch;I[J)I"⟩
abbrev cL_formatDrop : ByteArray := method_38_code
def yL_formatDrop : MethodName := ⟨RL, "formatDrop", "(LDropSwitch;I[J)I"⟩
abbrev cL_formatQueue : ByteArray := method_39_code
def yL_formatQueue : MethodName := ⟨RL, "formatQueue", "(LDropSwitch;I[J)I"⟩
abbrev cL_law : ByteArray := code
def yL_law : MethodName := ⟨RL, "law", "([I)Z"⟩
abbrev vwCl : List vw_C := [(RX0, TX0, 11), (RX1, TX1, 10), (RX2, TX2, 2), (RX3, TX3, 6), (RX4, TX4, 11), (RX5, TX5, 5), (RX6, TX6, 6), (RX7, TX7, 9), (RX8, TX8, 2), (RX9, TX9, 17), (RX10, TX10, 76)]
abbrev Ent : Type := Instr × Nat × Nat × Nat × Nat × Nat
abbrev Mrec : Type := MethodName × ByteArray × Nat × Option FieldType × List (Nat × Nat × Nat × Nat) × Nat × Nat × Nat × Nat × Nat × Nat
/-- a method: name, code, locals, what it returns, its table of handlers, its kind (0 of an object, 1 static, 2 static with a table), its class's number, the places of its words: code, initialized, instance or static, selects -/
noncomputable def mtb_0 : List Mrec := [
  (yX0_init, cX0_init, 1, none, [], 0, 0, 313, 127, 312, 0),
  (yX0_addEvent, cX0_addEvent, 3, none, [], 0, 0, 1118, 127, 1116, 1117),
  (yX0_addPacket, cX0_addPacket, 6, none, [], 0, 0, 1114, 127, 1112, 1113),
  (yX0_cut, cX0_cut, 3, none, [], 0, 0, 504, 127, 502, 503),
  (yX0_entryPort, cX0_entryPort, 2, (some .int), [], 0, 0, 1133, 127, 1131, 1132),
  (yX0_sizeOf, cX0_sizeOf, 2, (some .int), [], 0, 0, 689, 127, 687, 688),
  (yX0_rankOf, cX0_rankOf, 2, (some .int), [], 0, 0, 714, 127, 712, 713),
  (yX1_init, cX1_init, 1, none, [], 0, 1, 173, 126, 172, 0),
  (yX1_reset, cX1_reset, 1, none, [], 0, 1, 246, 126, 244, 245),
  (yX1_copyFrom, cX1_copyFrom, 2, none, [], 0, 1, 515, 126, 513, 514),
  (yX1_hasPolicer, cX1_hasPolicer, 2, (some .boolean), [], 0, 1, 685, 126, 683, 684),
  (yX1_isDropping, cX1_isDropping, 2, (some .boolean), [], 0, 1, 681, 126, 679, 680),
  (yX2_init, cX2_init, 1, none, [], 0, 2, 484, 132, 483, 0),
  (yX2_add, cX2_add, 2, none, [], 0, 2, 1458, 132, 1456, 1457),
  (yX2_addWord, cX2_addWord, 3, none, [], 0, 2, 1476, 132, 1474, 1475),
  (yX2_addNumber, cX2_addNumber, 2, none, [], 0, 2, 1454, 132, 1452, 1453),
  (yX2_addName, cX2_addName, 4, none, [], 0, 2, 1486, 132, 1484, 1485),
  (yX3_init, cX3_init, 1, none, [], 0, 3, 422, 130, 421, 0),
  (yX3_clear, cX3_clear, 1, none, [], 0, 3, 531, 130, 529, 530),
  (yX3_addDrop, cX3_addDrop, 7, none, [], 0, 3, 669, 130, 667, 668),
  (yX3_addDelivery, cX3_addDelivery, 3, none, [], 0, 3, 758, 130, 756, 757),
  (yX3_setFate, cX3_setFate, 4, none, [], 0, 3, 673, 130, 671, 672),
  (yX3_fateOf, cX3_fateOf, 3, (some .int), [], 0, 3, 802, 130, 800, 801),
  (yX3_notePeaks, cX3_notePeaks, 4, none, [], 0, 3, 782, 130, 780, 781),
  (yX3_dropPart, cX3_dropPart, 3, (some .int), [], 0, 3, 798, 130, 796, 797),
  (yX3_dropsWith, cX3_dropsWith, 4, (some .int), [], 0, 3, 1288, 130, 1286, 1287),
  (yX3_dropsWith_, cX3_dropsWith_, 5, (some .int), [], 0, 3, 1303, 130, 1301, 1302),
  (yX3_hasDropLike, cX3_hasDropLike, 3, (some .boolean), [], 0, 3, 794, 130, 792, 793),
  (yX3_dropsMissingIn, cX3_dropsMissingIn, 4, (some .int), [], 0, 3, 790, 130, 788, 789),
  (yX3_wasCrowded, cX3_wasCrowded, 4, (some .boolean), [], 0, 3, 1436, 130, 1434, 1435),
  (yX4_init, cX4_init, 2, none, [], 0, 4, 161, 124, 160, 0),
  (yX4_read, cX4_read, 4, (some .boolean), [], 0, 4, 822, 124, 820, 821),
  (yX4_next, cX4_next, 1, none, [], 0, 4, 828, 124, 827, 17),
  (yX4_fail, cX4_fail, 2, (some .boolean), [], 0, 4, 889, 124, 888, 20),
  (yX4_isWord, cX4_isWord, 3, (some .boolean), [], 0, 4, 833, 124, 832, 18),
  (yX4_isSign, cX4_isSign, 2, (some .boolean), [], 0, 4, 934, 124, 933, 28),
  (yX4_readSign, cX4_readSign, 2, (some .boolean), [], 0, 4, 972, 124, 971, 32),
  (yX4_readNumber, cX4_readNumber, 4, (some .boolean), [], 0, 4, 901, 124, 900, 22),
  (yX4_readName, cX4_readName, 3, (some .boolean), [], 0, 4, 893, 124, 892, 21),
  (yX4_readLimit, cX4_readLimit, 1, (some .boolean), [], 0, 4, 965, 124, 964, 31),
  (yX4_readPort, cX4_readPort, 2, (some .boolean), [], 0, 4, 885, 124, 884, 19),
  (yX4_readPolicer, cX4_readPolicer, 2, (some .boolean), [], 0, 4, 910, 124, 909, 23),
  (yX4_readRule, cX4_readRule, 2, (some .boolean), [], 0, 4, 916, 124, 915, 24),
  (yX4_readCondition, cX4_readCondition, 3, (some .boolean), [], 0, 4, 921, 124, 920, 25),
  (yX4_readAll, cX4_readAll, 3, (some .boolean), [], 0, 4, 925, 124, 924, 26),
  (yX4_readAtom, cX4_readAtom, 5, (some .boolean), [], 0, 4, 929, 124, 928, 27),
  (yX4_atomKind, cX4_atomKind, 1, (some .int), [], 0, 4, 946, 124, 945, 30),
  (yX4_readNested, cX4_readNested, 3, (some .boolean), [], 0, 4, 938, 124, 937, 29),
  (yX5_init, cX5_init, 2, none, [], 0, 5, 371, 128, 370, 0),
  (yX5_start, cX5_start, 1, none, [], 0, 5, 522, 128, 520, 521),
  (yX5_startAt, cX5_startAt, 2, none, [], 0, 5, 1341, 128, 1339, 1340),
  (yX5_happen, cX5_happen, 4, (some .int), [], 0, 5, 653, 128, 651, 652),
  (yX5_takeIn, cX5_takeIn, 7, (some .int), [], 0, 5, 657, 128, 656, 4),
  (yX5_refuse, cX5_refuse, 4, (some .int), [], 0, 5, 665, 128, 664, 5),
  (yX5_decidingRule, cX5_decidingRule, 4, (some .int), [], 0, 5, 677, 128, 676, 6),
  (yX5_waysOut, cX5_waysOut, 6, (some .int), [], 0, 5, 701, 128, 700, 7),
  (yX5_putCopy, cX5_putCopy, 7, (some .int), [], 0, 5, 706, 128, 705, 8),
  (yX5_unitsBelow, cX5_unitsBelow, 6, (some .int), [], 0, 5, 718, 128, 717, 9),
  (yX5_leastImportant, cX5_leastImportant, 6, (some .int), [], 0, 5, 726, 128, 725, 10),
  (yX5_mostImportant, cX5_mostImportant, 6, (some .int), [], 0, 5, 754, 128, 753, 14),
  (yX5_takeOut, cX5_takeOut, 4, (some .int), [], 0, 5, 730, 128, 729, 11),
  (yX5_passTick, cX5_passTick, 3, (some .int), [], 0, 5, 743, 128, 742, 12),
  (yX5_deliverFrom, cX5_deliverFrom, 4, (some .int), [], 0, 5, 747, 128, 746, 13),
  (yX5_dropStale, cX5_dropStale, 4, none, [], 0, 5, 762, 128, 761, 15)]
noncomputable def mtb_1 : List Mrec := [
  (yX5_loseLink, cX5_loseLink, 4, (some .int), [], 0, 5, 774, 128, 773, 16),
  (yX6_init, cX6_init, 1, none, [], 0, 6, 167, 125, 166, 0),
  (yX6_reset, cX6_reset, 1, none, [], 0, 6, 242, 125, 240, 241),
  (yX6_addPort, cX6_addPort, 5, none, [], 0, 6, 905, 125, 903, 904),
  (yX6_portNamed, cX6_portNamed, 3, (some .int), [], 0, 6, 897, 125, 895, 896),
  (yX6_nameOf, cX6_nameOf, 2, (some .int), [], 0, 6, 1482, 125, 1480, 1481),
  (yX6_addItem, cX6_addItem, 3, none, [], 0, 6, 942, 125, 940, 941),
  (yX6_addRule, cX6_addRule, 2, none, [], 0, 6, 961, 125, 959, 960),
  (yX6_rulesHolding, cX6_rulesHolding, 5, (some .int), [], 0, 6, 1122, 125, 1120, 1121),
  (yX6_holds, cX6_holds, 6, (some .boolean), [], 0, 6, 1126, 125, 1125, 37),
  (yX6_isTrue, cX6_isTrue, 4, (some .boolean), [], 1, 6, 1129, 125, 1128, 0),
  (yX6_comparison, cX6_comparison, 2, (some .int), [], 1, 6, 955, 125, 954, 0),
  (yX6_compares, cX6_compares, 2, (some .boolean), [], 1, 6, 1136, 125, 1135, 0),
  (yX7_init, cX7_init, 1, none, [], 0, 7, 379, 129, 378, 0),
  (yX7_start, cX7_start, 3, none, [], 0, 7, 526, 129, 524, 525),
  (yX7_copyFrom, cX7_copyFrom, 4, none, [], 0, 7, 536, 129, 534, 535),
  (yX7_hasLink, cX7_hasLink, 2, (some .boolean), [], 0, 7, 661, 129, 659, 660),
  (yX7_setLink, cX7_setLink, 3, none, [], 0, 7, 770, 129, 768, 769),
  (yX7_spend, cX7_spend, 3, (some .boolean), [], 0, 7, 693, 129, 691, 692),
  (yX7_allUnits, cX7_allUnits, 3, (some .int), [], 0, 7, 710, 129, 708, 709),
  (yX7_packetAt, cX7_packetAt, 3, (some .int), [], 0, 7, 722, 129, 720, 721),
  (yX7_ageOf, cX7_ageOf, 3, (some .int), [], 0, 7, 766, 129, 764, 765),
  (yX7_putLast, cX7_putLast, 5, none, [], 0, 7, 738, 129, 736, 737),
  (yX7_remove, cX7_remove, 6, none, [], 0, 7, 734, 129, 732, 733),
  (yX7_learn, cX7_learn, 3, none, [], 0, 7, 697, 129, 695, 696),
  (yX7_forget, cX7_forget, 3, none, [], 0, 7, 778, 129, 776, 777),
  (yX7_wayTo, cX7_wayTo, 4, (some .int), [], 0, 7, 617, 129, 615, 616),
  (yX8_init, cX8_init, 1, none, [], 0, 8, 469, 131, 468, 0),
  (yX8_clear, cX8_clear, 2, none, [], 0, 8, 508, 131, 506, 507),
  (yX8_set, cX8_set, 4, none, [], 0, 8, 1370, 131, 1368, 1369),
  (yX8_settings, cX8_settings, 3, (some .int), [], 0, 8, 629, 131, 627, 628),
  (yX8_eventsLeftOut, cX8_eventsLeftOut, 3, (some .int), [], 0, 8, 633, 131, 631, 632),
  (yX8_changeLimits, cX8_changeLimits, 3, none, [], 0, 8, 645, 131, 643, 644),
  (yX8_valueOr, cX8_valueOr, 3, (some .int), [], 0, 8, 649, 131, 648, 3),
  (yX9_init, cX9_init, 2, none, [], 0, 9, 153, 123, 152, 0),
  (yX9_append, cX9_append, 6, (some .int), [], 0, 9, 593, 123, 591, 592),
  (yX9_truncate, cX9_truncate, 2, (some .boolean), [], 0, 9, 601, 123, 599, 600),
  (yX9_load, cX9_load, 3, (some .int), [], 0, 9, 818, 123, 816, 817),
  (yX9_errorOffset, cX9_errorOffset, 1, (some .int), [], 0, 9, 605, 123, 603, 604),
  (yX9_errorKind, cX9_errorKind, 1, (some .int), [], 0, 9, 609, 123, 607, 608),
  (yX9_count, cX9_count, 2, (some .int), [], 0, 9, 1044, 123, 1042, 1043),
  (yX9_arrive, cX9_arrive, 7, (some .int), [], 0, 9, 1068, 123, 1066, 1067),
  (yX9_tick, cX9_tick, 1, (some .int), [], 0, 9, 1150, 123, 1148, 1149),
  (yX9_link, cX9_link, 3, (some .int), [], 0, 9, 1158, 123, 1156, 1157),
  (yX9_rewind, cX9_rewind, 3, (some .int), [], 0, 9, 1165, 123, 1163, 1164),
  (yX9_eventKind, cX9_eventKind, 2, (some .int), [], 0, 9, 1172, 123, 1170, 1171),
  (yX9_packetOf, cX9_packetOf, 2, (some .int), [], 0, 9, 1183, 123, 1181, 1182),
  (yX9_arrivalOf, cX9_arrivalOf, 2, (some .int), [], 0, 9, 1190, 123, 1188, 1189),
  (yX9_fill, cX9_fill, 2, (some .int), [], 0, 9, 1201, 123, 1199, 1200),
  (yX9_queueLength, cX9_queueLength, 2, (some .int), [], 0, 9, 1208, 123, 1206, 1207),
  (yX9_queued, cX9_queued, 3, (some .int), [], 0, 9, 1215, 123, 1213, 1214),
  (yX9_isUp, cX9_isUp, 2, (some .boolean), [], 0, 9, 1223, 123, 1221, 1222),
  (yX9_tokens, cX9_tokens, 2, (some .int), [], 0, 9, 1231, 123, 1229, 1230),
  (yX9_portOf, cX9_portOf, 2, (some .int), [], 0, 9, 1239, 123, 1237, 1238),
  (yX9_tableSize, cX9_tableSize, 3, (some .int), [], 0, 9, 613, 123, 611, 612),
  (yX9_delivered, cX9_delivered, 2, (some .int), [], 0, 9, 1246, 123, 1244, 1245),
  (yX9_fate, cX9_fate, 3, (some .int), [], 0, 9, 1253, 123, 1251, 1252),
  (yX9_dropField, cX9_dropField, 3, (some .int), [], 0, 9, 1261, 123, 1259, 1260),
  (yX9_firstDrop, cX9_firstDrop, 3, (some .int), [], 0, 9, 1273, 123, 1271, 1272),
  (yX9_dropsBy, cX9_dropsBy, 2, (some .int), [], 0, 9, 1280, 123, 1278, 1279),
  (yX9_dropsByRule, cX9_dropsByRule, 2, (some .int), [], 0, 9, 1295, 123, 1293, 1294),
  (yX9_pushedBy, cX9_pushedBy, 2, (some .int), [], 0, 9, 1310, 123, 1308, 1309),
  (yX9_checkpoints, cX9_checkpoints, 1, (some .int), [], 0, 9, 621, 123, 619, 620),
  (yX9_repeats, cX9_repeats, 2, (some .int), [], 0, 9, 1317, 123, 1315, 1316)]
noncomputable def mtb_2 : List Mrec := [
  (yX9_fillAt, cX9_fillAt, 3, (some .int), [], 0, 9, 1333, 123, 1331, 1332),
  (yX9_portAt, cX9_portAt, 3, (some .int), [], 0, 9, 1349, 123, 1347, 1348),
  (yX9_peak, cX9_peak, 2, (some .int), [], 0, 9, 1356, 123, 1354, 1355),
  (yX9_suppose, cX9_suppose, 4, (some .int), [], 0, 9, 1363, 123, 1361, 1362),
  (yX9_leaveOut, cX9_leaveOut, 2, (some .int), [], 0, 9, 1377, 123, 1375, 1376),
  (yX9_clearSuppositions, cX9_clearSuppositions, 2, (some .int), [], 0, 9, 625, 123, 623, 624),
  (yX9_supposedDrops, cX9_supposedDrops, 1, (some .int), [], 0, 9, 637, 123, 635, 636),
  (yX9_supposedDropsBy, cX9_supposedDropsBy, 2, (some .int), [], 0, 9, 1384, 123, 1382, 1383),
  (yX9_supposedFate, cX9_supposedFate, 3, (some .int), [], 0, 9, 1391, 123, 1389, 1390),
  (yX9_supposedDelivered, cX9_supposedDelivered, 2, (some .int), [], 0, 9, 1398, 123, 1396, 1397),
  (yX9_saved, cX9_saved, 1, (some .int), [], 0, 9, 786, 123, 784, 785),
  (yX9_newlyDropped, cX9_newlyDropped, 1, (some .int), [], 0, 9, 806, 123, 804, 805),
  (yX9_evidenceCount, cX9_evidenceCount, 5, (some .int), [], 0, 9, 1405, 123, 1403, 1404),
  (yX9_evidence, cX9_evidence, 6, (some .int), [], 0, 9, 1421, 123, 1419, 1420),
  (yX9_leastCapacity, cX9_leastCapacity, 4, (some .int), [], 0, 9, 1428, 123, 1426, 1427),
  (yX9_savingRules, cX9_savingRules, 4, (some .int), [], 0, 9, 1443, 123, 1441, 1442),
  (yX9_formatDrop, cX9_formatDrop, 4, (some .int), [], 0, 9, 1450, 123, 1448, 1449),
  (yX9_formatQueue, cX9_formatQueue, 4, (some .int), [], 0, 9, 1493, 123, 1491, 1492),
  (yX9_formattedByte, cX9_formattedByte, 2, (some .int), [], 0, 9, 810, 123, 808, 809),
  (yX9_needPort, cX9_needPort, 2, none, [], 0, 9, 1072, 123, 1071, 34),
  (yX9_needRule, cX9_needRule, 2, none, [], 0, 9, 1299, 123, 1298, 43),
  (yX9_needEvent, cX9_needEvent, 2, none, [], 0, 9, 1176, 123, 1175, 39),
  (yX9_needMoment, cX9_needMoment, 2, none, [], 0, 9, 1321, 123, 1320, 44),
  (yX9_needPacket, cX9_needPacket, 2, none, [], 0, 9, 1194, 123, 1193, 40),
  (yX9_needDrop, cX9_needDrop, 2, none, [], 0, 9, 1265, 123, 1264, 41),
  (yX9_needAddress, cX9_needAddress, 2, none, [], 0, 9, 1091, 123, 1090, 35),
  (yX9_needCause, cX9_needCause, 2, none, [], 0, 9, 1284, 123, 1283, 42),
  (yX9_needRoom, cX9_needRoom, 1, none, [], 0, 9, 1095, 123, 1094, 36),
  (yX9_appendWord, cX9_appendWord, 3, none, [], 0, 9, 597, 123, 596, 1),
  (yX9_startOver, cX9_startOver, 1, none, [], 0, 9, 500, 123, 499, 0),
  (yX9_goOn, cX9_goOn, 2, (some .int), [], 0, 9, 1143, 123, 1142, 38),
  (yX9_latestCheckpoint, cX9_latestCheckpoint, 3, (some .int), [], 0, 9, 1325, 123, 1324, 45),
  (yX9_reach, cX9_reach, 4, none, [], 0, 9, 1337, 123, 1336, 46),
  (yX9_fitsSetting, cX9_fitsSetting, 2, (some .boolean), [], 1, 9, 1366, 123, 1365, 0),
  (yX9_refreshSupposed, cX9_refreshSupposed, 2, none, [], 0, 9, 641, 123, 640, 2),
  (yX9_tryWithout, cX9_tryWithout, 5, none, [], 0, 9, 1409, 123, 1408, 47),
  (yX9_isSavedWithout, cX9_isSavedWithout, 3, (some .boolean), [], 0, 9, 1414, 123, 1413, 48),
  (yX9_trialDrops, cX9_trialDrops, 3, (some .boolean), [], 0, 9, 1432, 123, 1431, 49),
  (yX9_causeWord, cX9_causeWord, 1, (some (.object "java/lang/String")), [], 1, 9, 1462, 123, 1461, 0),
  (yX10_init, cX10_init, 1, none, [], 0, 10, 1499, 135, 1498, 0),
  (yX10_thrown, cX10_thrown, 1, (some .int), [], 0, 10, 1733, 135, 1731, 1732),
  (yX10_inRange, cX10_inRange, 3, (some .boolean), [], 1, 10, 1777, 135, 1776, 0),
  (yX10_isIn, cX10_isIn, 2, (some .boolean), [], 1, 10, 1935, 135, 1934, 0),
  (yX10_append, cX10_append, 8, (some .int), [], 0, 10, 1737, 135, 1735, 1736),
  (yX10_truncate, cX10_truncate, 2, (some .boolean), [], 0, 10, 1741, 135, 1739, 1740),
  (yX10_byteAt, cX10_byteAt, 2, (some .int), [], 0, 10, 1761, 135, 1760, 53),
  (yX10_peek, cX10_peek, 1, (some .int), [], 0, 10, 1757, 135, 1756, 52),
  (yX10_failed, cX10_failed, 1, (some .boolean), [], 0, 10, 1753, 135, 1752, 51),
  (yX10_fail, cX10_fail, 3, none, [], 0, 10, 1785, 135, 1784, 57),
  (yX10_wordEnd, cX10_wordEnd, 2, (some .int), [], 0, 10, 1774, 135, 1773, 56),
  (yX10_isWord, cX10_isWord, 5, (some .boolean), [], 0, 10, 1770, 135, 1769, 55),
  (yX10_accept, cX10_accept, 3, (some .boolean), [], 0, 10, 1789, 135, 1788, 58),
  (yX10_number, cX10_number, 5, (some .int), [], 0, 10, 1807, 135, 1806, 62),
  (yX10_packed, cX10_packed, 5, (some .long), [], 0, 10, 1797, 135, 1796, 60),
  (yX10_find, cX10_find, 4, (some .int), [], 0, 10, 1803, 135, 1802, 61),
  (yX10_portLine, cX10_portLine, 5, none, [], 0, 10, 1793, 135, 1792, 59),
  (yX10_portHere, cX10_portHere, 2, (some .int), [], 0, 10, 1816, 135, 1815, 64),
  (yX10_policeLine, cX10_policeLine, 4, none, [], 0, 10, 1812, 135, 1811, 63),
  (yX10_emit, cX10_emit, 4, none, [], 0, 10, 1846, 135, 1845, 70),
  (yX10_push, cX10_push, 2, none, [], 0, 10, 1837, 135, 1836, 68),
  (yX10_flush, cX10_flush, 2, none, [], 0, 10, 1863, 135, 1862, 73),
  (yX10_isOpen, cX10_isOpen, 2, (some .boolean), [], 0, 10, 1867, 135, 1866, 74),
  (yX10_openings, cX10_openings, 3, none, [], 0, 10, 1832, 135, 1831, 67),
  (yX10_factNow, cX10_factNow, 1, (some .int), [], 0, 10, 1851, 135, 1850, 71)]
noncomputable def mtb_3 : List Mrec := [
  (yX10_atom, cX10_atom, 4, none, [], 0, 10, 1841, 135, 1840, 69),
  (yX10_closings, cX10_closings, 1, none, [], 0, 10, 1859, 135, 1858, 72),
  (yX10_condition, cX10_condition, 4, none, [], 0, 10, 1828, 135, 1827, 66),
  (yX10_ruleLine, cX10_ruleLine, 2, none, [], 0, 10, 1823, 135, 1822, 65),
  (yX10_line, cX10_line, 2, none, [], 0, 10, 1765, 135, 1764, 54),
  (yX10_parse, cX10_parse, 1, none, [], 0, 10, 1749, 135, 1748, 50),
  (yX10_load, cX10_load, 2, (some .int), [], 0, 10, 1745, 135, 1743, 1744),
  (yX10_errorOffset, cX10_errorOffset, 1, (some .int), [], 0, 10, 1877, 135, 1875, 1876),
  (yX10_errorKind, cX10_errorKind, 1, (some .int), [], 0, 10, 1881, 135, 1879, 1880),
  (yX10_endsSuppositions, cX10_endsSuppositions, 2, none, [], 0, 10, 1873, 135, 1872, 75),
  (yX10_plain, cX10_plain, 2, none, [], 0, 10, 1904, 135, 1903, 79),
  (yX10_supposed, cX10_supposed, 2, none, [], 0, 10, 2168, 135, 2167, 112),
  (yX10_field, cX10_field, 4, (some .int), [], 1, 10, 2082, 135, 2081, 0),
  (yX10_ofEvent, cX10_ofEvent, 3, (some .int), [], 0, 10, 1920, 135, 1919, 83),
  (yX10_ofPacket, cX10_ofPacket, 3, (some .int), [], 0, 10, 1947, 135, 1946, 89),
  (yX10_sizeOf, cX10_sizeOf, 2, (some .int), [], 0, 10, 1951, 135, 1950, 90),
  (yX10_classOf, cX10_classOf, 2, (some .int), [], 0, 10, 1963, 135, 1962, 93),
  (yX10_fillOf, cX10_fillOf, 4, (some .int), [], 0, 10, 1971, 135, 1970, 95),
  (yX10_fillOfAll, cX10_fillOfAll, 3, (some .int), [], 0, 10, 1967, 135, 1966, 94),
  (yX10_drops, cX10_drops, 6, none, [], 0, 10, 1928, 135, 1927, 85),
  (yX10_takesOut, cX10_takesOut, 5, (some .int), [], 0, 10, 1983, 135, 1982, 98),
  (yX10_begins, cX10_begins, 2, none, [], 0, 10, 1912, 135, 1911, 81),
  (yX10_runsTo, cX10_runsTo, 3, none, [], 0, 10, 1908, 135, 1907, 80),
  (yX10_now, cX10_now, 1, none, [], 0, 10, 1900, 135, 1899, 78),
  (yX10_happens, cX10_happens, 3, none, [], 0, 10, 1916, 135, 1915, 82),
  (yX10_goesDown, cX10_goesDown, 3, none, [], 0, 10, 1995, 135, 1994, 101),
  (yX10_tells, cX10_tells, 5, (some .boolean), [], 0, 10, 1943, 135, 1942, 88),
  (yX10_holds, cX10_holds, 6, (some .boolean), [], 0, 10, 1939, 135, 1938, 87),
  (yX10_ruleAgainst, cX10_ruleAgainst, 3, (some .int), [], 0, 10, 1932, 135, 1931, 86),
  (yX10_isValid, cX10_isValid, 2, (some .boolean), [], 0, 10, 1955, 135, 1954, 91),
  (yX10_arrives, cX10_arrives, 9, none, [], 0, 10, 1924, 135, 1923, 84),
  (yX10_lowestBelow, cX10_lowestBelow, 6, (some .int), [], 0, 10, 1979, 135, 1978, 97),
  (yX10_sizesBelow, cX10_sizesBelow, 6, (some .int), [], 0, 10, 1975, 135, 1974, 96),
  (yX10_puts, cX10_puts, 5, none, [], 0, 10, 1959, 135, 1958, 92),
  (yX10_highest, cX10_highest, 4, (some .int), [], 0, 10, 1991, 135, 1990, 100),
  (yX10_ticks, cX10_ticks, 3, none, [], 0, 10, 1987, 135, 1986, 99),
  (yX10_isPort, cX10_isPort, 2, (some .boolean), [], 0, 10, 1892, 135, 1891, 76),
  (yX10_isRule, cX10_isRule, 2, (some .boolean), [], 0, 10, 2105, 135, 2104, 107),
  (yX10_isPacket, cX10_isPacket, 2, (some .boolean), [], 0, 10, 2031, 135, 2030, 103),
  (yX10_isEvent, cX10_isEvent, 2, (some .boolean), [], 0, 10, 2019, 135, 2018, 102),
  (yX10_adds, cX10_adds, 8, none, [], 0, 10, 1896, 135, 1895, 77),
  (yX10_isAddress, cX10_isAddress, 1, (some .boolean), [], 1, 10, 1888, 135, 1887, 0),
  (yX10_arrive, cX10_arrive, 7, (some .int), [], 0, 10, 1885, 135, 1883, 1884),
  (yX10_tick, cX10_tick, 1, (some .int), [], 0, 10, 1999, 135, 1997, 1998),
  (yX10_link, cX10_link, 4, (some .int), [], 0, 10, 2003, 135, 2001, 2002),
  (yX10_rewind, cX10_rewind, 3, (some .int), [], 0, 10, 2007, 135, 2005, 2006),
  (yX10_count, cX10_count, 2, (some .int), [], 0, 10, 2011, 135, 2009, 2010),
  (yX10_eventKind, cX10_eventKind, 2, (some .int), [], 0, 10, 2015, 135, 2013, 2014),
  (yX10_packetOf, cX10_packetOf, 2, (some .int), [], 0, 10, 2023, 135, 2021, 2022),
  (yX10_arrivalOf, cX10_arrivalOf, 2, (some .int), [], 0, 10, 2027, 135, 2025, 2026),
  (yX10_isGood, cX10_isGood, 2, (some .boolean), [], 0, 10, 2039, 135, 2038, 104),
  (yX10_fill, cX10_fill, 2, (some .int), [], 0, 10, 2035, 135, 2033, 2034),
  (yX10_queueLength, cX10_queueLength, 2, (some .int), [], 0, 10, 2043, 135, 2041, 2042),
  (yX10_queued, cX10_queued, 3, (some .int), [], 0, 10, 2047, 135, 2045, 2046),
  (yX10_isUp, cX10_isUp, 2, (some .boolean), [], 0, 10, 2051, 135, 2049, 2050),
  (yX10_tokens, cX10_tokens, 2, (some .int), [], 0, 10, 2055, 135, 2053, 2054),
  (yX10_portOf, cX10_portOf, 2, (some .int), [], 0, 10, 2059, 135, 2057, 2058),
  (yX10_tableSize, cX10_tableSize, 3, (some .int), [], 0, 10, 2063, 135, 2061, 2062),
  (yX10_delivered, cX10_delivered, 2, (some .int), [], 0, 10, 2067, 135, 2065, 2066),
  (yX10_fate, cX10_fate, 3, (some .int), [], 0, 10, 2071, 135, 2069, 2070),
  (yX10_isDropNow, cX10_isDropNow, 2, (some .boolean), [], 0, 10, 2079, 135, 2078, 105),
  (yX10_dropField, cX10_dropField, 3, (some .int), [], 0, 10, 2075, 135, 2073, 2074),
  (yX10_firstDrop, cX10_firstDrop, 3, (some .int), [], 0, 10, 2086, 135, 2084, 2085),
  (yX10_dropsWith, cX10_dropsWith, 6, (some .int), [], 0, 10, 2097, 135, 2096, 106)]
noncomputable def mtb_4 : List Mrec := [
  (yX10_isCause, cX10_isCause, 1, (some .boolean), [], 1, 10, 2093, 135, 2092, 0),
  (yX10_dropsBy, cX10_dropsBy, 2, (some .int), [], 0, 10, 2090, 135, 2088, 2089),
  (yX10_dropsByRule, cX10_dropsByRule, 2, (some .int), [], 0, 10, 2101, 135, 2099, 2100),
  (yX10_pushedBy, cX10_pushedBy, 2, (some .int), [], 0, 10, 2109, 135, 2107, 2108),
  (yX10_checkpoints, cX10_checkpoints, 1, (some .int), [], 0, 10, 2113, 135, 2111, 2112),
  (yX10_isMoment, cX10_isMoment, 2, (some .boolean), [], 0, 10, 2121, 135, 2120, 108),
  (yX10_repeats, cX10_repeats, 2, (some .int), [], 0, 10, 2117, 135, 2115, 2116),
  (yX10_fillAt, cX10_fillAt, 3, (some .int), [], 0, 10, 2125, 135, 2123, 2124),
  (yX10_portAt, cX10_portAt, 3, (some .int), [], 0, 10, 2129, 135, 2127, 2128),
  (yX10_peak, cX10_peak, 5, (some .int), [], 0, 10, 2133, 135, 2131, 2132),
  (yX10_settings, cX10_settings, 3, (some .int), [], 0, 10, 2144, 135, 2143, 109),
  (yX10_isValue, cX10_isValue, 2, (some .boolean), [], 1, 10, 2140, 135, 2139, 0),
  (yX10_suppose, cX10_suppose, 5, (some .int), [], 0, 10, 2137, 135, 2135, 2136),
  (yX10_leftOut, cX10_leftOut, 3, (some .int), [], 0, 10, 2152, 135, 2151, 110),
  (yX10_leaveOut, cX10_leaveOut, 2, (some .int), [], 0, 10, 2148, 135, 2146, 2147),
  (yX10_clearSuppositions, cX10_clearSuppositions, 2, (some .int), [], 0, 10, 2156, 135, 2154, 2155),
  (yX10_runsSupposed, cX10_runsSupposed, 1, none, [], 0, 10, 2164, 135, 2163, 111),
  (yX10_supposedDrops, cX10_supposedDrops, 1, (some .int), [], 0, 10, 2160, 135, 2158, 2159),
  (yX10_supposedDropsBy, cX10_supposedDropsBy, 2, (some .int), [], 0, 10, 2172, 135, 2170, 2171),
  (yX10_supposedFate, cX10_supposedFate, 3, (some .int), [], 0, 10, 2176, 135, 2174, 2175),
  (yX10_supposedDelivered, cX10_supposedDelivered, 2, (some .int), [], 0, 10, 2180, 135, 2178, 2179),
  (yX10_place, cX10_place, 2, (some .int), [], 1, 10, 2191, 135, 2190, 0),
  (yX10_keepsDrops, cX10_keepsDrops, 2, none, [], 0, 10, 2188, 135, 2187, 113),
  (yX10_dropsNotKept, cX10_dropsNotKept, 3, (some .int), [], 0, 10, 2195, 135, 2194, 114),
  (yX10_saved, cX10_saved, 1, (some .int), [], 0, 10, 2184, 135, 2182, 2183),
  (yX10_newlyDropped, cX10_newlyDropped, 1, (some .int), [], 0, 10, 2199, 135, 2197, 2198),
  (yX10_keepsOne, cX10_keepsOne, 2, (some .boolean), [], 0, 10, 2207, 135, 2206, 115),
  (yX10_isDroppedStill, cX10_isDroppedStill, 2, (some .boolean), [], 0, 10, 2215, 135, 2214, 117),
  (yX10_evidenceTill, cX10_evidenceTill, 4, (some .int), [], 0, 10, 2211, 135, 2210, 116),
  (yX10_evidenceCount, cX10_evidenceCount, 2, (some .int), [], 0, 10, 2203, 135, 2201, 2202),
  (yX10_evidence, cX10_evidence, 3, (some .int), [], 0, 10, 2219, 135, 2217, 2218),
  (yX10_leastCapacity, cX10_leastCapacity, 3, (some .int), [], 0, 10, 2223, 135, 2221, 2222),
  (yX10_savingRules, cX10_savingRules, 4, (some .int), [], 0, 10, 2227, 135, 2225, 2226),
  (yX10_put, cX10_put, 2, none, [], 0, 10, 2239, 135, 2238, 119),
  (yX10_putNumber, cX10_putNumber, 2, none, [], 0, 10, 2235, 135, 2234, 118),
  (yX10_putWord, cX10_putWord, 3, none, [], 0, 10, 2255, 135, 2254, 120),
  (yX10_putName, cX10_putName, 5, none, [], 0, 10, 2259, 135, 2258, 121),
  (yX10_causeWord, cX10_causeWord, 1, (some (.object "java/lang/String")), [], 1, 10, 2242, 135, 2241, 0),
  (yX10_formatDrop, cX10_formatDrop, 2, (some .int), [], 0, 10, 2231, 135, 2229, 2230),
  (yX10_formatQueue, cX10_formatQueue, 4, (some .int), [], 0, 10, 2264, 135, 2262, 2263),
  (yX10_formattedByte, cX10_formattedByte, 2, (some .int), [], 0, 10, 2268, 135, 2266, 2267),
  (yJ6_compare_7cf53, cJ6_compare_7cf53, 2, (some .int), [], 1, 99, 1139, 148, 1138, 0),
  (yJ6_compare_7cf53, cJ6_compare_7cf53, 2, (some .int), [], 1, 99, 1139, 148, 1138, 0),
  (yJ0_length_8abf5, cJ0_length_8abf5, 1, (some .int), [], 0, 99, 837, 137, 835, 836),
  (yJ0_charAt_5068e, cJ0_charAt_5068e, 2, (some .char), [], 0, 99, 847, 137, 845, 846),
  (yJ0_coder_7d493, cJ0_coder_7d493, 1, (some .byte), [], 0, 99, 841, 137, 839, 840),
  (yJ0_isLatin1_aae02, cJ0_isLatin1_aae02, 1, (some .boolean), [], 0, 99, 851, 137, 849, 850),
  (yJ0_checkIndex_df160, cJ0_checkIndex_df160, 2, none, [], 1, 99, 857, 137, 856, 0),
  (yJ1_charAt_3b067, cJ1_charAt_3b067, 2, (some .char), [], 1, 99, 854, 138, 853, 0),
  (yJ7_fill_53178, cJ7_fill_53178, 4, none, [], 1, 99, 511, 133, 510, 0),
  (yJ3_checkIndex_8e157, cJ3_checkIndex_8e157, 3, (some .int), [], 1, 99, 862, 139, 861, 0),
  (yL_load, cL_load, 3, (some .int), [((0 : Nat), (8 : Nat), (11 : Nat), (13 : Nat))], 2, 99, 813, 122, 812, 0),
  (yL_count, cL_count, 4, (some .int), [((0 : Nat), (9 : Nat), (12 : Nat), (19 : Nat))], 2, 99, 1039, 122, 1038, 0),
  (yL_arrive, cL_arrive, 8, (some .int), [((0 : Nat), (16 : Nat), (19 : Nat), (25 : Nat)), ((0 : Nat), (16 : Nat), (23 : Nat), (13 : Nat)), ((0 : Nat), (16 : Nat), (27 : Nat), (27 : Nat))], 2, 99, 1062, 122, 1061, 0),
  (yL_tick, cL_tick, 3, (some .int), [((0 : Nat), (8 : Nat), (11 : Nat), (27 : Nat))], 2, 99, 1146, 122, 1145, 0),
  (yL_link, cL_link, 5, (some .int), [((0 : Nat), (10 : Nat), (13 : Nat), (25 : Nat)), ((0 : Nat), (10 : Nat), (17 : Nat), (27 : Nat))], 2, 99, 1154, 122, 1153, 0),
  (yL_rewind, cL_rewind, 4, (some .int), [((0 : Nat), (9 : Nat), (12 : Nat), (13 : Nat))], 2, 99, 1161, 122, 1160, 0),
  (yL_eventKind, cL_eventKind, 4, (some .int), [((0 : Nat), (9 : Nat), (12 : Nat), (25 : Nat))], 2, 99, 1168, 122, 1167, 0),
  (yL_packetOf, cL_packetOf, 4, (some .int), [((0 : Nat), (9 : Nat), (12 : Nat), (25 : Nat))], 2, 99, 1179, 122, 1178, 0),
  (yL_arrivalOf, cL_arrivalOf, 4, (some .int), [((0 : Nat), (9 : Nat), (12 : Nat), (25 : Nat))], 2, 99, 1186, 122, 1185, 0),
  (yL_fill, cL_fill, 4, (some .int), [((0 : Nat), (9 : Nat), (12 : Nat), (25 : Nat))], 2, 99, 1197, 122, 1196, 0),
  (yL_queueLength, cL_queueLength, 4, (some .int), [((0 : Nat), (9 : Nat), (12 : Nat), (25 : Nat))], 2, 99, 1204, 122, 1203, 0),
  (yL_queued, cL_queued, 5, (some .int), [((0 : Nat), (10 : Nat), (13 : Nat), (25 : Nat))], 2, 99, 1211, 122, 1210, 0),
  (yL_isUp, cL_isUp, 4, (some .int), [((0 : Nat), (16 : Nat), (19 : Nat), (25 : Nat))], 2, 99, 1219, 122, 1218, 0)]
noncomputable def mtb_5 : List Mrec := [
  (yL_tokens, cL_tokens, 4, (some .int), [((0 : Nat), (9 : Nat), (12 : Nat), (25 : Nat))], 2, 99, 1227, 122, 1226, 0),
  (yL_portOf, cL_portOf, 4, (some .int), [((0 : Nat), (9 : Nat), (12 : Nat), (13 : Nat))], 2, 99, 1235, 122, 1234, 0),
  (yL_delivered, cL_delivered, 4, (some .int), [((0 : Nat), (9 : Nat), (12 : Nat), (25 : Nat))], 2, 99, 1242, 122, 1241, 0),
  (yL_fate, cL_fate, 5, (some .int), [((0 : Nat), (10 : Nat), (13 : Nat), (25 : Nat))], 2, 99, 1249, 122, 1248, 0),
  (yL_dropField, cL_dropField, 5, (some .int), [((0 : Nat), (10 : Nat), (13 : Nat), (25 : Nat)), ((0 : Nat), (10 : Nat), (17 : Nat), (19 : Nat))], 2, 99, 1257, 122, 1256, 0),
  (yL_firstDrop, cL_firstDrop, 4, (some .int), [((0 : Nat), (9 : Nat), (12 : Nat), (25 : Nat))], 2, 99, 1269, 122, 1268, 0),
  (yL_dropsBy, cL_dropsBy, 4, (some .int), [((0 : Nat), (9 : Nat), (12 : Nat), (13 : Nat))], 2, 99, 1276, 122, 1275, 0),
  (yL_dropsByRule, cL_dropsByRule, 4, (some .int), [((0 : Nat), (9 : Nat), (12 : Nat), (25 : Nat))], 2, 99, 1291, 122, 1290, 0),
  (yL_pushedBy, cL_pushedBy, 4, (some .int), [((0 : Nat), (9 : Nat), (12 : Nat), (25 : Nat))], 2, 99, 1306, 122, 1305, 0),
  (yL_repeats, cL_repeats, 4, (some .int), [((0 : Nat), (9 : Nat), (12 : Nat), (25 : Nat))], 2, 99, 1313, 122, 1312, 0),
  (yL_fillAt, cL_fillAt, 5, (some .int), [((0 : Nat), (10 : Nat), (13 : Nat), (25 : Nat))], 2, 99, 1329, 122, 1328, 0),
  (yL_portAt, cL_portAt, 5, (some .int), [((0 : Nat), (10 : Nat), (13 : Nat), (25 : Nat)), ((0 : Nat), (10 : Nat), (17 : Nat), (13 : Nat))], 2, 99, 1345, 122, 1344, 0),
  (yL_peak, cL_peak, 4, (some .int), [((0 : Nat), (9 : Nat), (12 : Nat), (25 : Nat))], 2, 99, 1352, 122, 1351, 0),
  (yL_suppose, cL_suppose, 6, (some .int), [((0 : Nat), (12 : Nat), (15 : Nat), (19 : Nat)), ((0 : Nat), (12 : Nat), (19 : Nat), (25 : Nat)), ((0 : Nat), (12 : Nat), (23 : Nat), (13 : Nat))], 2, 99, 1359, 122, 1358, 0),
  (yL_leaveOut, cL_leaveOut, 4, (some .int), [((0 : Nat), (9 : Nat), (12 : Nat), (25 : Nat))], 2, 99, 1373, 122, 1372, 0),
  (yL_supposedDropsBy, cL_supposedDropsBy, 4, (some .int), [((0 : Nat), (9 : Nat), (12 : Nat), (13 : Nat))], 2, 99, 1380, 122, 1379, 0),
  (yL_supposedFate, cL_supposedFate, 5, (some .int), [((0 : Nat), (10 : Nat), (13 : Nat), (25 : Nat))], 2, 99, 1387, 122, 1386, 0),
  (yL_supposedDelivered, cL_supposedDelivered, 4, (some .int), [((0 : Nat), (9 : Nat), (12 : Nat), (25 : Nat))], 2, 99, 1394, 122, 1393, 0),
  (yL_evidenceCount, cL_evidenceCount, 4, (some .int), [((0 : Nat), (9 : Nat), (12 : Nat), (25 : Nat))], 2, 99, 1401, 122, 1400, 0),
  (yL_evidence, cL_evidence, 5, (some .int), [((0 : Nat), (10 : Nat), (13 : Nat), (25 : Nat))], 2, 99, 1417, 122, 1416, 0),
  (yL_leastCapacity, cL_leastCapacity, 4, (some .int), [((0 : Nat), (9 : Nat), (12 : Nat), (25 : Nat))], 2, 99, 1424, 122, 1423, 0),
  (yL_savingRules, cL_savingRules, 4, (some .int), [((0 : Nat), (9 : Nat), (12 : Nat), (25 : Nat))], 2, 99, 1439, 122, 1438, 0),
  (yL_formatDrop, cL_formatDrop, 4, (some .int), [((0 : Nat), (9 : Nat), (12 : Nat), (25 : Nat))], 2, 99, 1446, 122, 1445, 0),
  (yL_formatQueue, cL_formatQueue, 4, (some .int), [((0 : Nat), (9 : Nat), (12 : Nat), (25 : Nat))], 2, 99, 1489, 122, 1488, 0),
  (yL_law, cL_law, 7, (some .boolean), [], 1, 99, 0, 122, 0, 0)]
noncomputable def mtb : List Mrec := mtb_0 ++ (mtb_1 ++ (mtb_2 ++ (mtb_3 ++ (mtb_4 ++ (mtb_5)))))
/-- DropSwitch$History <init> ()V -/
noncomputable def cd_0 : List (Nat × Ent) := [
  (0, .aload_n 0, 1, 0, 0, 0, 0), (1, .invokespecial 3, 3, 0, 1, 4, 314), (4, .aload_n 0, 1, 0, 0, 0, 0), (5, .bipush 120, 2, 0, 0, 0, 0), (7, .newarray .int, 2, 1, 0, 0, 0), 
  (9, .putfield 9, 3, 0, 2, 12, 319), (12, .aload_n 0, 1, 0, 0, 0, 0), (13, .bipush 120, 2, 0, 0, 0, 0), (15, .newarray .int, 2, 1, 0, 0, 0), (17, .putfield 15, 3, 0, 3, 12, 322), 
  (20, .aload_n 0, 1, 0, 0, 0, 0), (21, .bipush 120, 2, 0, 0, 0, 0), (23, .newarray .int, 2, 1, 0, 0, 0), (25, .putfield 18, 3, 0, 4, 12, 324), (28, .aload_n 0, 1, 0, 0, 0, 0), 
  (29, .bipush 120, 2, 0, 0, 0, 0), (31, .newarray .int, 2, 1, 0, 0, 0), (33, .putfield 21, 3, 0, 5, 12, 327), (36, .aload_n 0, 1, 0, 0, 0, 0), (37, .bipush 120, 2, 0, 0, 0, 0), 
  (39, .newarray .int, 2, 1, 0, 0, 0), (41, .putfield 24, 3, 0, 6, 12, 329), (44, .aload_n 0, 1, 0, 0, 0, 0), (45, .bipush 120, 2, 0, 0, 0, 0), (47, .newarray .int, 2, 1, 0, 0, 0), 
  (49, .putfield 27, 3, 0, 7, 12, 332), (52, .aload_n 0, 1, 0, 0, 0, 0), (53, .bipush 120, 2, 0, 0, 0, 0), (55, .newarray .int, 2, 1, 0, 0, 0), (57, .putfield 30, 3, 0, 8, 12, 335), 
  (60, .aload_n 0, 1, 0, 0, 0, 0), (61, .bipush 120, 2, 0, 0, 0, 0), (63, .newarray .int, 2, 1, 0, 0, 0), (65, .putfield 33, 3, 0, 9, 12, 337), (68, .aload_n 0, 1, 0, 0, 0, 0), 
  (69, .bipush 120, 2, 0, 0, 0, 0), (71, .newarray .int, 2, 1, 0, 0, 0), (73, .putfield 36, 3, 0, 10, 12, 339), (76, .return_, 1, 0, 0, 0, 0)]
/-- DropSwitch$History addEvent (II)V -/
noncomputable def cd_1 : List (Nat × Ent) := [
  (0, .aload_n 0, 1, 0, 0, 0, 0), (1, .getfield 39, 3, 0, 0, 0, 315), (4, .bipush 120, 2, 0, 0, 0, 0), (6, .if_icmp .lt 4, 3, 0, 0, 0, 0), (9, .return_, 1, 0, 0, 0, 0), 
  (10, .aload_n 0, 1, 0, 0, 0, 0), (11, .getfield 9, 3, 0, 2, 2, 319), (14, .aload_n 0, 1, 0, 0, 0, 0), (15, .getfield 39, 3, 0, 0, 0, 315), (18, .iload_n 1, 1, 0, 0, 0, 0), 
  (19, .iastore, 1, 0, 0, 0, 0), (20, .aload_n 0, 1, 0, 0, 0, 0), (21, .getfield 15, 3, 0, 3, 2, 322), (24, .aload_n 0, 1, 0, 0, 0, 0), (25, .getfield 39, 3, 0, 0, 0, 315), 
  (28, .iload_n 2, 1, 0, 0, 0, 0), (29, .iastore, 1, 0, 0, 0, 0), (30, .aload_n 0, 1, 0, 0, 0, 0), (31, .getfield 18, 3, 0, 4, 2, 324), (34, .aload_n 0, 1, 0, 0, 0, 0), 
  (35, .getfield 39, 3, 0, 0, 0, 315), (38, .iconst (-1), 1, 0, 0, 0, 0), (39, .iastore, 1, 0, 0, 0, 0), (40, .aload_n 0, 1, 0, 0, 0, 0), (41, .dup, 1, 0, 0, 0, 0), 
  (42, .getfield 39, 3, 0, 0, 0, 315), (45, .iconst 1, 1, 0, 0, 0, 0), (46, .iadd, 1, 0, 0, 0, 0), (47, .putfield 39, 3, 0, 0, 0, 315), (50, .return_, 1, 0, 0, 0, 0)]
/-- DropSwitch$History addPacket (IIIII)V -/
noncomputable def cd_2 : List (Nat × Ent) := [
  (0, .aload_n 0, 1, 0, 0, 0, 0), (1, .getfield 39, 3, 0, 0, 0, 315), (4, .bipush 120, 2, 0, 0, 0, 0), (6, .if_icmp .ge 12, 3, 0, 0, 0, 0), (9, .aload_n 0, 1, 0, 0, 0, 0), 
  (10, .getfield 43, 3, 0, 1, 0, 317), (13, .bipush 120, 2, 0, 0, 0, 0), (15, .if_icmp .lt 4, 3, 0, 0, 0, 0), (18, .return_, 1, 0, 0, 0, 0), (19, .aload_n 0, 1, 0, 0, 0, 0), 
  (20, .getfield 21, 3, 0, 5, 2, 327), (23, .aload_n 0, 1, 0, 0, 0, 0), (24, .getfield 43, 3, 0, 1, 0, 317), (27, .aload_n 0, 1, 0, 0, 0, 0), (28, .getfield 39, 3, 0, 0, 0, 315), 
  (31, .iastore, 1, 0, 0, 0, 0), (32, .aload_n 0, 1, 0, 0, 0, 0), (33, .getfield 24, 3, 0, 6, 2, 329), (36, .aload_n 0, 1, 0, 0, 0, 0), (37, .getfield 43, 3, 0, 1, 0, 317), 
  (40, .iload_n 2, 1, 0, 0, 0, 0), (41, .iastore, 1, 0, 0, 0, 0), (42, .aload_n 0, 1, 0, 0, 0, 0), (43, .getfield 27, 3, 0, 7, 2, 332), (46, .aload_n 0, 1, 0, 0, 0, 0), 
  (47, .getfield 43, 3, 0, 1, 0, 317), (50, .iload_n 3, 1, 0, 0, 0, 0), (51, .iastore, 1, 0, 0, 0, 0), (52, .aload_n 0, 1, 0, 0, 0, 0), (53, .getfield 30, 3, 0, 8, 2, 335), 
  (56, .aload_n 0, 1, 0, 0, 0, 0), (57, .getfield 43, 3, 0, 1, 0, 317), (60, .iload 4, 2, 0, 0, 0, 0), (62, .iastore, 1, 0, 0, 0, 0), (63, .aload_n 0, 1, 0, 0, 0, 0), 
  (64, .getfield 33, 3, 0, 9, 2, 337), (67, .aload_n 0, 1, 0, 0, 0, 0), (68, .getfield 43, 3, 0, 1, 0, 317), (71, .iload 5, 2, 0, 0, 0, 0), (73, .iastore, 1, 0, 0, 0, 0), 
  (74, .aload_n 0, 1, 0, 0, 0, 0), (75, .iconst 0, 1, 0, 0, 0, 0), (76, .iload_n 1, 1, 0, 0, 0, 0), (77, .invokevirtual 46, 3, 1, 3, 0, 1115), (80, .aload_n 0, 1, 0, 0, 0, 0), 
  (81, .getfield 18, 3, 0, 4, 2, 324), (84, .aload_n 0, 1, 0, 0, 0, 0), (85, .getfield 39, 3, 0, 0, 0, 315), (88, .iconst 1, 1, 0, 0, 0, 0), (89, .isub, 1, 0, 0, 0, 0), 
  (90, .aload_n 0, 1, 0, 0, 0, 0), (91, .getfield 43, 3, 0, 1, 0, 317), (94, .iastore, 1, 0, 0, 0, 0), (95, .aload_n 0, 1, 0, 0, 0, 0), (96, .dup, 1, 0, 0, 0, 0), 
  (97, .getfield 43, 3, 0, 1, 0, 317), (100, .iconst 1, 1, 0, 0, 0, 0), (101, .iadd, 1, 0, 0, 0, 0), (102, .putfield 43, 3, 0, 1, 0, 317), (105, .return_, 1, 0, 0, 0, 0)]
/-- DropSwitch$History cut (I)V -/
noncomputable def cd_3 : List (Nat × Ent) := [
  (0, .aload_n 0, 1, 0, 0, 0, 0), (1, .iload_n 1, 1, 0, 0, 0, 0), (2, .putfield 39, 3, 0, 0, 0, 315), (5, .aload_n 0, 1, 0, 0, 0, 0), (6, .iconst 0, 1, 0, 0, 0, 0), 
  (7, .putfield 43, 3, 0, 1, 0, 317), (10, .iconst 0, 1, 0, 0, 0, 0), (11, .istore_n 2, 1, 0, 0, 0, 0), (12, .iload_n 2, 1, 0, 0, 0, 0), (13, .iload_n 1, 1, 0, 0, 0, 0), 
  (14, .if_icmp .ge 28, 3, 0, 0, 0, 0), (17, .aload_n 0, 1, 0, 0, 0, 0), (18, .getfield 9, 3, 0, 2, 2, 319), (21, .iload_n 2, 1, 0, 0, 0, 0), (22, .iaload, 1, 0, 0, 0, 0), 
  (23, .ifCond .ne 13, 3, 0, 0, 0, 0), (26, .aload_n 0, 1, 0, 0, 0, 0), (27, .dup, 1, 0, 0, 0, 0), (28, .getfield 43, 3, 0, 1, 0, 317), (31, .iconst 1, 1, 0, 0, 0, 0), 
  (32, .iadd, 1, 0, 0, 0, 0), (33, .putfield 43, 3, 0, 1, 0, 317), (36, .iinc 2 1, 3, 0, 0, 0, 0), (39, .goto (-27), 3, 0, 0, 0, 0), (42, .return_, 1, 0, 0, 0, 0)]
/-- DropSwitch$History entryPort (I)I -/
noncomputable def cd_4 : List (Nat × Ent) := [
  (0, .aload_n 0, 1, 0, 0, 0, 0), (1, .getfield 15, 3, 0, 3, 2, 322), (4, .aload_n 0, 1, 0, 0, 0, 0), (5, .getfield 21, 3, 0, 5, 2, 327), (8, .iload_n 1, 1, 0, 0, 0, 0), 
  (9, .iaload, 1, 0, 0, 0, 0), (10, .iaload, 1, 0, 0, 0, 0), (11, .ireturn, 1, 0, 0, 0, 0)]
/-- DropSwitch$History sizeOf (I)I -/
noncomputable def cd_5 : List (Nat × Ent) := [
  (0, .iload_n 1, 1, 0, 0, 0, 0), (1, .ifCond .lt 20, 3, 0, 0, 0, 0), (4, .iload_n 1, 1, 0, 0, 0, 0), (5, .aload_n 0, 1, 0, 0, 0, 0), (6, .getfield 43, 3, 0, 1, 0, 317), 
  (9, .if_icmp .ge 12, 3, 0, 0, 0, 0), (12, .aload_n 0, 1, 0, 0, 0, 0), (13, .getfield 30, 3, 0, 8, 2, 335), (16, .iload_n 1, 1, 0, 0, 0, 0), (17, .iaload, 1, 0, 0, 0, 0), 
  (18, .goto 4, 3, 0, 0, 0, 0), (21, .iconst 0, 1, 0, 0, 0, 0), (22, .ireturn, 1, 0, 0, 0, 0)]
/-- DropSwitch$History rankOf (I)I -/
noncomputable def cd_6 : List (Nat × Ent) := [
  (0, .iload_n 1, 1, 0, 0, 0, 0), (1, .ifCond .lt 20, 3, 0, 0, 0, 0), (4, .iload_n 1, 1, 0, 0, 0, 0), (5, .aload_n 0, 1, 0, 0, 0, 0), (6, .getfield 43, 3, 0, 1, 0, 317), 
  (9, .if_icmp .ge 12, 3, 0, 0, 0, 0), (12, .aload_n 0, 1, 0, 0, 0, 0), (13, .getfield 33, 3, 0, 9, 2, 337), (16, .iload_n 1, 1, 0, 0, 0, 0), (17, .iaload, 1, 0, 0, 0, 0), 
  (18, .goto 4, 3, 0, 0, 0, 0), (21, .iconst 0, 1, 0, 0, 0, 0), (22, .ireturn, 1, 0, 0, 0, 0)]
/-- DropSwitch$Limits <init> ()V -/
noncomputable def cd_7 : List (Nat × Ent) := [
  (0, .aload_n 0, 1, 0, 0, 0, 0), (1, .invokespecial 3, 3, 0, 1, 4, 174), (4, .aload_n 0, 1, 0, 0, 0, 0), (5, .iconst 4, 1, 0, 0, 0, 0), (6, .newarray .int, 2, 1, 0, 0, 0), 
  (8, .putfield 9, 3, 1, 1, 12, 180), (11, .aload_n 0, 1, 0, 0, 0, 0), (12, .iconst 4, 1, 0, 0, 0, 0), (13, .newarray .int, 2, 1, 0, 0, 0), (15, .putfield 15, 3, 1, 2, 12, 185), 
  (18, .aload_n 0, 1, 0, 0, 0, 0), (19, .iconst 4, 1, 0, 0, 0, 0), (20, .newarray .int, 2, 1, 0, 0, 0), (22, .putfield 18, 3, 1, 3, 12, 188), (25, .aload_n 0, 1, 0, 0, 0, 0), 
  (26, .iconst 4, 1, 0, 0, 0, 0), (27, .newarray .int, 2, 1, 0, 0, 0), (29, .putfield 21, 3, 1, 4, 12, 192), (32, .return_, 1, 0, 0, 0, 0)]
/-- DropSwitch$Limits reset ()V -/
noncomputable def cd_8 : List (Nat × Ent) := [
  (0, .aload_n 0, 1, 0, 0, 0, 0), (1, .iconst 0, 1, 0, 0, 0, 0), (2, .putfield 24, 3, 1, 0, 0, 175), (5, .aload_n 0, 1, 0, 0, 0, 0), (6, .sipush 400, 3, 0, 0, 0, 0), 
  (9, .putfield 28, 3, 1, 5, 0, 197), (12, .aload_n 0, 1, 0, 0, 0, 0), (13, .bipush 99, 2, 0, 0, 0, 0), (15, .putfield 31, 3, 1, 6, 0, 201), (18, .aload_n 0, 1, 0, 0, 0, 0), 
  (19, .bipush 100, 2, 0, 0, 0, 0), (21, .putfield 34, 3, 1, 7, 0, 205), (24, .aload_n 0, 1, 0, 0, 0, 0), (25, .iconst 0, 1, 0, 0, 0, 0), (26, .putfield 37, 3, 1, 8, 0, 210), 
  (29, .aload_n 0, 1, 0, 0, 0, 0), (30, .iconst 0, 1, 0, 0, 0, 0), (31, .putfield 40, 3, 1, 9, 0, 212), (34, .return_, 1, 0, 0, 0, 0)]
/-- DropSwitch$Limits copyFrom (LDropSwitch$Limits;)V -/
noncomputable def cd_9 : List (Nat × Ent) := [
  (0, .aload_n 0, 1, 0, 0, 0, 0), (1, .aload_n 1, 1, 0, 0, 0, 0), (2, .getfield 24, 3, 1, 0, 0, 175), (5, .putfield 24, 3, 1, 0, 0, 175), (8, .aload_n 1, 1, 0, 0, 0, 0), 
  (9, .getfield 9, 3, 1, 1, 2, 180), (12, .iconst 0, 1, 0, 0, 0, 0), (13, .aload_n 0, 1, 0, 0, 0, 0), (14, .getfield 9, 3, 1, 1, 2, 180), (17, .iconst 0, 1, 0, 0, 0, 0), 
  (18, .iconst 4, 1, 0, 0, 0, 0), (19, .invokestatic 43, 3, 0, 5, 6, 516), (22, .aload_n 1, 1, 0, 0, 0, 0), (23, .getfield 15, 3, 1, 2, 2, 185), (26, .iconst 0, 1, 0, 0, 0, 0), 
  (27, .aload_n 0, 1, 0, 0, 0, 0), (28, .getfield 15, 3, 1, 2, 2, 185), (31, .iconst 0, 1, 0, 0, 0, 0), (32, .iconst 4, 1, 0, 0, 0, 0), (33, .invokestatic 43, 3, 0, 5, 6, 516), 
  (36, .aload_n 1, 1, 0, 0, 0, 0), (37, .getfield 18, 3, 1, 3, 2, 188), (40, .iconst 0, 1, 0, 0, 0, 0), (41, .aload_n 0, 1, 0, 0, 0, 0), (42, .getfield 18, 3, 1, 3, 2, 188), 
  (45, .iconst 0, 1, 0, 0, 0, 0), (46, .iconst 4, 1, 0, 0, 0, 0), (47, .invokestatic 43, 3, 0, 5, 6, 516), (50, .aload_n 1, 1, 0, 0, 0, 0), (51, .getfield 21, 3, 1, 4, 2, 192), 
  (54, .iconst 0, 1, 0, 0, 0, 0), (55, .aload_n 0, 1, 0, 0, 0, 0), (56, .getfield 21, 3, 1, 4, 2, 192), (59, .iconst 0, 1, 0, 0, 0, 0), (60, .iconst 4, 1, 0, 0, 0, 0), 
  (61, .invokestatic 43, 3, 0, 5, 6, 516), (64, .aload_n 0, 1, 0, 0, 0, 0), (65, .aload_n 1, 1, 0, 0, 0, 0), (66, .getfield 28, 3, 1, 5, 0, 197), (69, .putfield 28, 3, 1, 5, 0, 197), 
  (72, .aload_n 0, 1, 0, 0, 0, 0), (73, .aload_n 1, 1, 0, 0, 0, 0), (74, .getfield 31, 3, 1, 6, 0, 201), (77, .putfield 31, 3, 1, 6, 0, 201), (80, .aload_n 0, 1, 0, 0, 0, 0), 
  (81, .aload_n 1, 1, 0, 0, 0, 0), (82, .getfield 34, 3, 1, 7, 0, 205), (85, .putfield 34, 3, 1, 7, 0, 205), (88, .aload_n 0, 1, 0, 0, 0, 0), (89, .aload_n 1, 1, 0, 0, 0, 0), 
  (90, .getfield 37, 3, 1, 8, 0, 210), (93, .putfield 37, 3, 1, 8, 0, 210), (96, .aload_n 0, 1, 0, 0, 0, 0), (97, .aload_n 1, 1, 0, 0, 0, 0), (98, .getfield 40, 3, 1, 9, 0, 212), 
  (101, .putfield 40, 3, 1, 9, 0, 212), (104, .return_, 1, 0, 0, 0, 0)]
/-- DropSwitch$Limits hasPolicer (I)Z -/
noncomputable def cd_10 : List (Nat × Ent) := [
  (0, .aload_n 0, 1, 0, 0, 0, 0), (1, .getfield 18, 3, 1, 3, 2, 188), (4, .iload_n 1, 1, 0, 0, 0, 0), (5, .iaload, 1, 0, 0, 0, 0), (6, .iconst (-1), 1, 0, 0, 0, 0), 
  (7, .if_icmp .eq 7, 3, 0, 0, 0, 0), (10, .iconst 1, 1, 0, 0, 0, 0), (11, .goto 4, 3, 0, 0, 0, 0), (14, .iconst 0, 1, 0, 0, 0, 0), (15, .ireturn, 1, 0, 0, 1, 0)]
/-- DropSwitch$Limits isDropping (I)Z -/
noncomputable def cd_11 : List (Nat × Ent) := [
  (0, .aload_n 0, 1, 0, 0, 0, 0), (1, .getfield 37, 3, 1, 8, 0, 210), (4, .iload_n 1, 1, 0, 0, 0, 0), (5, .ishr, 1, 0, 0, 0, 0), (6, .iconst 1, 1, 0, 0, 0, 0), 
  (7, .iand, 1, 0, 0, 0, 0), (8, .ifCond .eq 7, 3, 0, 0, 0, 0), (11, .iconst 1, 1, 0, 0, 0, 0), (12, .goto 4, 3, 0, 0, 0, 0), (15, .iconst 0, 1, 0, 0, 0, 0), 
  (16, .ireturn, 1, 0, 0, 1, 0)]
/-- DropSwitch$Line <init> ()V -/
noncomputable def cd_12 : List (Nat × Ent) := [
  (0, .aload_n 0, 1, 0, 0, 0, 0), (1, .invokespecial 3, 3, 0, 1, 4, 485), (4, .aload_n 0, 1, 0, 0, 0, 0), (5, .sipush 600, 3, 0, 0, 0, 0), (8, .newarray .byte, 2, 3, 0, 0, 0), 
  (10, .putfield 11, 3, 2, 0, 12, 486), (13, .return_, 1, 0, 0, 0, 0)]
/-- DropSwitch$Line add (I)V -/
noncomputable def cd_13 : List (Nat × Ent) := [
  (0, .aload_n 0, 1, 0, 0, 0, 0), (1, .getfield 15, 3, 2, 1, 0, 488), (4, .aload_n 0, 1, 0, 0, 0, 0), (5, .getfield 11, 3, 2, 0, 2, 486), (8, .arraylength, 1, 0, 0, 0, 0), 
  (9, .if_icmp .ge 24, 3, 0, 0, 0, 0), (12, .aload_n 0, 1, 0, 0, 0, 0), (13, .getfield 11, 3, 2, 0, 2, 486), (16, .aload_n 0, 1, 0, 0, 0, 0), (17, .getfield 15, 3, 2, 1, 0, 488), 
  (20, .iload_n 1, 1, 0, 0, 0, 0), (21, .i2b, 1, 0, 0, 0, 0), (22, .bastore, 1, 0, 0, 0, 0), (23, .aload_n 0, 1, 0, 0, 0, 0), (24, .dup, 1, 0, 0, 0, 0), 
  (25, .getfield 15, 3, 2, 1, 0, 488), (28, .iconst 1, 1, 0, 0, 0, 0), (29, .iadd, 1, 0, 0, 0, 0), (30, .putfield 15, 3, 2, 1, 0, 488), (33, .return_, 1, 0, 0, 0, 0)]
/-- DropSwitch$Line addWord (Ljava/lang/String;)V -/
noncomputable def cd_14 : List (Nat × Ent) := [
  (0, .iconst 0, 1, 0, 0, 0, 0), (1, .istore_n 2, 1, 0, 0, 0, 0), (2, .iload_n 2, 1, 0, 0, 0, 0), (3, .aload_n 1, 1, 0, 0, 0, 0), (4, .invokevirtual 19, 3, 299, 1, 0, 1477), 
  (7, .if_icmp .ge 18, 3, 0, 0, 0, 0), (10, .aload_n 0, 1, 0, 0, 0, 0), (11, .aload_n 1, 1, 0, 0, 0, 0), (12, .iload_n 2, 1, 0, 0, 0, 0), (13, .invokevirtual 24, 3, 300, 2, 0, 1478), 
  (16, .invokevirtual 28, 3, 13, 2, 0, 1455), (19, .iinc 2 1, 3, 0, 0, 0, 0), (22, .goto (-20), 3, 0, 0, 0, 0), (25, .return_, 1, 0, 0, 0, 0)]
/-- DropSwitch$Line addNumber (I)V -/
noncomputable def cd_15 : List (Nat × Ent) := [
  (0, .iload_n 1, 1, 0, 0, 0, 0), (1, .bipush 100, 2, 0, 0, 0, 0), (3, .if_icmp .lt 17, 3, 0, 0, 0, 0), (6, .aload_n 0, 1, 0, 0, 0, 0), (7, .bipush 48, 2, 0, 0, 0, 0), 
  (9, .iload_n 1, 1, 0, 0, 0, 0), (10, .bipush 100, 2, 0, 0, 0, 0), (12, .idiv, 1, 0, 0, 0, 0), (13, .bipush 10, 2, 0, 0, 0, 0), (15, .irem, 1, 0, 0, 0, 0), 
  (16, .iadd, 1, 0, 0, 0, 0), (17, .invokevirtual 28, 3, 13, 2, 0, 1455), (20, .iload_n 1, 1, 0, 0, 0, 0), (21, .bipush 10, 2, 0, 0, 0, 0), (23, .if_icmp .lt 17, 3, 0, 0, 0, 0), 
  (26, .aload_n 0, 1, 0, 0, 0, 0), (27, .bipush 48, 2, 0, 0, 0, 0), (29, .iload_n 1, 1, 0, 0, 0, 0), (30, .bipush 10, 2, 0, 0, 0, 0), (32, .idiv, 1, 0, 0, 0, 0), 
  (33, .bipush 10, 2, 0, 0, 0, 0), (35, .irem, 1, 0, 0, 0, 0), (36, .iadd, 1, 0, 0, 0, 0), (37, .invokevirtual 28, 3, 13, 2, 0, 1455), (40, .aload_n 0, 1, 0, 0, 0, 0), 
  (41, .bipush 48, 2, 0, 0, 0, 0), (43, .iload_n 1, 1, 0, 0, 0, 0), (44, .bipush 10, 2, 0, 0, 0, 0), (46, .irem, 1, 0, 0, 0, 0), (47, .iadd, 1, 0, 0, 0, 0), 
  (48, .invokevirtual 28, 3, 13, 2, 0, 1455), (51, .return_, 1, 0, 0, 0, 0)]
/-- DropSwitch$Line addName (I)V -/
noncomputable def cd_16 : List (Nat × Ent) := [
  (0, .bipush 25, 2, 0, 0, 0, 0), (2, .istore_n 2, 1, 0, 0, 0, 0), (3, .iload_n 2, 1, 0, 0, 0, 0), (4, .ifCond .lt 30, 3, 0, 0, 0, 0), (7, .iload_n 1, 1, 0, 0, 0, 0), 
  (8, .iload_n 2, 1, 0, 0, 0, 0), (9, .ishr, 1, 0, 0, 0, 0), (10, .bipush 31, 2, 0, 0, 0, 0), (12, .iand, 1, 0, 0, 0, 0), (13, .istore_n 3, 1, 0, 0, 0, 0), 
  (14, .iload_n 3, 1, 0, 0, 0, 0), (15, .ifCond .eq 13, 3, 0, 0, 0, 0), (18, .aload_n 0, 1, 0, 0, 0, 0), (19, .bipush 97, 2, 0, 0, 0, 0), (21, .iload_n 3, 1, 0, 0, 0, 0), 
  (22, .iadd, 1, 0, 0, 0, 0), (23, .iconst 1, 1, 0, 0, 0, 0), (24, .isub, 1, 0, 0, 0, 0), (25, .invokevirtual 28, 3, 13, 2, 0, 1455), (28, .iinc 2 (-5), 3, 0, 0, 0, 0), 
  (31, .goto (-28), 3, 0, 0, 0, 0), (34, .return_, 1, 0, 0, 0, 0)]
/-- DropSwitch$Log <init> ()V -/
noncomputable def cd_17 : List (Nat × Ent) := [
  (0, .aload_n 0, 1, 0, 0, 0, 0), (1, .invokespecial 3, 3, 0, 1, 4, 423), (4, .aload_n 0, 1, 0, 0, 0, 0), (5, .sipush 1800, 3, 0, 0, 0, 0), (8, .newarray .int, 2, 1, 0, 0, 0), 
  (10, .putfield 9, 3, 3, 1, 12, 426), (13, .aload_n 0, 1, 0, 0, 0, 0), (14, .sipush 600, 3, 0, 0, 0, 0), (17, .newarray .int, 2, 1, 0, 0, 0), (19, .putfield 15, 3, 3, 2, 12, 427), 
  (22, .aload_n 0, 1, 0, 0, 0, 0), (23, .iconst 4, 1, 0, 0, 0, 0), (24, .newarray .int, 2, 1, 0, 0, 0), (26, .putfield 18, 3, 3, 3, 12, 428), (29, .aload_n 0, 1, 0, 0, 0, 0), 
  (30, .iconst 4, 1, 0, 0, 0, 0), (31, .newarray .int, 2, 1, 0, 0, 0), (33, .putfield 21, 3, 3, 4, 12, 430), (36, .aload_n 0, 1, 0, 0, 0, 0), (37, .iconst 4, 1, 0, 0, 0, 0), 
  (38, .newarray .int, 2, 1, 0, 0, 0), (40, .putfield 24, 3, 3, 5, 12, 431), (43, .return_, 1, 0, 0, 0, 0)]
/-- DropSwitch$Log clear ()V -/
noncomputable def cd_18 : List (Nat × Ent) := [
  (0, .aload_n 0, 1, 0, 0, 0, 0), (1, .iconst 0, 1, 0, 0, 0, 0), (2, .putfield 27, 3, 3, 0, 0, 424), (5, .aload_n 0, 1, 0, 0, 0, 0), (6, .getfield 15, 3, 3, 2, 2, 427), 
  (9, .iconst 0, 1, 0, 0, 0, 0), (10, .invokestatic 31, 3, 305, 2, 1, 532), (13, .aload_n 0, 1, 0, 0, 0, 0), (14, .getfield 18, 3, 3, 3, 2, 428), (17, .iconst 0, 1, 0, 0, 0, 0), 
  (18, .invokestatic 31, 3, 305, 2, 1, 532), (21, .aload_n 0, 1, 0, 0, 0, 0), (22, .getfield 21, 3, 3, 4, 2, 430), (25, .iconst 0, 1, 0, 0, 0, 0), 
  (26, .invokestatic 31, 3, 305, 2, 1, 532), (29, .aload_n 0, 1, 0, 0, 0, 0), (30, .getfield 24, 3, 3, 5, 2, 431), (33, .iconst (-1), 1, 0, 0, 0, 0), 
  (34, .invokestatic 31, 3, 305, 2, 1, 532), (37, .return_, 1, 0, 0, 0, 0)]
/-- DropSwitch$Log addDrop (IIIII)V -/
noncomputable def cd_19 : List (Nat × Ent) := [
  (0, .aload_n 0, 1, 0, 0, 0, 0), (1, .iload_n 2, 1, 0, 0, 0, 0), (2, .iload_n 3, 1, 0, 0, 0, 0), (3, .iconst 3, 1, 0, 0, 0, 0), (4, .invokevirtual 37, 3, 21, 4, 0, 670), 
  (7, .aload_n 0, 1, 0, 0, 0, 0), (8, .getfield 27, 3, 3, 0, 0, 424), (11, .sipush 360, 3, 0, 0, 0, 0), (14, .if_icmp .lt 4, 3, 0, 0, 0, 0), (17, .return_, 1, 0, 0, 0, 0), 
  (18, .aload_n 0, 1, 0, 0, 0, 0), (19, .getfield 27, 3, 3, 0, 0, 424), (22, .iconst 5, 1, 0, 0, 0, 0), (23, .imul, 1, 0, 0, 0, 0), (24, .istore 6, 2, 0, 0, 0, 0), 
  (26, .aload_n 0, 1, 0, 0, 0, 0), (27, .getfield 9, 3, 3, 1, 2, 426), (30, .iload 6, 2, 0, 0, 0, 0), (32, .iconst 0, 1, 0, 0, 0, 0), (33, .iadd, 1, 0, 0, 0, 0), 
  (34, .iload_n 1, 1, 0, 0, 0, 0), (35, .iastore, 1, 0, 0, 0, 0), (36, .aload_n 0, 1, 0, 0, 0, 0), (37, .getfield 9, 3, 3, 1, 2, 426), (40, .iload 6, 2, 0, 0, 0, 0), 
  (42, .iconst 1, 1, 0, 0, 0, 0), (43, .iadd, 1, 0, 0, 0, 0), (44, .iload_n 2, 1, 0, 0, 0, 0), (45, .iastore, 1, 0, 0, 0, 0), (46, .aload_n 0, 1, 0, 0, 0, 0), 
  (47, .getfield 9, 3, 3, 1, 2, 426), (50, .iload 6, 2, 0, 0, 0, 0), (52, .iconst 2, 1, 0, 0, 0, 0), (53, .iadd, 1, 0, 0, 0, 0), (54, .iload_n 3, 1, 0, 0, 0, 0), 
  (55, .iastore, 1, 0, 0, 0, 0), (56, .aload_n 0, 1, 0, 0, 0, 0), (57, .getfield 9, 3, 3, 1, 2, 426), (60, .iload 6, 2, 0, 0, 0, 0), (62, .iconst 3, 1, 0, 0, 0, 0), 
  (63, .iadd, 1, 0, 0, 0, 0), (64, .iload 4, 2, 0, 0, 0, 0), (66, .iastore, 1, 0, 0, 0, 0), (67, .aload_n 0, 1, 0, 0, 0, 0), (68, .getfield 9, 3, 3, 1, 2, 426), 
  (71, .iload 6, 2, 0, 0, 0, 0), (73, .iconst 4, 1, 0, 0, 0, 0), (74, .iadd, 1, 0, 0, 0, 0), (75, .iload 5, 2, 0, 0, 0, 0), (77, .iastore, 1, 0, 0, 0, 0), 
  (78, .aload_n 0, 1, 0, 0, 0, 0), (79, .dup, 1, 0, 0, 0, 0), (80, .getfield 27, 3, 3, 0, 0, 424), (83, .iconst 1, 1, 0, 0, 0, 0), (84, .iadd, 1, 0, 0, 0, 0), 
  (85, .putfield 27, 3, 3, 0, 0, 424), (88, .return_, 1, 0, 0, 0, 0)]
/-- DropSwitch$Log addDelivery (II)V -/
noncomputable def cd_20 : List (Nat × Ent) := [
  (0, .aload_n 0, 1, 0, 0, 0, 0), (1, .iload_n 1, 1, 0, 0, 0, 0), (2, .iload_n 2, 1, 0, 0, 0, 0), (3, .iconst 2, 1, 0, 0, 0, 0), (4, .invokevirtual 37, 3, 21, 4, 0, 670), 
  (7, .aload_n 0, 1, 0, 0, 0, 0), (8, .getfield 18, 3, 3, 3, 2, 428), (11, .iload_n 2, 1, 0, 0, 0, 0), (12, .dup2, 1, 0, 0, 0, 0), (13, .iaload, 1, 0, 0, 0, 0), 
  (14, .iconst 1, 1, 0, 0, 0, 0), (15, .iadd, 1, 0, 0, 0, 0), (16, .iastore, 1, 0, 0, 0, 0), (17, .return_, 1, 0, 0, 0, 0)]
/-- DropSwitch$Log setFate (III)V -/
noncomputable def cd_21 : List (Nat × Ent) := [
  (0, .iload_n 1, 1, 0, 0, 0, 0), (1, .ifCond .lt 22, 3, 0, 0, 0, 0), (4, .iload_n 1, 1, 0, 0, 0, 0), (5, .bipush 120, 2, 0, 0, 0, 0), (7, .if_icmp .ge 16, 3, 0, 0, 0, 0), 
  (10, .aload_n 0, 1, 0, 0, 0, 0), (11, .getfield 15, 3, 3, 2, 2, 427), (14, .iload_n 1, 1, 0, 0, 0, 0), (15, .iconst 5, 1, 0, 0, 0, 0), (16, .imul, 1, 0, 0, 0, 0), 
  (17, .iload_n 2, 1, 0, 0, 0, 0), (18, .iadd, 1, 0, 0, 0, 0), (19, .iconst 1, 1, 0, 0, 0, 0), (20, .iadd, 1, 0, 0, 0, 0), (21, .iload_n 3, 1, 0, 0, 0, 0), 
  (22, .iastore, 1, 0, 0, 0, 0), (23, .return_, 1, 0, 0, 0, 0)]
/-- DropSwitch$Log fateOf (II)I -/
noncomputable def cd_22 : List (Nat × Ent) := [
  (0, .aload_n 0, 1, 0, 0, 0, 0), (1, .getfield 15, 3, 3, 2, 2, 427), (4, .iload_n 1, 1, 0, 0, 0, 0), (5, .iconst 5, 1, 0, 0, 0, 0), (6, .imul, 1, 0, 0, 0, 0), 
  (7, .iload_n 2, 1, 0, 0, 0, 0), (8, .iadd, 1, 0, 0, 0, 0), (9, .iconst 1, 1, 0, 0, 0, 0), (10, .iadd, 1, 0, 0, 0, 0), (11, .iaload, 1, 0, 0, 0, 0), (12, .ireturn, 1, 0, 0, 0, 0)]
/-- DropSwitch$Log notePeaks (ILDropSwitch$State;)V -/
noncomputable def cd_23 : List (Nat × Ent) := [
  (0, .iconst 0, 1, 0, 0, 0, 0), (1, .istore_n 3, 1, 0, 0, 0, 0), (2, .iload_n 3, 1, 0, 0, 0, 0), (3, .iconst 4, 1, 0, 0, 0, 0), (4, .if_icmp .ge 43, 3, 0, 0, 0, 0), 
  (7, .aload_n 2, 1, 0, 0, 0, 0), (8, .getfield 41, 3, 7, 3, 2, 389), (11, .iload_n 3, 1, 0, 0, 0, 0), (12, .iaload, 1, 0, 0, 0, 0), (13, .aload_n 0, 1, 0, 0, 0, 0), 
  (14, .getfield 21, 3, 3, 4, 2, 430), (17, .iload_n 3, 1, 0, 0, 0, 0), (18, .iaload, 1, 0, 0, 0, 0), (19, .if_icmp .le 22, 3, 0, 0, 0, 0), (22, .aload_n 0, 1, 0, 0, 0, 0), 
  (23, .getfield 21, 3, 3, 4, 2, 430), (26, .iload_n 3, 1, 0, 0, 0, 0), (27, .aload_n 2, 1, 0, 0, 0, 0), (28, .getfield 41, 3, 7, 3, 2, 389), (31, .iload_n 3, 1, 0, 0, 0, 0), 
  (32, .iaload, 1, 0, 0, 0, 0), (33, .iastore, 1, 0, 0, 0, 0), (34, .aload_n 0, 1, 0, 0, 0, 0), (35, .getfield 24, 3, 3, 5, 2, 431), (38, .iload_n 3, 1, 0, 0, 0, 0), 
  (39, .iload_n 1, 1, 0, 0, 0, 0), (40, .iastore, 1, 0, 0, 0, 0), (41, .iinc 3 1, 3, 0, 0, 0, 0), (44, .goto (-42), 3, 0, 0, 0, 0), (47, .return_, 1, 0, 0, 0, 0)]
/-- DropSwitch$Log dropPart (II)I -/
noncomputable def cd_24 : List (Nat × Ent) := [
  (0, .aload_n 0, 1, 0, 0, 0, 0), (1, .getfield 9, 3, 3, 1, 2, 426), (4, .iload_n 1, 1, 0, 0, 0, 0), (5, .iconst 5, 1, 0, 0, 0, 0), (6, .imul, 1, 0, 0, 0, 0), 
  (7, .iload_n 2, 1, 0, 0, 0, 0), (8, .iadd, 1, 0, 0, 0, 0), (9, .iaload, 1, 0, 0, 0, 0), (10, .ireturn, 1, 0, 0, 0, 0)]
/-- DropSwitch$Log dropsWith (I)I -/
noncomputable def cd_25 : List (Nat × Ent) := [
  (0, .iconst 0, 1, 0, 0, 0, 0), (1, .istore_n 2, 1, 0, 0, 0, 0), (2, .iconst 0, 1, 0, 0, 0, 0), (3, .istore_n 3, 1, 0, 0, 0, 0), (4, .iload_n 3, 1, 0, 0, 0, 0), 
  (5, .aload_n 0, 1, 0, 0, 0, 0), (6, .getfield 27, 3, 3, 0, 0, 424), (9, .if_icmp .ge 22, 3, 0, 0, 0, 0), (12, .aload_n 0, 1, 0, 0, 0, 0), (13, .iload_n 3, 1, 0, 0, 0, 0), 
  (14, .iconst 3, 1, 0, 0, 0, 0), (15, .invokevirtual 46, 3, 24, 3, 0, 795), (18, .iload_n 1, 1, 0, 0, 0, 0), (19, .if_icmp .ne 6, 3, 0, 0, 0, 0), (22, .iinc 2 1, 3, 0, 0, 0, 0), 
  (25, .iinc 3 1, 3, 0, 0, 0, 0), (28, .goto (-24), 3, 0, 0, 0, 0), (31, .iload_n 2, 1, 0, 0, 0, 0), (32, .ireturn, 1, 0, 0, 0, 0)]
/-- DropSwitch$Log dropsWith (II)I -/
noncomputable def cd_26 : List (Nat × Ent) := [
  (0, .iconst 0, 1, 0, 0, 0, 0), (1, .istore_n 3, 1, 0, 0, 0, 0), (2, .iconst 0, 1, 0, 0, 0, 0), (3, .istore 4, 2, 0, 0, 0, 0), (5, .iload 4, 2, 0, 0, 0, 0), 
  (7, .aload_n 0, 1, 0, 0, 0, 0), (8, .getfield 27, 3, 3, 0, 0, 424), (11, .if_icmp .ge 34, 3, 0, 0, 0, 0), (14, .aload_n 0, 1, 0, 0, 0, 0), (15, .iload 4, 2, 0, 0, 0, 0), 
  (17, .iconst 3, 1, 0, 0, 0, 0), (18, .invokevirtual 46, 3, 24, 3, 0, 795), (21, .iload_n 1, 1, 0, 0, 0, 0), (22, .if_icmp .ne 17, 3, 0, 0, 0, 0), (25, .aload_n 0, 1, 0, 0, 0, 0), 
  (26, .iload 4, 2, 0, 0, 0, 0), (28, .iconst 4, 1, 0, 0, 0, 0), (29, .invokevirtual 46, 3, 24, 3, 0, 795), (32, .iload_n 2, 1, 0, 0, 0, 0), (33, .if_icmp .ne 6, 3, 0, 0, 0, 0), 
  (36, .iinc 3 1, 3, 0, 0, 0, 0), (39, .iinc 4 1, 3, 0, 0, 0, 0), (42, .goto (-37), 3, 0, 0, 0, 0), (45, .iload_n 3, 1, 0, 0, 0, 0), (46, .ireturn, 1, 0, 0, 0, 0)]
/-- DropSwitch$Log hasDropLike (LDropSwitch$Log;I)Z -/
noncomputable def cd_27 : List (Nat × Ent) := [
  (0, .aload_n 0, 1, 0, 0, 0, 0), (1, .aload_n 1, 1, 0, 0, 0, 0), (2, .iload_n 2, 1, 0, 0, 0, 0), (3, .iconst 1, 1, 0, 0, 0, 0), (4, .invokevirtual 46, 3, 24, 3, 0, 795), 
  (7, .aload_n 1, 1, 0, 0, 0, 0), (8, .iload_n 2, 1, 0, 0, 0, 0), (9, .iconst 2, 1, 0, 0, 0, 0), (10, .invokevirtual 46, 3, 24, 3, 0, 795), (13, .invokevirtual 50, 3, 22, 3, 0, 799), 
  (16, .iconst 3, 1, 0, 0, 0, 0), (17, .if_icmp .ne 7, 3, 0, 0, 0, 0), (20, .iconst 1, 1, 0, 0, 0, 0), (21, .goto 4, 3, 0, 0, 0, 0), (24, .iconst 0, 1, 0, 0, 0, 0), 
  (25, .ireturn, 1, 0, 0, 1, 0)]
/-- DropSwitch$Log dropsMissingIn (LDropSwitch$Log;)I -/
noncomputable def cd_28 : List (Nat × Ent) := [
  (0, .iconst 0, 1, 0, 0, 0, 0), (1, .istore_n 2, 1, 0, 0, 0, 0), (2, .iconst 0, 1, 0, 0, 0, 0), (3, .istore_n 3, 1, 0, 0, 0, 0), (4, .iload_n 3, 1, 0, 0, 0, 0), 
  (5, .aload_n 0, 1, 0, 0, 0, 0), (6, .getfield 27, 3, 3, 0, 0, 424), (9, .if_icmp .ge 21, 3, 0, 0, 0, 0), (12, .aload_n 1, 1, 0, 0, 0, 0), (13, .aload_n 0, 1, 0, 0, 0, 0), 
  (14, .iload_n 3, 1, 0, 0, 0, 0), (15, .invokevirtual 53, 3, 27, 3, 0, 791), (18, .ifCond .ne 6, 3, 0, 0, 0, 0), (21, .iinc 2 1, 3, 0, 0, 0, 0), (24, .iinc 3 1, 3, 0, 0, 0, 0), 
  (27, .goto (-23), 3, 0, 0, 0, 0), (30, .iload_n 2, 1, 0, 0, 0, 0), (31, .ireturn, 1, 0, 0, 0, 0)]
/-- DropSwitch$Log wasCrowded (I)Z -/
noncomputable def cd_29 : List (Nat × Ent) := [
  (0, .iconst 0, 1, 0, 0, 0, 0), (1, .istore_n 2, 1, 0, 0, 0, 0), (2, .iload_n 2, 1, 0, 0, 0, 0), (3, .aload_n 0, 1, 0, 0, 0, 0), (4, .getfield 27, 3, 3, 0, 0, 424), 
  (7, .if_icmp .ge 40, 3, 0, 0, 0, 0), (10, .aload_n 0, 1, 0, 0, 0, 0), (11, .iload_n 2, 1, 0, 0, 0, 0), (12, .iconst 3, 1, 0, 0, 0, 0), (13, .invokevirtual 46, 3, 24, 3, 0, 795), 
  (16, .istore_n 3, 1, 0, 0, 0, 0), (17, .aload_n 0, 1, 0, 0, 0, 0), (18, .iload_n 2, 1, 0, 0, 0, 0), (19, .iconst 2, 1, 0, 0, 0, 0), (20, .invokevirtual 46, 3, 24, 3, 0, 795), 
  (23, .iload_n 1, 1, 0, 0, 0, 0), (24, .if_icmp .ne 17, 3, 0, 0, 0, 0), (27, .iload_n 3, 1, 0, 0, 0, 0), (28, .bipush 7, 2, 0, 0, 0, 0), (30, .if_icmp .eq 9, 3, 0, 0, 0, 0), 
  (33, .iload_n 3, 1, 0, 0, 0, 0), (34, .bipush 8, 2, 0, 0, 0, 0), (36, .if_icmp .ne 5, 3, 0, 0, 0, 0), (39, .iconst 1, 1, 0, 0, 0, 0), (40, .ireturn, 1, 0, 0, 1, 0), 
  (41, .iinc 2 1, 3, 0, 0, 0, 0), (44, .goto (-42), 3, 0, 0, 0, 0), (47, .iconst 0, 1, 0, 0, 0, 0), (48, .ireturn, 1, 0, 0, 1, 0)]
/-- DropSwitch$Reader <init> ([B)V -/
noncomputable def cd_30 : List (Nat × Ent) := [
  (0, .aload_n 0, 1, 0, 0, 0, 0), (1, .invokespecial 3, 3, 0, 1, 4, 162), (4, .aload_n 0, 1, 0, 0, 0, 0), (5, .new 9, 3, 6, 6, 0, 163), (8, .dup, 1, 0, 0, 0, 0), 
  (9, .invokespecial 11, 3, 65, 1, 2, 165), (12, .putfield 12, 3, 4, 0, 2, 270), (15, .aload_n 0, 1, 0, 0, 0, 0), (16, .iconst (-1), 1, 0, 0, 0, 0), 
  (17, .putfield 18, 3, 4, 1, 0, 272), (20, .aload_n 0, 1, 0, 0, 0, 0), (21, .iconst 0, 1, 0, 0, 0, 0), (22, .putfield 22, 3, 4, 2, 0, 274), (25, .aload_n 0, 1, 0, 0, 0, 0), 
  (26, .aload_n 1, 1, 0, 0, 0, 0), (27, .putfield 25, 3, 4, 3, 12, 276), (30, .return_, 1, 0, 0, 0, 0)]
/-- DropSwitch$Reader read (I)Z -/
noncomputable def cd_31 : List (Nat × Ent) := [
  (0, .aload_n 0, 1, 0, 0, 0, 0), (1, .iload_n 1, 1, 0, 0, 0, 0), (2, .aload_n 0, 1, 0, 0, 0, 0), (3, .getfield 25, 3, 4, 3, 2, 276), (6, .arraylength, 1, 0, 0, 0, 0), 
  (7, .invokestatic 29, 3, 0, 2, 5, 823), (10, .putfield 35, 3, 4, 4, 0, 277), (13, .aload_n 0, 1, 0, 0, 0, 0), (14, .iconst 0, 1, 0, 0, 0, 0), (15, .putfield 38, 3, 4, 5, 0, 278), 
  (18, .aload_n 0, 1, 0, 0, 0, 0), (19, .iconst (-1), 1, 0, 0, 0, 0), (20, .putfield 18, 3, 4, 1, 0, 272), (23, .aload_n 0, 1, 0, 0, 0, 0), (24, .iconst 0, 1, 0, 0, 0, 0), 
  (25, .putfield 22, 3, 4, 2, 0, 274), (28, .aload_n 0, 1, 0, 0, 0, 0), (29, .getfield 12, 3, 4, 0, 2, 270), (32, .invokevirtual 41, 3, 66, 1, 0, 824), 
  (35, .aload_n 0, 1, 0, 0, 0, 0), (36, .invokevirtual 44, 3, 32, 1, 0, 825), (39, .iconst 1, 1, 0, 0, 0, 0), (40, .istore_n 2, 1, 0, 0, 0, 0), (41, .iconst 0, 1, 0, 0, 0, 0), 
  (42, .istore_n 3, 1, 0, 0, 0, 0), (43, .iload_n 3, 1, 0, 0, 0, 0), (44, .aload_n 0, 1, 0, 0, 0, 0), (45, .getfield 35, 3, 4, 4, 0, 277), (48, .if_icmp .ge 104, 3, 0, 0, 0, 0), 
  (51, .iload_n 2, 1, 0, 0, 0, 0), (52, .ifCond .eq 100, 3, 0, 0, 0, 0), (55, .aload_n 0, 1, 0, 0, 0, 0), (56, .getfield 47, 3, 4, 7, 0, 280), (59, .ifCond .eq 93, 3, 0, 0, 0, 0), 
  (62, .aload_n 0, 1, 0, 0, 0, 0), (63, .ldc 50, 2, 0, 0, 0, 829), (65, .invokevirtual 52, 3, 34, 2, 0, 830), (68, .ifCond .eq 11, 3, 0, 0, 0, 0), (71, .aload_n 0, 1, 0, 0, 0, 0), 
  (72, .invokevirtual 56, 3, 40, 1, 0, 882), (75, .istore_n 2, 1, 0, 0, 0, 0), (76, .goto 51, 3, 0, 0, 0, 0), (79, .aload_n 0, 1, 0, 0, 0, 0), (80, .ldc 60, 2, 1, 0, 0, 906), 
  (82, .invokevirtual 52, 3, 34, 2, 0, 830), (85, .ifCond .eq 11, 3, 0, 0, 0, 0), (88, .aload_n 0, 1, 0, 0, 0, 0), (89, .invokevirtual 62, 3, 41, 1, 0, 907), 
  (92, .istore_n 2, 1, 0, 0, 0, 0), (93, .goto 34, 3, 0, 0, 0, 0), (96, .aload_n 0, 1, 0, 0, 0, 0), (97, .ldc 65, 2, 2, 0, 0, 911), (99, .invokevirtual 52, 3, 34, 2, 0, 830), 
  (102, .ifCond .ne 12, 3, 0, 0, 0, 0), (105, .aload_n 0, 1, 0, 0, 0, 0), (106, .ldc 67, 2, 3, 0, 0, 912), (108, .invokevirtual 52, 3, 34, 2, 0, 830), 
  (111, .ifCond .eq 11, 3, 0, 0, 0, 0), (114, .aload_n 0, 1, 0, 0, 0, 0), (115, .invokevirtual 69, 3, 42, 1, 0, 913), (118, .istore_n 2, 1, 0, 0, 0, 0), (119, .goto 8, 3, 0, 0, 0, 0), 
  (122, .aload_n 0, 1, 0, 0, 0, 0), (123, .invokevirtual 72, 3, 39, 1, 0, 962), (126, .istore_n 2, 1, 0, 0, 0, 0), (127, .iload_n 2, 1, 0, 0, 0, 0), 
  (128, .ifCond .eq 16, 3, 0, 0, 0, 0), (131, .aload_n 0, 1, 0, 0, 0, 0), (132, .bipush 59, 2, 0, 0, 0, 0), (134, .invokevirtual 75, 3, 36, 2, 0, 969), 
  (137, .ifCond .eq 7, 3, 0, 0, 0, 0), (140, .iconst 1, 1, 0, 0, 0, 0), (141, .goto 4, 3, 0, 0, 0, 0), (144, .iconst 0, 1, 0, 0, 0, 0), (145, .istore_n 2, 1, 0, 0, 0, 0), 
  (146, .iinc 3 1, 3, 0, 0, 0, 0), (149, .goto (-106), 3, 0, 0, 0, 0), (152, .iload_n 2, 1, 0, 0, 0, 0), (153, .ireturn, 1, 0, 0, 1, 0)]
/-- DropSwitch$Reader next ()V -/
noncomputable def cd_32 : List (Nat × Ent) := [
  (0, .aload_n 0, 1, 0, 0, 0, 0), (1, .getfield 38, 3, 4, 5, 0, 278), (4, .aload_n 0, 1, 0, 0, 0, 0), (5, .getfield 35, 3, 4, 4, 0, 277), (8, .if_icmp .ge 58, 3, 0, 0, 0, 0), 
  (11, .aload_n 0, 1, 0, 0, 0, 0), (12, .getfield 25, 3, 4, 3, 2, 276), (15, .aload_n 0, 1, 0, 0, 0, 0), (16, .getfield 38, 3, 4, 5, 0, 278), (19, .baload, 1, 0, 0, 0, 0), 
  (20, .bipush 32, 2, 0, 0, 0, 0), (22, .if_icmp .eq 31, 3, 0, 0, 0, 0), (25, .aload_n 0, 1, 0, 0, 0, 0), (26, .getfield 25, 3, 4, 3, 2, 276), (29, .aload_n 0, 1, 0, 0, 0, 0), 
  (30, .getfield 38, 3, 4, 5, 0, 278), (33, .baload, 1, 0, 0, 0, 0), (34, .bipush 9, 2, 0, 0, 0, 0), (36, .if_icmp .eq 17, 3, 0, 0, 0, 0), (39, .aload_n 0, 1, 0, 0, 0, 0), 
  (40, .getfield 25, 3, 4, 3, 2, 276), (43, .aload_n 0, 1, 0, 0, 0, 0), (44, .getfield 38, 3, 4, 5, 0, 278), (47, .baload, 1, 0, 0, 0, 0), (48, .bipush 10, 2, 0, 0, 0, 0), 
  (50, .if_icmp .ne 16, 3, 0, 0, 0, 0), (53, .aload_n 0, 1, 0, 0, 0, 0), (54, .dup, 1, 0, 0, 0, 0), (55, .getfield 38, 3, 4, 5, 0, 278), (58, .iconst 1, 1, 0, 0, 0, 0), 
  (59, .iadd, 1, 0, 0, 0, 0), (60, .putfield 38, 3, 4, 5, 0, 278), (63, .goto (-63), 3, 0, 0, 0, 0), (66, .aload_n 0, 1, 0, 0, 0, 0), (67, .aload_n 0, 1, 0, 0, 0, 0), 
  (68, .getfield 38, 3, 4, 5, 0, 278), (71, .putfield 79, 3, 4, 6, 0, 279), (74, .aload_n 0, 1, 0, 0, 0, 0), (75, .iconst 0, 1, 0, 0, 0, 0), (76, .putfield 47, 3, 4, 7, 0, 280), 
  (79, .aload_n 0, 1, 0, 0, 0, 0), (80, .getfield 38, 3, 4, 5, 0, 278), (83, .aload_n 0, 1, 0, 0, 0, 0), (84, .getfield 35, 3, 4, 4, 0, 277), (87, .if_icmp .ge 49, 3, 0, 0, 0, 0), 
  (90, .aload_n 0, 1, 0, 0, 0, 0), (91, .getfield 25, 3, 4, 3, 2, 276), (94, .aload_n 0, 1, 0, 0, 0, 0), (95, .getfield 38, 3, 4, 5, 0, 278), (98, .baload, 1, 0, 0, 0, 0), 
  (99, .bipush 97, 2, 0, 0, 0, 0), (101, .if_icmp .lt 35, 3, 0, 0, 0, 0), (104, .aload_n 0, 1, 0, 0, 0, 0), (105, .getfield 25, 3, 4, 3, 2, 276), (108, .aload_n 0, 1, 0, 0, 0, 0), 
  (109, .getfield 38, 3, 4, 5, 0, 278), (112, .baload, 1, 0, 0, 0, 0), (113, .bipush 122, 2, 0, 0, 0, 0), (115, .if_icmp .gt 21, 3, 0, 0, 0, 0), (118, .aload_n 0, 1, 0, 0, 0, 0), 
  (119, .iconst 1, 1, 0, 0, 0, 0), (120, .putfield 47, 3, 4, 7, 0, 280), (123, .aload_n 0, 1, 0, 0, 0, 0), (124, .dup, 1, 0, 0, 0, 0), (125, .getfield 38, 3, 4, 5, 0, 278), 
  (128, .iconst 1, 1, 0, 0, 0, 0), (129, .iadd, 1, 0, 0, 0, 0), (130, .putfield 38, 3, 4, 5, 0, 278), (133, .goto (-54), 3, 0, 0, 0, 0), (136, .aload_n 0, 1, 0, 0, 0, 0), 
  (137, .getfield 38, 3, 4, 5, 0, 278), (140, .aload_n 0, 1, 0, 0, 0, 0), (141, .getfield 35, 3, 4, 4, 0, 277), (144, .if_icmp .ge 57, 3, 0, 0, 0, 0), 
  (147, .aload_n 0, 1, 0, 0, 0, 0), (148, .getfield 47, 3, 4, 7, 0, 280), (151, .iconst 1, 1, 0, 0, 0, 0), (152, .if_icmp .eq 49, 3, 0, 0, 0, 0), (155, .aload_n 0, 1, 0, 0, 0, 0), 
  (156, .getfield 25, 3, 4, 3, 2, 276), (159, .aload_n 0, 1, 0, 0, 0, 0), (160, .getfield 38, 3, 4, 5, 0, 278), (163, .baload, 1, 0, 0, 0, 0), (164, .bipush 48, 2, 0, 0, 0, 0), 
  (166, .if_icmp .lt 35, 3, 0, 0, 0, 0), (169, .aload_n 0, 1, 0, 0, 0, 0), (170, .getfield 25, 3, 4, 3, 2, 276), (173, .aload_n 0, 1, 0, 0, 0, 0), 
  (174, .getfield 38, 3, 4, 5, 0, 278), (177, .baload, 1, 0, 0, 0, 0), (178, .bipush 57, 2, 0, 0, 0, 0), (180, .if_icmp .gt 21, 3, 0, 0, 0, 0), (183, .aload_n 0, 1, 0, 0, 0, 0), 
  (184, .iconst 2, 1, 0, 0, 0, 0), (185, .putfield 47, 3, 4, 7, 0, 280), (188, .aload_n 0, 1, 0, 0, 0, 0), (189, .dup, 1, 0, 0, 0, 0), (190, .getfield 38, 3, 4, 5, 0, 278), 
  (193, .iconst 1, 1, 0, 0, 0, 0), (194, .iadd, 1, 0, 0, 0, 0), (195, .putfield 38, 3, 4, 5, 0, 278), (198, .goto (-62), 3, 0, 0, 0, 0), (201, .aload_n 0, 1, 0, 0, 0, 0), 
  (202, .getfield 38, 3, 4, 5, 0, 278), (205, .aload_n 0, 1, 0, 0, 0, 0), (206, .getfield 35, 3, 4, 4, 0, 277), (209, .if_icmp .ge 25, 3, 0, 0, 0, 0), 
  (212, .aload_n 0, 1, 0, 0, 0, 0), (213, .getfield 47, 3, 4, 7, 0, 280), (216, .ifCond .ne 18, 3, 0, 0, 0, 0), (219, .aload_n 0, 1, 0, 0, 0, 0), (220, .iconst 3, 1, 0, 0, 0, 0), 
  (221, .putfield 47, 3, 4, 7, 0, 280), (224, .aload_n 0, 1, 0, 0, 0, 0), (225, .dup, 1, 0, 0, 0, 0), (226, .getfield 38, 3, 4, 5, 0, 278), (229, .iconst 1, 1, 0, 0, 0, 0), 
  (230, .iadd, 1, 0, 0, 0, 0), (231, .putfield 38, 3, 4, 5, 0, 278), (234, .return_, 1, 0, 0, 0, 0)]
/-- DropSwitch$Reader fail (I)Z -/
noncomputable def cd_33 : List (Nat × Ent) := [
  (0, .aload_n 0, 1, 0, 0, 0, 0), (1, .aload_n 0, 1, 0, 0, 0, 0), (2, .getfield 79, 3, 4, 6, 0, 279), (5, .putfield 18, 3, 4, 1, 0, 272), (8, .aload_n 0, 1, 0, 0, 0, 0), 
  (9, .iload_n 1, 1, 0, 0, 0, 0), (10, .putfield 22, 3, 4, 2, 0, 274), (13, .iconst 0, 1, 0, 0, 0, 0), (14, .ireturn, 1, 0, 0, 1, 0)]
/-- DropSwitch$Reader isWord (Ljava/lang/String;)Z -/
noncomputable def cd_34 : List (Nat × Ent) := [
  (0, .aload_n 0, 1, 0, 0, 0, 0), (1, .getfield 47, 3, 4, 7, 0, 280), (4, .iconst 1, 1, 0, 0, 0, 0), (5, .if_icmp .ne 19, 3, 0, 0, 0, 0), (8, .aload_n 0, 1, 0, 0, 0, 0), 
  (9, .getfield 38, 3, 4, 5, 0, 278), (12, .aload_n 0, 1, 0, 0, 0, 0), (13, .getfield 79, 3, 4, 6, 0, 279), (16, .isub, 1, 0, 0, 0, 0), (17, .aload_n 1, 1, 0, 0, 0, 0), 
  (18, .invokevirtual 82, 3, 299, 1, 0, 834), (21, .if_icmp .eq 5, 3, 0, 0, 0, 0), (24, .iconst 0, 1, 0, 0, 0, 0), (25, .ireturn, 1, 0, 0, 1, 0), (26, .iconst 0, 1, 0, 0, 0, 0), 
  (27, .istore_n 2, 1, 0, 0, 0, 0), (28, .iload_n 2, 1, 0, 0, 0, 0), (29, .aload_n 1, 1, 0, 0, 0, 0), (30, .invokevirtual 82, 3, 299, 1, 0, 834), (33, .if_icmp .ge 30, 3, 0, 0, 0, 0), 
  (36, .aload_n 0, 1, 0, 0, 0, 0), (37, .getfield 25, 3, 4, 3, 2, 276), (40, .aload_n 0, 1, 0, 0, 0, 0), (41, .getfield 79, 3, 4, 6, 0, 279), (44, .iload_n 2, 1, 0, 0, 0, 0), 
  (45, .iadd, 1, 0, 0, 0, 0), (46, .baload, 1, 0, 0, 0, 0), (47, .aload_n 1, 1, 0, 0, 0, 0), (48, .iload_n 2, 1, 0, 0, 0, 0), (49, .invokevirtual 87, 3, 300, 2, 0, 844), 
  (52, .if_icmp .eq 5, 3, 0, 0, 0, 0), (55, .iconst 0, 1, 0, 0, 0, 0), (56, .ireturn, 1, 0, 0, 1, 0), (57, .iinc 2 1, 3, 0, 0, 0, 0), (60, .goto (-32), 3, 0, 0, 0, 0), 
  (63, .iconst 1, 1, 0, 0, 0, 0), (64, .ireturn, 1, 0, 0, 1, 0)]
/-- DropSwitch$Reader isSign (C)Z -/
noncomputable def cd_35 : List (Nat × Ent) := [
  (0, .aload_n 0, 1, 0, 0, 0, 0), (1, .getfield 47, 3, 4, 7, 0, 280), (4, .iconst 3, 1, 0, 0, 0, 0), (5, .if_icmp .ne 20, 3, 0, 0, 0, 0), (8, .aload_n 0, 1, 0, 0, 0, 0), 
  (9, .getfield 25, 3, 4, 3, 2, 276), (12, .aload_n 0, 1, 0, 0, 0, 0), (13, .getfield 79, 3, 4, 6, 0, 279), (16, .baload, 1, 0, 0, 0, 0), (17, .iload_n 1, 1, 0, 0, 0, 0), 
  (18, .if_icmp .ne 7, 3, 0, 0, 0, 0), (21, .iconst 1, 1, 0, 0, 0, 0), (22, .goto 4, 3, 0, 0, 0, 0), (25, .iconst 0, 1, 0, 0, 0, 0), (26, .ireturn, 1, 0, 0, 1, 0)]
/-- DropSwitch$Reader readSign (C)Z -/
noncomputable def cd_36 : List (Nat × Ent) := [
  (0, .aload_n 0, 1, 0, 0, 0, 0), (1, .iload_n 1, 1, 0, 0, 0, 0), (2, .invokevirtual 91, 3, 35, 2, 0, 931), (5, .ifCond .ne 9, 3, 0, 0, 0, 0), (8, .aload_n 0, 1, 0, 0, 0, 0), 
  (9, .iconst 1, 1, 0, 0, 0, 0), (10, .invokevirtual 94, 3, 33, 2, 0, 886), (13, .ireturn, 1, 0, 0, 1, 0), (14, .aload_n 0, 1, 0, 0, 0, 0), (15, .invokevirtual 44, 3, 32, 1, 0, 825), 
  (18, .iconst 1, 1, 0, 0, 0, 0), (19, .ireturn, 1, 0, 0, 1, 0)]
/-- DropSwitch$Reader readNumber (II)Z -/
noncomputable def cd_37 : List (Nat × Ent) := [
  (0, .aload_n 0, 1, 0, 0, 0, 0), (1, .getfield 47, 3, 4, 7, 0, 280), (4, .iconst 2, 1, 0, 0, 0, 0), (5, .if_icmp .eq 9, 3, 0, 0, 0, 0), (8, .aload_n 0, 1, 0, 0, 0, 0), 
  (9, .iconst 1, 1, 0, 0, 0, 0), (10, .invokevirtual 94, 3, 33, 2, 0, 886), (13, .ireturn, 1, 0, 0, 1, 0), (14, .aload_n 0, 1, 0, 0, 0, 0), (15, .getfield 38, 3, 4, 5, 0, 278), 
  (18, .aload_n 0, 1, 0, 0, 0, 0), (19, .getfield 79, 3, 4, 6, 0, 279), (22, .isub, 1, 0, 0, 0, 0), (23, .iconst 3, 1, 0, 0, 0, 0), (24, .if_icmp .le 9, 3, 0, 0, 0, 0), 
  (27, .aload_n 0, 1, 0, 0, 0, 0), (28, .iconst 2, 1, 0, 0, 0, 0), (29, .invokevirtual 94, 3, 33, 2, 0, 886), (32, .ireturn, 1, 0, 0, 1, 0), (33, .aload_n 0, 1, 0, 0, 0, 0), 
  (34, .iconst 0, 1, 0, 0, 0, 0), (35, .putfield 98, 3, 4, 10, 0, 283), (38, .aload_n 0, 1, 0, 0, 0, 0), (39, .getfield 79, 3, 4, 6, 0, 279), (42, .istore_n 3, 1, 0, 0, 0, 0), 
  (43, .iload_n 3, 1, 0, 0, 0, 0), (44, .aload_n 0, 1, 0, 0, 0, 0), (45, .getfield 38, 3, 4, 5, 0, 278), (48, .if_icmp .ge 30, 3, 0, 0, 0, 0), (51, .aload_n 0, 1, 0, 0, 0, 0), 
  (52, .aload_n 0, 1, 0, 0, 0, 0), (53, .getfield 98, 3, 4, 10, 0, 283), (56, .bipush 10, 2, 0, 0, 0, 0), (58, .imul, 1, 0, 0, 0, 0), (59, .aload_n 0, 1, 0, 0, 0, 0), 
  (60, .getfield 25, 3, 4, 3, 2, 276), (63, .iload_n 3, 1, 0, 0, 0, 0), (64, .baload, 1, 0, 0, 0, 0), (65, .iadd, 1, 0, 0, 0, 0), (66, .bipush 48, 2, 0, 0, 0, 0), 
  (68, .isub, 1, 0, 0, 0, 0), (69, .putfield 98, 3, 4, 10, 0, 283), (72, .iinc 3 1, 3, 0, 0, 0, 0), (75, .goto (-32), 3, 0, 0, 0, 0), (78, .aload_n 0, 1, 0, 0, 0, 0), 
  (79, .getfield 98, 3, 4, 10, 0, 283), (82, .iload_n 1, 1, 0, 0, 0, 0), (83, .if_icmp .lt 11, 3, 0, 0, 0, 0), (86, .aload_n 0, 1, 0, 0, 0, 0), (87, .getfield 98, 3, 4, 10, 0, 283), 
  (90, .iload_n 2, 1, 0, 0, 0, 0), (91, .if_icmp .le 9, 3, 0, 0, 0, 0), (94, .aload_n 0, 1, 0, 0, 0, 0), (95, .iconst 2, 1, 0, 0, 0, 0), (96, .invokevirtual 94, 3, 33, 2, 0, 886), 
  (99, .ireturn, 1, 0, 0, 1, 0), (100, .aload_n 0, 1, 0, 0, 0, 0), (101, .invokevirtual 44, 3, 32, 1, 0, 825), (104, .iconst 1, 1, 0, 0, 0, 0), (105, .ireturn, 1, 0, 0, 1, 0)]
/-- DropSwitch$Reader readName (Z)Z -/
noncomputable def cd_38 : List (Nat × Ent) := [
  (0, .aload_n 0, 1, 0, 0, 0, 0), (1, .getfield 47, 3, 4, 7, 0, 280), (4, .iconst 1, 1, 0, 0, 0, 0), (5, .if_icmp .ne 17, 3, 0, 0, 0, 0), (8, .aload_n 0, 1, 0, 0, 0, 0), 
  (9, .getfield 38, 3, 4, 5, 0, 278), (12, .aload_n 0, 1, 0, 0, 0, 0), (13, .getfield 79, 3, 4, 6, 0, 279), (16, .isub, 1, 0, 0, 0, 0), (17, .bipush 6, 2, 0, 0, 0, 0), 
  (19, .if_icmp .le 9, 3, 0, 0, 0, 0), (22, .aload_n 0, 1, 0, 0, 0, 0), (23, .iconst 1, 1, 0, 0, 0, 0), (24, .invokevirtual 94, 3, 33, 2, 0, 886), (27, .ireturn, 1, 0, 0, 1, 0), 
  (28, .aload_n 0, 1, 0, 0, 0, 0), (29, .iconst 0, 1, 0, 0, 0, 0), (30, .putfield 103, 3, 4, 8, 0, 281), (33, .aload_n 0, 1, 0, 0, 0, 0), (34, .getfield 79, 3, 4, 6, 0, 279), 
  (37, .istore_n 2, 1, 0, 0, 0, 0), (38, .iload_n 2, 1, 0, 0, 0, 0), (39, .aload_n 0, 1, 0, 0, 0, 0), (40, .getfield 38, 3, 4, 5, 0, 278), (43, .if_icmp .ge 31, 3, 0, 0, 0, 0), 
  (46, .aload_n 0, 1, 0, 0, 0, 0), (47, .aload_n 0, 1, 0, 0, 0, 0), (48, .getfield 103, 3, 4, 8, 0, 281), (51, .iconst 5, 1, 0, 0, 0, 0), (52, .ishl, 1, 0, 0, 0, 0), 
  (53, .aload_n 0, 1, 0, 0, 0, 0), (54, .getfield 25, 3, 4, 3, 2, 276), (57, .iload_n 2, 1, 0, 0, 0, 0), (58, .baload, 1, 0, 0, 0, 0), (59, .bipush 97, 2, 0, 0, 0, 0), 
  (61, .isub, 1, 0, 0, 0, 0), (62, .iconst 1, 1, 0, 0, 0, 0), (63, .iadd, 1, 0, 0, 0, 0), (64, .ior, 1, 0, 0, 0, 0), (65, .putfield 103, 3, 4, 8, 0, 281), 
  (68, .iinc 2 1, 3, 0, 0, 0, 0), (71, .goto (-33), 3, 0, 0, 0, 0), (74, .aload_n 0, 1, 0, 0, 0, 0), (75, .aload_n 0, 1, 0, 0, 0, 0), (76, .getfield 12, 3, 4, 0, 2, 270), 
  (79, .aload_n 0, 1, 0, 0, 0, 0), (80, .getfield 103, 3, 4, 8, 0, 281), (83, .invokevirtual 106, 3, 68, 2, 0, 894), (86, .putfield 110, 3, 4, 9, 0, 282), 
  (89, .iload_n 1, 1, 0, 0, 0, 0), (90, .ifCond .eq 14, 3, 0, 0, 0, 0), (93, .aload_n 0, 1, 0, 0, 0, 0), (94, .getfield 110, 3, 4, 9, 0, 282), (97, .iconst (-1), 1, 0, 0, 0, 0), 
  (98, .if_icmp .eq 20, 3, 0, 0, 0, 0), (101, .goto 11, 3, 0, 0, 0, 0), (104, .aload_n 0, 1, 0, 0, 0, 0), (105, .getfield 110, 3, 4, 9, 0, 282), (108, .iconst (-1), 1, 0, 0, 0, 0), 
  (109, .if_icmp .ne 9, 3, 0, 0, 0, 0), (112, .aload_n 0, 1, 0, 0, 0, 0), (113, .iconst 3, 1, 0, 0, 0, 0), (114, .invokevirtual 94, 3, 33, 2, 0, 886), (117, .ireturn, 1, 0, 0, 1, 0), 
  (118, .aload_n 0, 1, 0, 0, 0, 0), (119, .invokevirtual 44, 3, 32, 1, 0, 825), (122, .iconst 1, 1, 0, 0, 0, 0), (123, .ireturn, 1, 0, 0, 1, 0)]
/-- DropSwitch$Reader readLimit ()Z -/
noncomputable def cd_39 : List (Nat × Ent) := [
  (0, .aload_n 0, 1, 0, 0, 0, 0), (1, .ldc 112, 2, 14, 0, 0, 966), (3, .invokevirtual 52, 3, 34, 2, 0, 830), (6, .ifCond .eq 36, 3, 0, 0, 0, 0), (9, .aload_n 0, 1, 0, 0, 0, 0), 
  (10, .invokevirtual 44, 3, 32, 1, 0, 825), (13, .aload_n 0, 1, 0, 0, 0, 0), (14, .iconst 1, 1, 0, 0, 0, 0), (15, .sipush 400, 3, 0, 0, 0, 0), 
  (18, .invokevirtual 114, 3, 37, 3, 0, 898), (21, .ifCond .ne 5, 3, 0, 0, 0, 0), (24, .iconst 0, 1, 0, 0, 0, 0), (25, .ireturn, 1, 0, 0, 1, 0), (26, .aload_n 0, 1, 0, 0, 0, 0), 
  (27, .getfield 12, 3, 4, 0, 2, 270), (30, .getfield 118, 3, 6, 0, 2, 249), (33, .aload_n 0, 1, 0, 0, 0, 0), (34, .getfield 98, 3, 4, 10, 0, 283), 
  (37, .putfield 122, 3, 1, 5, 0, 200), (40, .iconst 1, 1, 0, 0, 0, 0), (41, .ireturn, 1, 0, 0, 1, 0), (42, .aload_n 0, 1, 0, 0, 0, 0), (43, .ldc 126, 2, 15, 0, 0, 967), 
  (45, .invokevirtual 52, 3, 34, 2, 0, 830), (48, .ifCond .eq 36, 3, 0, 0, 0, 0), (51, .aload_n 0, 1, 0, 0, 0, 0), (52, .invokevirtual 44, 3, 32, 1, 0, 825), 
  (55, .aload_n 0, 1, 0, 0, 0, 0), (56, .iconst 0, 1, 0, 0, 0, 0), (57, .sipush 999, 3, 0, 0, 0, 0), (60, .invokevirtual 114, 3, 37, 3, 0, 898), (63, .ifCond .ne 5, 3, 0, 0, 0, 0), 
  (66, .iconst 0, 1, 0, 0, 0, 0), (67, .ireturn, 1, 0, 0, 1, 0), (68, .aload_n 0, 1, 0, 0, 0, 0), (69, .getfield 12, 3, 4, 0, 2, 270), (72, .getfield 118, 3, 6, 0, 2, 249), 
  (75, .aload_n 0, 1, 0, 0, 0, 0), (76, .getfield 98, 3, 4, 10, 0, 283), (79, .putfield 128, 3, 1, 7, 0, 208), (82, .iconst 1, 1, 0, 0, 0, 0), (83, .ireturn, 1, 0, 0, 1, 0), 
  (84, .aload_n 0, 1, 0, 0, 0, 0), (85, .ldc 130, 2, 16, 0, 0, 968), (87, .invokevirtual 52, 3, 34, 2, 0, 830), (90, .ifCond .eq 35, 3, 0, 0, 0, 0), (93, .aload_n 0, 1, 0, 0, 0, 0), 
  (94, .invokevirtual 44, 3, 32, 1, 0, 825), (97, .aload_n 0, 1, 0, 0, 0, 0), (98, .iconst 1, 1, 0, 0, 0, 0), (99, .bipush 99, 2, 0, 0, 0, 0), 
  (101, .invokevirtual 114, 3, 37, 3, 0, 898), (104, .ifCond .ne 5, 3, 0, 0, 0, 0), (107, .iconst 0, 1, 0, 0, 0, 0), (108, .ireturn, 1, 0, 0, 1, 0), (109, .aload_n 0, 1, 0, 0, 0, 0), 
  (110, .getfield 12, 3, 4, 0, 2, 270), (113, .getfield 118, 3, 6, 0, 2, 249), (116, .aload_n 0, 1, 0, 0, 0, 0), (117, .getfield 98, 3, 4, 10, 0, 283), 
  (120, .putfield 132, 3, 1, 6, 0, 203), (123, .iconst 1, 1, 0, 0, 0, 0), (124, .ireturn, 1, 0, 0, 1, 0), (125, .aload_n 0, 1, 0, 0, 0, 0), (126, .iconst 1, 1, 0, 0, 0, 0), 
  (127, .invokevirtual 94, 3, 33, 2, 0, 886), (130, .ireturn, 1, 0, 0, 1, 0)]
/-- DropSwitch$Reader readPort ()Z -/
noncomputable def cd_40 : List (Nat × Ent) := [
  (0, .aload_n 0, 1, 0, 0, 0, 0), (1, .getfield 12, 3, 4, 0, 2, 270), (4, .getfield 118, 3, 6, 0, 2, 249), (7, .getfield 134, 3, 1, 0, 0, 179), (10, .iconst 4, 1, 0, 0, 0, 0), 
  (11, .if_icmp .lt 9, 3, 0, 0, 0, 0), (14, .aload_n 0, 1, 0, 0, 0, 0), (15, .iconst 4, 1, 0, 0, 0, 0), (16, .invokevirtual 94, 3, 33, 2, 0, 886), (19, .ireturn, 1, 0, 0, 1, 0), 
  (20, .aload_n 0, 1, 0, 0, 0, 0), (21, .invokevirtual 44, 3, 32, 1, 0, 825), (24, .aload_n 0, 1, 0, 0, 0, 0), (25, .iconst 1, 1, 0, 0, 0, 0), 
  (26, .invokevirtual 137, 3, 38, 2, 0, 890), (29, .ifCond .eq 13, 3, 0, 0, 0, 0), (32, .aload_n 0, 1, 0, 0, 0, 0), (33, .iconst 1, 1, 0, 0, 0, 0), (34, .bipush 99, 2, 0, 0, 0, 0), 
  (36, .invokevirtual 114, 3, 37, 3, 0, 898), (39, .ifCond .ne 5, 3, 0, 0, 0, 0), (42, .iconst 0, 1, 0, 0, 0, 0), (43, .ireturn, 1, 0, 0, 1, 0), (44, .aload_n 0, 1, 0, 0, 0, 0), 
  (45, .getfield 98, 3, 4, 10, 0, 283), (48, .istore_n 1, 1, 0, 0, 0, 0), (49, .aload_n 0, 1, 0, 0, 0, 0), (50, .iconst 0, 1, 0, 0, 0, 0), (51, .bipush 9, 2, 0, 0, 0, 0), 
  (53, .invokevirtual 114, 3, 37, 3, 0, 898), (56, .ifCond .ne 5, 3, 0, 0, 0, 0), (59, .iconst 0, 1, 0, 0, 0, 0), (60, .ireturn, 1, 0, 0, 1, 0), (61, .aload_n 0, 1, 0, 0, 0, 0), 
  (62, .getfield 12, 3, 4, 0, 2, 270), (65, .aload_n 0, 1, 0, 0, 0, 0), (66, .getfield 103, 3, 4, 8, 0, 281), (69, .iload_n 1, 1, 0, 0, 0, 0), (70, .aload_n 0, 1, 0, 0, 0, 0), 
  (71, .getfield 98, 3, 4, 10, 0, 283), (74, .invokevirtual 141, 3, 67, 4, 0, 902), (77, .iconst 1, 1, 0, 0, 0, 0), (78, .ireturn, 1, 0, 0, 1, 0)]
/-- DropSwitch$Reader readPolicer ()Z -/
noncomputable def cd_41 : List (Nat × Ent) := [
  (0, .aload_n 0, 1, 0, 0, 0, 0), (1, .invokevirtual 44, 3, 32, 1, 0, 825), (4, .aload_n 0, 1, 0, 0, 0, 0), (5, .iconst 0, 1, 0, 0, 0, 0), (6, .invokevirtual 137, 3, 38, 2, 0, 890), 
  (9, .ifCond .eq 13, 3, 0, 0, 0, 0), (12, .aload_n 0, 1, 0, 0, 0, 0), (13, .iconst 0, 1, 0, 0, 0, 0), (14, .bipush 99, 2, 0, 0, 0, 0), (16, .invokevirtual 114, 3, 37, 3, 0, 898), 
  (19, .ifCond .ne 5, 3, 0, 0, 0, 0), (22, .iconst 0, 1, 0, 0, 0, 0), (23, .ireturn, 1, 0, 0, 1, 0), (24, .aload_n 0, 1, 0, 0, 0, 0), (25, .getfield 98, 3, 4, 10, 0, 283), 
  (28, .istore_n 1, 1, 0, 0, 0, 0), (29, .aload_n 0, 1, 0, 0, 0, 0), (30, .iconst 0, 1, 0, 0, 0, 0), (31, .bipush 99, 2, 0, 0, 0, 0), (33, .invokevirtual 114, 3, 37, 3, 0, 898), 
  (36, .ifCond .ne 5, 3, 0, 0, 0, 0), (39, .iconst 0, 1, 0, 0, 0, 0), (40, .ireturn, 1, 0, 0, 1, 0), (41, .aload_n 0, 1, 0, 0, 0, 0), (42, .getfield 12, 3, 4, 0, 2, 270), 
  (45, .getfield 118, 3, 6, 0, 2, 249), (48, .getfield 145, 3, 1, 3, 2, 190), (51, .aload_n 0, 1, 0, 0, 0, 0), (52, .getfield 110, 3, 4, 9, 0, 282), (55, .iload_n 1, 1, 0, 0, 0, 0), 
  (56, .iastore, 1, 0, 0, 0, 0), (57, .aload_n 0, 1, 0, 0, 0, 0), (58, .getfield 12, 3, 4, 0, 2, 270), (61, .getfield 118, 3, 6, 0, 2, 249), (64, .getfield 149, 3, 1, 4, 2, 195), 
  (67, .aload_n 0, 1, 0, 0, 0, 0), (68, .getfield 110, 3, 4, 9, 0, 282), (71, .aload_n 0, 1, 0, 0, 0, 0), (72, .getfield 98, 3, 4, 10, 0, 283), (75, .iastore, 1, 0, 0, 0, 0), 
  (76, .iconst 1, 1, 0, 0, 0, 0), (77, .ireturn, 1, 0, 0, 1, 0)]
/-- DropSwitch$Reader readRule ()Z -/
noncomputable def cd_42 : List (Nat × Ent) := [
  (0, .aload_n 0, 1, 0, 0, 0, 0), (1, .getfield 12, 3, 4, 0, 2, 270), (4, .getfield 152, 3, 6, 2, 0, 253), (7, .bipush 8, 2, 0, 0, 0, 0), (9, .if_icmp .lt 9, 3, 0, 0, 0, 0), 
  (12, .aload_n 0, 1, 0, 0, 0, 0), (13, .iconst 4, 1, 0, 0, 0, 0), (14, .invokevirtual 94, 3, 33, 2, 0, 886), (17, .ireturn, 1, 0, 0, 1, 0), (18, .aload_n 0, 1, 0, 0, 0, 0), 
  (19, .ldc 67, 2, 3, 0, 0, 912), (21, .invokevirtual 52, 3, 34, 2, 0, 830), (24, .istore_n 1, 1, 0, 0, 0, 0), (25, .aload_n 0, 1, 0, 0, 0, 0), 
  (26, .invokevirtual 44, 3, 32, 1, 0, 825), (29, .aload_n 0, 1, 0, 0, 0, 0), (30, .ldc 155, 2, 4, 0, 0, 917), (32, .invokevirtual 52, 3, 34, 2, 0, 830), 
  (35, .ifCond .ne 9, 3, 0, 0, 0, 0), (38, .aload_n 0, 1, 0, 0, 0, 0), (39, .iconst 1, 1, 0, 0, 0, 0), (40, .invokevirtual 94, 3, 33, 2, 0, 886), (43, .ireturn, 1, 0, 0, 1, 0), 
  (44, .aload_n 0, 1, 0, 0, 0, 0), (45, .invokevirtual 44, 3, 32, 1, 0, 825), (48, .aload_n 0, 1, 0, 0, 0, 0), (49, .iconst 0, 1, 0, 0, 0, 0), 
  (50, .invokevirtual 157, 3, 43, 2, 0, 918), (53, .ifCond .ne 5, 3, 0, 0, 0, 0), (56, .iconst 0, 1, 0, 0, 0, 0), (57, .ireturn, 1, 0, 0, 1, 0), (58, .aload_n 0, 1, 0, 0, 0, 0), 
  (59, .getfield 12, 3, 4, 0, 2, 270), (62, .iload_n 1, 1, 0, 0, 0, 0), (63, .invokevirtual 160, 3, 71, 2, 0, 958), (66, .iconst 1, 1, 0, 0, 0, 0), (67, .ireturn, 1, 0, 0, 1, 0)]
/-- DropSwitch$Reader readCondition (I)Z -/
noncomputable def cd_43 : List (Nat × Ent) := [
  (0, .aload_n 0, 1, 0, 0, 0, 0), (1, .iload_n 1, 1, 0, 0, 0, 0), (2, .invokevirtual 164, 3, 44, 2, 0, 922), (5, .ifCond .ne 5, 3, 0, 0, 0, 0), (8, .iconst 0, 1, 0, 0, 0, 0), 
  (9, .ireturn, 1, 0, 0, 1, 0), (10, .iconst 0, 1, 0, 0, 0, 0), (11, .istore_n 2, 1, 0, 0, 0, 0), (12, .iload_n 2, 1, 0, 0, 0, 0), (13, .aload_n 0, 1, 0, 0, 0, 0), 
  (14, .getfield 35, 3, 4, 4, 0, 277), (17, .if_icmp .ge 41, 3, 0, 0, 0, 0), (20, .aload_n 0, 1, 0, 0, 0, 0), (21, .ldc 167, 2, 13, 0, 0, 957), 
  (23, .invokevirtual 52, 3, 34, 2, 0, 830), (26, .ifCond .eq 32, 3, 0, 0, 0, 0), (29, .aload_n 0, 1, 0, 0, 0, 0), (30, .invokevirtual 44, 3, 32, 1, 0, 825), 
  (33, .aload_n 0, 1, 0, 0, 0, 0), (34, .iload_n 1, 1, 0, 0, 0, 0), (35, .invokevirtual 164, 3, 44, 2, 0, 922), (38, .ifCond .ne 5, 3, 0, 0, 0, 0), (41, .iconst 0, 1, 0, 0, 0, 0), 
  (42, .ireturn, 1, 0, 0, 1, 0), (43, .aload_n 0, 1, 0, 0, 0, 0), (44, .getfield 12, 3, 4, 0, 2, 270), (47, .iconst 2, 1, 0, 0, 0, 0), (48, .iconst 0, 1, 0, 0, 0, 0), 
  (49, .invokevirtual 169, 3, 70, 3, 0, 939), (52, .iinc 2 1, 3, 0, 0, 0, 0), (55, .goto (-43), 3, 0, 0, 0, 0), (58, .iconst 1, 1, 0, 0, 0, 0), (59, .ireturn, 1, 0, 0, 1, 0)]
/-- DropSwitch$Reader readAll (I)Z -/
noncomputable def cd_44 : List (Nat × Ent) := [
  (0, .aload_n 0, 1, 0, 0, 0, 0), (1, .iload_n 1, 1, 0, 0, 0, 0), (2, .invokevirtual 173, 3, 45, 2, 0, 926), (5, .ifCond .ne 5, 3, 0, 0, 0, 0), (8, .iconst 0, 1, 0, 0, 0, 0), 
  (9, .ireturn, 1, 0, 0, 1, 0), (10, .iconst 0, 1, 0, 0, 0, 0), (11, .istore_n 2, 1, 0, 0, 0, 0), (12, .iload_n 2, 1, 0, 0, 0, 0), (13, .aload_n 0, 1, 0, 0, 0, 0), 
  (14, .getfield 35, 3, 4, 4, 0, 277), (17, .if_icmp .ge 41, 3, 0, 0, 0, 0), (20, .aload_n 0, 1, 0, 0, 0, 0), (21, .ldc 176, 2, 12, 0, 0, 956), 
  (23, .invokevirtual 52, 3, 34, 2, 0, 830), (26, .ifCond .eq 32, 3, 0, 0, 0, 0), (29, .aload_n 0, 1, 0, 0, 0, 0), (30, .invokevirtual 44, 3, 32, 1, 0, 825), 
  (33, .aload_n 0, 1, 0, 0, 0, 0), (34, .iload_n 1, 1, 0, 0, 0, 0), (35, .invokevirtual 173, 3, 45, 2, 0, 926), (38, .ifCond .ne 5, 3, 0, 0, 0, 0), (41, .iconst 0, 1, 0, 0, 0, 0), 
  (42, .ireturn, 1, 0, 0, 1, 0), (43, .aload_n 0, 1, 0, 0, 0, 0), (44, .getfield 12, 3, 4, 0, 2, 270), (47, .iconst 1, 1, 0, 0, 0, 0), (48, .iconst 0, 1, 0, 0, 0, 0), 
  (49, .invokevirtual 169, 3, 70, 3, 0, 939), (52, .iinc 2 1, 3, 0, 0, 0, 0), (55, .goto (-43), 3, 0, 0, 0, 0), (58, .iconst 1, 1, 0, 0, 0, 0), (59, .ireturn, 1, 0, 0, 1, 0)]
/-- DropSwitch$Reader readAtom (I)Z -/
noncomputable def cd_45 : List (Nat × Ent) := [
  (0, .aload_n 0, 1, 0, 0, 0, 0), (1, .ldc 178, 2, 5, 0, 0, 930), (3, .invokevirtual 52, 3, 34, 2, 0, 830), (6, .ifCond .ne 12, 3, 0, 0, 0, 0), (9, .aload_n 0, 1, 0, 0, 0, 0), 
  (10, .bipush 40, 2, 0, 0, 0, 0), (12, .invokevirtual 91, 3, 35, 2, 0, 931), (15, .ifCond .eq 9, 3, 0, 0, 0, 0), (18, .aload_n 0, 1, 0, 0, 0, 0), (19, .iload_n 1, 1, 0, 0, 0, 0), 
  (20, .invokevirtual 180, 3, 47, 2, 0, 935), (23, .ireturn, 1, 0, 0, 1, 0), (24, .aload_n 0, 1, 0, 0, 0, 0), (25, .invokevirtual 183, 3, 46, 1, 0, 943), 
  (28, .istore_n 2, 1, 0, 0, 0, 0), (29, .iload_n 2, 1, 0, 0, 0, 0), (30, .iconst (-1), 1, 0, 0, 0, 0), (31, .if_icmp .ne 9, 3, 0, 0, 0, 0), (34, .aload_n 0, 1, 0, 0, 0, 0), 
  (35, .iconst 1, 1, 0, 0, 0, 0), (36, .invokevirtual 94, 3, 33, 2, 0, 886), (39, .ireturn, 1, 0, 0, 1, 0), (40, .aload_n 0, 1, 0, 0, 0, 0), (41, .invokevirtual 44, 3, 32, 1, 0, 825), 
  (44, .iconst 0, 1, 0, 0, 0, 0), (45, .istore_n 3, 1, 0, 0, 0, 0), (46, .iload_n 2, 1, 0, 0, 0, 0), (47, .iconst 4, 1, 0, 0, 0, 0), (48, .if_icmp .ne 21, 3, 0, 0, 0, 0), 
  (51, .aload_n 0, 1, 0, 0, 0, 0), (52, .iconst 0, 1, 0, 0, 0, 0), (53, .invokevirtual 137, 3, 38, 2, 0, 890), (56, .ifCond .ne 5, 3, 0, 0, 0, 0), (59, .iconst 0, 1, 0, 0, 0, 0), 
  (60, .ireturn, 1, 0, 0, 1, 0), (61, .aload_n 0, 1, 0, 0, 0, 0), (62, .getfield 110, 3, 4, 9, 0, 282), (65, .istore_n 3, 1, 0, 0, 0, 0), (66, .goto 84, 3, 0, 0, 0, 0), 
  (69, .iload_n 2, 1, 0, 0, 0, 0), (70, .iconst 3, 1, 0, 0, 0, 0), (71, .if_icmp .eq 79, 3, 0, 0, 0, 0), (74, .aload_n 0, 1, 0, 0, 0, 0), (75, .bipush 60, 2, 0, 0, 0, 0), 
  (77, .invokevirtual 91, 3, 35, 2, 0, 931), (80, .ifCond .eq 7, 3, 0, 0, 0, 0), (83, .iconst (-1), 1, 0, 0, 0, 0), (84, .goto 17, 3, 0, 0, 0, 0), (87, .aload_n 0, 1, 0, 0, 0, 0), 
  (88, .bipush 62, 2, 0, 0, 0, 0), (90, .invokevirtual 91, 3, 35, 2, 0, 931), (93, .ifCond .eq 7, 3, 0, 0, 0, 0), (96, .iconst 1, 1, 0, 0, 0, 0), (97, .goto 4, 3, 0, 0, 0, 0), 
  (100, .iconst 0, 1, 0, 0, 0, 0), (101, .istore 4, 2, 0, 0, 0, 0), (103, .iload 4, 2, 0, 0, 0, 0), (105, .ifCond .ne 18, 3, 0, 0, 0, 0), (108, .aload_n 0, 1, 0, 0, 0, 0), 
  (109, .bipush 61, 2, 0, 0, 0, 0), (111, .invokevirtual 91, 3, 35, 2, 0, 931), (114, .ifCond .ne 9, 3, 0, 0, 0, 0), (117, .aload_n 0, 1, 0, 0, 0, 0), (118, .iconst 1, 1, 0, 0, 0, 0), 
  (119, .invokevirtual 94, 3, 33, 2, 0, 886), (122, .ireturn, 1, 0, 0, 1, 0), (123, .aload_n 0, 1, 0, 0, 0, 0), (124, .invokevirtual 44, 3, 32, 1, 0, 825), 
  (127, .aload_n 0, 1, 0, 0, 0, 0), (128, .iconst 0, 1, 0, 0, 0, 0), (129, .sipush 999, 3, 0, 0, 0, 0), (132, .invokevirtual 114, 3, 37, 3, 0, 898), 
  (135, .ifCond .ne 5, 3, 0, 0, 0, 0), (138, .iconst 0, 1, 0, 0, 0, 0), (139, .ireturn, 1, 0, 0, 1, 0), (140, .iload 4, 2, 0, 0, 0, 0), (142, .aload_n 0, 1, 0, 0, 0, 0), 
  (143, .getfield 98, 3, 4, 10, 0, 283), (146, .invokestatic 186, 3, 75, 2, 1, 953), (149, .istore_n 3, 1, 0, 0, 0, 0), (150, .aload_n 0, 1, 0, 0, 0, 0), 
  (151, .getfield 12, 3, 4, 0, 2, 270), (154, .iload_n 2, 1, 0, 0, 0, 0), (155, .iload_n 3, 1, 0, 0, 0, 0), (156, .invokevirtual 169, 3, 70, 3, 0, 939), 
  (159, .iconst 1, 1, 0, 0, 0, 0), (160, .ireturn, 1, 0, 0, 1, 0)]
/-- DropSwitch$Reader atomKind ()I -/
noncomputable def cd_46 : List (Nat × Ent) := [
  (0, .aload_n 0, 1, 0, 0, 0, 0), (1, .ldc 189, 2, 6, 0, 0, 947), (3, .invokevirtual 52, 3, 34, 2, 0, 830), (6, .ifCond .eq 7, 3, 0, 0, 0, 0), (9, .iconst 3, 1, 0, 0, 0, 0), 
  (10, .goto 72, 3, 0, 0, 0, 0), (13, .aload_n 0, 1, 0, 0, 0, 0), (14, .ldc 191, 2, 7, 0, 0, 948), (16, .invokevirtual 52, 3, 34, 2, 0, 830), (19, .ifCond .eq 7, 3, 0, 0, 0, 0), 
  (22, .iconst 4, 1, 0, 0, 0, 0), (23, .goto 59, 3, 0, 0, 0, 0), (26, .aload_n 0, 1, 0, 0, 0, 0), (27, .ldc 192, 2, 8, 0, 0, 949), (29, .invokevirtual 52, 3, 34, 2, 0, 830), 
  (32, .ifCond .eq 7, 3, 0, 0, 0, 0), (35, .iconst 5, 1, 0, 0, 0, 0), (36, .goto 46, 3, 0, 0, 0, 0), (39, .aload_n 0, 1, 0, 0, 0, 0), (40, .ldc 194, 2, 9, 0, 0, 950), 
  (42, .invokevirtual 52, 3, 34, 2, 0, 830), (45, .ifCond .eq 8, 3, 0, 0, 0, 0), (48, .bipush 6, 2, 0, 0, 0, 0), (50, .goto 32, 3, 0, 0, 0, 0), (53, .aload_n 0, 1, 0, 0, 0, 0), 
  (54, .ldc 196, 2, 10, 0, 0, 951), (56, .invokevirtual 52, 3, 34, 2, 0, 830), (59, .ifCond .eq 8, 3, 0, 0, 0, 0), (62, .bipush 7, 2, 0, 0, 0, 0), (64, .goto 18, 3, 0, 0, 0, 0), 
  (67, .aload_n 0, 1, 0, 0, 0, 0), (68, .ldc 198, 2, 11, 0, 0, 952), (70, .invokevirtual 52, 3, 34, 2, 0, 830), (73, .ifCond .eq 8, 3, 0, 0, 0, 0), (76, .bipush 8, 2, 0, 0, 0, 0), 
  (78, .goto 4, 3, 0, 0, 0, 0), (81, .iconst (-1), 1, 0, 0, 0, 0), (82, .ireturn, 1, 0, 0, 0, 0)]
/-- DropSwitch$Reader readNested (I)Z -/
noncomputable def cd_47 : List (Nat × Ent) := [
  (0, .iload_n 1, 1, 0, 0, 0, 0), (1, .iconst 5, 1, 0, 0, 0, 0), (2, .if_icmp .lt 9, 3, 0, 0, 0, 0), (5, .aload_n 0, 1, 0, 0, 0, 0), (6, .iconst 4, 1, 0, 0, 0, 0), 
  (7, .invokevirtual 94, 3, 33, 2, 0, 886), (10, .ireturn, 1, 0, 0, 1, 0), (11, .aload_n 0, 1, 0, 0, 0, 0), (12, .ldc 178, 2, 5, 0, 0, 930), (14, .invokevirtual 52, 3, 34, 2, 0, 830), 
  (17, .istore_n 2, 1, 0, 0, 0, 0), (18, .aload_n 0, 1, 0, 0, 0, 0), (19, .invokevirtual 44, 3, 32, 1, 0, 825), (22, .iload_n 2, 1, 0, 0, 0, 0), (23, .ifCond .eq 26, 3, 0, 0, 0, 0), 
  (26, .aload_n 0, 1, 0, 0, 0, 0), (27, .iload_n 1, 1, 0, 0, 0, 0), (28, .iconst 1, 1, 0, 0, 0, 0), (29, .iadd, 1, 0, 0, 0, 0), (30, .invokevirtual 173, 3, 45, 2, 0, 926), 
  (33, .ifCond .ne 5, 3, 0, 0, 0, 0), (36, .iconst 0, 1, 0, 0, 0, 0), (37, .ireturn, 1, 0, 0, 1, 0), (38, .aload_n 0, 1, 0, 0, 0, 0), (39, .getfield 12, 3, 4, 0, 2, 270), 
  (42, .iconst 0, 1, 0, 0, 0, 0), (43, .iconst 0, 1, 0, 0, 0, 0), (44, .invokevirtual 169, 3, 70, 3, 0, 939), (47, .iconst 1, 1, 0, 0, 0, 0), (48, .ireturn, 1, 0, 0, 1, 0), 
  (49, .aload_n 0, 1, 0, 0, 0, 0), (50, .iload_n 1, 1, 0, 0, 0, 0), (51, .iconst 1, 1, 0, 0, 0, 0), (52, .iadd, 1, 0, 0, 0, 0), (53, .invokevirtual 157, 3, 43, 2, 0, 918), 
  (56, .ifCond .ne 5, 3, 0, 0, 0, 0), (59, .iconst 0, 1, 0, 0, 0, 0), (60, .ireturn, 1, 0, 0, 1, 0), (61, .aload_n 0, 1, 0, 0, 0, 0), (62, .bipush 41, 2, 0, 0, 0, 0), 
  (64, .invokevirtual 91, 3, 35, 2, 0, 931), (67, .ifCond .ne 9, 3, 0, 0, 0, 0), (70, .aload_n 0, 1, 0, 0, 0, 0), (71, .iconst 1, 1, 0, 0, 0, 0), 
  (72, .invokevirtual 94, 3, 33, 2, 0, 886), (75, .ireturn, 1, 0, 0, 1, 0), (76, .aload_n 0, 1, 0, 0, 0, 0), (77, .invokevirtual 44, 3, 32, 1, 0, 825), (80, .iconst 1, 1, 0, 0, 0, 0), 
  (81, .ireturn, 1, 0, 0, 1, 0)]
/-- DropSwitch$Run <init> (LDropSwitch$History;)V -/
noncomputable def cd_48 : List (Nat × Ent) := [
  (0, .aload_n 0, 1, 0, 0, 0, 0), (1, .invokespecial 3, 3, 0, 1, 4, 372), (4, .aload_n 0, 1, 0, 0, 0, 0), (5, .new 9, 3, 1, 10, 0, 373), (8, .dup, 1, 0, 0, 0, 0), 
  (9, .invokespecial 11, 3, 7, 1, 3, 374), (12, .putfield 12, 3, 5, 0, 12, 446), (15, .aload_n 0, 1, 0, 0, 0, 0), (16, .new 18, 3, 7, 9, 0, 375), (19, .dup, 1, 0, 0, 0, 0), 
  (20, .invokespecial 20, 3, 77, 1, 3, 377), (23, .putfield 21, 3, 5, 1, 12, 448), (26, .aload_n 0, 1, 0, 0, 0, 0), (27, .new 25, 3, 3, 6, 0, 418), (30, .dup, 1, 0, 0, 0, 0), 
  (31, .invokespecial 27, 3, 17, 1, 3, 420), (34, .putfield 28, 3, 5, 2, 12, 450), (37, .aload_n 0, 1, 0, 0, 0, 0), (38, .aload_n 1, 1, 0, 0, 0, 0), 
  (39, .putfield 32, 3, 5, 3, 12, 452), (42, .return_, 1, 0, 0, 0, 0)]
/-- DropSwitch$Run start ()V -/
noncomputable def cd_49 : List (Nat × Ent) := [
  (0, .aload_n 0, 1, 0, 0, 0, 0), (1, .getfield 21, 3, 5, 1, 2, 448), (4, .aload_n 0, 1, 0, 0, 0, 0), (5, .getfield 12, 3, 5, 0, 2, 446), (8, .invokevirtual 36, 3, 78, 2, 0, 523), 
  (11, .aload_n 0, 1, 0, 0, 0, 0), (12, .getfield 28, 3, 5, 2, 2, 450), (15, .invokevirtual 40, 3, 18, 1, 0, 528), (18, .return_, 1, 0, 0, 0, 0)]
/-- DropSwitch$Run startAt (LDropSwitch$State;)V -/
noncomputable def cd_50 : List (Nat × Ent) := [
  (0, .aload_n 0, 1, 0, 0, 0, 0), (1, .getfield 21, 3, 5, 1, 2, 448), (4, .aload_n 1, 1, 0, 0, 0, 0), (5, .invokevirtual 43, 3, 79, 2, 0, 1342), (8, .aload_n 0, 1, 0, 0, 0, 0), 
  (9, .getfield 28, 3, 5, 2, 2, 450), (12, .invokevirtual 40, 3, 18, 1, 0, 528), (15, .return_, 1, 0, 0, 0, 0)]
/-- DropSwitch$Run happen (I)I -/
noncomputable def cd_51 : List (Nat × Ent) := [
  (0, .aload_n 0, 1, 0, 0, 0, 0), (1, .iload_n 1, 1, 0, 0, 0, 0), (2, .putfield 47, 3, 5, 4, 0, 453), (5, .aload_n 0, 1, 0, 0, 0, 0), (6, .getfield 32, 3, 5, 3, 2, 452), 
  (9, .getfield 51, 3, 0, 3, 2, 323), (12, .iload_n 1, 1, 0, 0, 0, 0), (13, .iaload, 1, 0, 0, 0, 0), (14, .istore_n 2, 1, 0, 0, 0, 0), (15, .aload_n 0, 1, 0, 0, 0, 0), 
  (16, .getfield 32, 3, 5, 3, 2, 452), (19, .getfield 57, 3, 0, 2, 2, 320), (22, .iload_n 1, 1, 0, 0, 0, 0), (23, .iaload, 1, 0, 0, 0, 0), 
  (24, .tableswitch 68 0 2 #[28, 46, 54], 28, 0, 0, 0, 0), (52, .aload_n 0, 1, 0, 0, 0, 0), (53, .aload_n 0, 1, 0, 0, 0, 0), (54, .getfield 32, 3, 5, 3, 2, 452), 
  (57, .getfield 60, 3, 0, 4, 2, 325), (60, .iload_n 1, 1, 0, 0, 0, 0), (61, .iaload, 1, 0, 0, 0, 0), (62, .iload_n 2, 1, 0, 0, 0, 0), (63, .invokevirtual 63, 3, 52, 3, 0, 654), 
  (66, .istore_n 3, 1, 0, 0, 0, 0), (67, .goto 31, 3, 0, 0, 0, 0), (70, .aload_n 0, 1, 0, 0, 0, 0), (71, .invokevirtual 67, 3, 61, 1, 0, 740), (74, .istore_n 3, 1, 0, 0, 0, 0), 
  (75, .goto 23, 3, 0, 0, 0, 0), (78, .aload_n 0, 1, 0, 0, 0, 0), (79, .getfield 21, 3, 5, 1, 2, 448), (82, .iload_n 2, 1, 0, 0, 0, 0), (83, .iconst 1, 1, 0, 0, 0, 0), 
  (84, .invokevirtual 71, 3, 81, 3, 0, 767), (87, .iconst 0, 1, 0, 0, 0, 0), (88, .istore_n 3, 1, 0, 0, 0, 0), (89, .goto 9, 3, 0, 0, 0, 0), (92, .aload_n 0, 1, 0, 0, 0, 0), 
  (93, .iload_n 2, 1, 0, 0, 0, 0), (94, .invokevirtual 75, 3, 64, 2, 0, 771), (97, .istore_n 3, 1, 0, 0, 0, 0), (98, .aload_n 0, 1, 0, 0, 0, 0), (99, .getfield 28, 3, 5, 2, 2, 450), 
  (102, .iload_n 1, 1, 0, 0, 0, 0), (103, .aload_n 0, 1, 0, 0, 0, 0), (104, .getfield 21, 3, 5, 1, 2, 448), (107, .invokevirtual 79, 3, 23, 3, 0, 779), 
  (110, .iload_n 3, 1, 0, 0, 0, 0), (111, .ireturn, 1, 0, 0, 0, 0)]
/-- DropSwitch$Run takeIn (II)I -/
noncomputable def cd_52 : List (Nat × Ent) := [
  (0, .aload_n 0, 1, 0, 0, 0, 0), (1, .getfield 21, 3, 5, 1, 2, 448), (4, .iload_n 2, 1, 0, 0, 0, 0), (5, .invokevirtual 83, 3, 80, 2, 0, 658), (8, .ifCond .ne 11, 3, 0, 0, 0, 0), 
  (11, .aload_n 0, 1, 0, 0, 0, 0), (12, .iload_n 1, 1, 0, 0, 0, 0), (13, .iconst 1, 1, 0, 0, 0, 0), (14, .iconst (-1), 1, 0, 0, 0, 0), (15, .invokevirtual 87, 3, 53, 4, 0, 662), 
  (18, .ireturn, 1, 0, 0, 0, 0), (19, .aload_n 0, 1, 0, 0, 0, 0), (20, .iload_n 1, 1, 0, 0, 0, 0), (21, .invokevirtual 91, 3, 54, 2, 0, 674), (24, .istore_n 3, 1, 0, 0, 0, 0), 
  (25, .iload_n 3, 1, 0, 0, 0, 0), (26, .iconst (-1), 1, 0, 0, 0, 0), (27, .if_icmp .eq 22, 3, 0, 0, 0, 0), (30, .aload_n 0, 1, 0, 0, 0, 0), (31, .getfield 12, 3, 5, 0, 2, 446), 
  (34, .iload_n 3, 1, 0, 0, 0, 0), (35, .invokevirtual 94, 3, 11, 2, 0, 678), (38, .ifCond .eq 11, 3, 0, 0, 0, 0), (41, .aload_n 0, 1, 0, 0, 0, 0), (42, .iload_n 1, 1, 0, 0, 0, 0), 
  (43, .iconst 2, 1, 0, 0, 0, 0), (44, .iload_n 3, 1, 0, 0, 0, 0), (45, .invokevirtual 87, 3, 53, 4, 0, 662), (48, .ireturn, 1, 0, 0, 0, 0), (49, .aload_n 0, 1, 0, 0, 0, 0), 
  (50, .getfield 12, 3, 5, 0, 2, 446), (53, .iload_n 2, 1, 0, 0, 0, 0), (54, .invokevirtual 97, 3, 10, 2, 0, 682), (57, .ifCond .eq 30, 3, 0, 0, 0, 0), 
  (60, .aload_n 0, 1, 0, 0, 0, 0), (61, .getfield 21, 3, 5, 1, 2, 448), (64, .iload_n 2, 1, 0, 0, 0, 0), (65, .aload_n 0, 1, 0, 0, 0, 0), (66, .getfield 32, 3, 5, 3, 2, 452), 
  (69, .iload_n 1, 1, 0, 0, 0, 0), (70, .invokevirtual 100, 3, 5, 2, 0, 686), (73, .invokevirtual 103, 3, 82, 3, 0, 690), (76, .ifCond .ne 11, 3, 0, 0, 0, 0), 
  (79, .aload_n 0, 1, 0, 0, 0, 0), (80, .iload_n 1, 1, 0, 0, 0, 0), (81, .iconst 3, 1, 0, 0, 0, 0), (82, .iconst (-1), 1, 0, 0, 0, 0), (83, .invokevirtual 87, 3, 53, 4, 0, 662), 
  (86, .ireturn, 1, 0, 0, 0, 0), (87, .aload_n 0, 1, 0, 0, 0, 0), (88, .getfield 21, 3, 5, 1, 2, 448), (91, .aload_n 0, 1, 0, 0, 0, 0), (92, .getfield 32, 3, 5, 3, 2, 452), 
  (95, .getfield 107, 3, 0, 6, 2, 330), (98, .iload_n 1, 1, 0, 0, 0, 0), (99, .iaload, 1, 0, 0, 0, 0), (100, .iload_n 2, 1, 0, 0, 0, 0), (101, .invokevirtual 110, 3, 88, 3, 0, 694), 
  (104, .aload_n 0, 1, 0, 0, 0, 0), (105, .iload_n 1, 1, 0, 0, 0, 0), (106, .iload_n 2, 1, 0, 0, 0, 0), (107, .invokevirtual 114, 3, 55, 3, 0, 698), (110, .istore 4, 2, 0, 0, 0, 0), 
  (112, .iload 4, 2, 0, 0, 0, 0), (114, .iconst 1, 1, 0, 0, 0, 0), (115, .iload_n 2, 1, 0, 0, 0, 0), (116, .ishl, 1, 0, 0, 0, 0), (117, .if_icmp .ne 11, 3, 0, 0, 0, 0), 
  (120, .aload_n 0, 1, 0, 0, 0, 0), (121, .iload_n 1, 1, 0, 0, 0, 0), (122, .iconst 4, 1, 0, 0, 0, 0), (123, .iconst (-1), 1, 0, 0, 0, 0), (124, .invokevirtual 87, 3, 53, 4, 0, 662), 
  (127, .ireturn, 1, 0, 0, 0, 0), (128, .iload 4, 2, 0, 0, 0, 0), (130, .ifCond .ne 11, 3, 0, 0, 0, 0), (133, .aload_n 0, 1, 0, 0, 0, 0), (134, .iload_n 1, 1, 0, 0, 0, 0), 
  (135, .iconst 5, 1, 0, 0, 0, 0), (136, .iconst (-1), 1, 0, 0, 0, 0), (137, .invokevirtual 87, 3, 53, 4, 0, 662), (140, .ireturn, 1, 0, 0, 0, 0), (141, .iconst 0, 1, 0, 0, 0, 0), 
  (142, .istore 5, 2, 0, 0, 0, 0), (144, .iconst 0, 1, 0, 0, 0, 0), (145, .istore 6, 2, 0, 0, 0, 0), (147, .iload 6, 2, 0, 0, 0, 0), (149, .aload_n 0, 1, 0, 0, 0, 0), 
  (150, .getfield 12, 3, 5, 0, 2, 446), (153, .getfield 117, 3, 1, 0, 0, 178), (156, .if_icmp .ge 31, 3, 0, 0, 0, 0), (159, .iload 4, 2, 0, 0, 0, 0), (161, .iload 6, 2, 0, 0, 0, 0), 
  (163, .ishr, 1, 0, 0, 0, 0), (164, .iconst 1, 1, 0, 0, 0, 0), (165, .iand, 1, 0, 0, 0, 0), (166, .ifCond .eq 15, 3, 0, 0, 0, 0), (169, .iload 5, 2, 0, 0, 0, 0), 
  (171, .aload_n 0, 1, 0, 0, 0, 0), (172, .iload_n 1, 1, 0, 0, 0, 0), (173, .iload 6, 2, 0, 0, 0, 0), (175, .invokevirtual 120, 3, 56, 3, 0, 703), (178, .iadd, 1, 0, 0, 0, 0), 
  (179, .istore 5, 2, 0, 0, 0, 0), (181, .iinc 6 1, 3, 0, 0, 0, 0), (184, .goto (-37), 3, 0, 0, 0, 0), (187, .iload 5, 2, 0, 0, 0, 0), (189, .ireturn, 1, 0, 0, 0, 0)]
/-- DropSwitch$Run refuse (III)I -/
noncomputable def cd_53 : List (Nat × Ent) := [
  (0, .aload_n 0, 1, 0, 0, 0, 0), (1, .getfield 28, 3, 5, 2, 2, 450), (4, .aload_n 0, 1, 0, 0, 0, 0), (5, .getfield 47, 3, 5, 4, 0, 453), (8, .iload_n 1, 1, 0, 0, 0, 0), 
  (9, .iconst (-1), 1, 0, 0, 0, 0), (10, .iload_n 2, 1, 0, 0, 0, 0), (11, .iload_n 3, 1, 0, 0, 0, 0), (12, .invokevirtual 123, 3, 19, 6, 0, 666), (15, .iconst 0, 1, 0, 0, 0, 0), 
  (16, .ireturn, 1, 0, 0, 0, 0)]
/-- DropSwitch$Run decidingRule (I)I -/
noncomputable def cd_54 : List (Nat × Ent) := [
  (0, .aload_n 0, 1, 0, 0, 0, 0), (1, .getfield 32, 3, 5, 3, 2, 452), (4, .getfield 127, 3, 0, 10, 2, 340), (7, .iload_n 1, 1, 0, 0, 0, 0), (8, .iaload, 1, 0, 0, 0, 0), 
  (9, .aload_n 0, 1, 0, 0, 0, 0), (10, .getfield 12, 3, 5, 0, 2, 446), (13, .getfield 130, 3, 1, 9, 0, 214), (16, .iconst (-1), 1, 0, 0, 0, 0), (17, .ixor, 1, 0, 0, 0, 0), 
  (18, .iand, 1, 0, 0, 0, 0), (19, .istore_n 2, 1, 0, 0, 0, 0), (20, .iconst 0, 1, 0, 0, 0, 0), (21, .istore_n 3, 1, 0, 0, 0, 0), (22, .iload_n 3, 1, 0, 0, 0, 0), 
  (23, .bipush 8, 2, 0, 0, 0, 0), (25, .if_icmp .ge 19, 3, 0, 0, 0, 0), (28, .iload_n 2, 1, 0, 0, 0, 0), (29, .iload_n 3, 1, 0, 0, 0, 0), (30, .ishr, 1, 0, 0, 0, 0), 
  (31, .iconst 1, 1, 0, 0, 0, 0), (32, .iand, 1, 0, 0, 0, 0), (33, .ifCond .eq 5, 3, 0, 0, 0, 0), (36, .iload_n 3, 1, 0, 0, 0, 0), (37, .ireturn, 1, 0, 0, 0, 0), 
  (38, .iinc 3 1, 3, 0, 0, 0, 0), (41, .goto (-19), 3, 0, 0, 0, 0), (44, .iconst (-1), 1, 0, 0, 0, 0), (45, .ireturn, 1, 0, 0, 0, 0)]
/-- DropSwitch$Run waysOut (II)I -/
noncomputable def cd_55 : List (Nat × Ent) := [
  (0, .aload_n 0, 1, 0, 0, 0, 0), (1, .getfield 21, 3, 5, 1, 2, 448), (4, .aload_n 0, 1, 0, 0, 0, 0), (5, .getfield 32, 3, 5, 3, 2, 452), (8, .getfield 133, 3, 0, 7, 2, 333), 
  (11, .iload_n 1, 1, 0, 0, 0, 0), (12, .iaload, 1, 0, 0, 0, 0), (13, .aload_n 0, 1, 0, 0, 0, 0), (14, .getfield 12, 3, 5, 0, 2, 446), (17, .getfield 136, 3, 1, 7, 0, 207), 
  (20, .invokevirtual 139, 3, 90, 3, 0, 702), (23, .istore_n 3, 1, 0, 0, 0, 0), (24, .iload_n 3, 1, 0, 0, 0, 0), (25, .iconst (-1), 1, 0, 0, 0, 0), 
  (26, .if_icmp .eq 7, 3, 0, 0, 0, 0), (29, .iconst 1, 1, 0, 0, 0, 0), (30, .iload_n 3, 1, 0, 0, 0, 0), (31, .ishl, 1, 0, 0, 0, 0), (32, .ireturn, 1, 0, 0, 0, 0), 
  (33, .iconst 0, 1, 0, 0, 0, 0), (34, .istore 4, 2, 0, 0, 0, 0), (36, .iconst 0, 1, 0, 0, 0, 0), (37, .istore 5, 2, 0, 0, 0, 0), (39, .iload 5, 2, 0, 0, 0, 0), 
  (41, .aload_n 0, 1, 0, 0, 0, 0), (42, .getfield 12, 3, 5, 0, 2, 446), (45, .getfield 117, 3, 1, 0, 0, 178), (48, .if_icmp .ge 36, 3, 0, 0, 0, 0), (51, .iload 5, 2, 0, 0, 0, 0), 
  (53, .iload_n 2, 1, 0, 0, 0, 0), (54, .if_icmp .eq 24, 3, 0, 0, 0, 0), (57, .aload_n 0, 1, 0, 0, 0, 0), (58, .getfield 21, 3, 5, 1, 2, 448), (61, .iload 5, 2, 0, 0, 0, 0), 
  (63, .invokevirtual 83, 3, 80, 2, 0, 658), (66, .ifCond .eq 12, 3, 0, 0, 0, 0), (69, .iload 4, 2, 0, 0, 0, 0), (71, .iconst 1, 1, 0, 0, 0, 0), (72, .iload 5, 2, 0, 0, 0, 0), 
  (74, .ishl, 1, 0, 0, 0, 0), (75, .ior, 1, 0, 0, 0, 0), (76, .istore 4, 2, 0, 0, 0, 0), (78, .iinc 5 1, 3, 0, 0, 0, 0), (81, .goto (-42), 3, 0, 0, 0, 0), 
  (84, .iload 4, 2, 0, 0, 0, 0), (86, .ireturn, 1, 0, 0, 0, 0)]
/-- DropSwitch$Run putCopy (II)I -/
noncomputable def cd_56 : List (Nat × Ent) := [
  (0, .aload_n 0, 1, 0, 0, 0, 0), (1, .getfield 32, 3, 5, 3, 2, 452), (4, .iload_n 1, 1, 0, 0, 0, 0), (5, .invokevirtual 100, 3, 5, 2, 0, 686), (8, .istore_n 3, 1, 0, 0, 0, 0), 
  (9, .aload_n 0, 1, 0, 0, 0, 0), (10, .getfield 21, 3, 5, 1, 2, 448), (13, .invokevirtual 142, 3, 83, 1, 0, 707), (16, .iload_n 3, 1, 0, 0, 0, 0), (17, .iadd, 1, 0, 0, 0, 0), 
  (18, .aload_n 0, 1, 0, 0, 0, 0), (19, .getfield 12, 3, 5, 0, 2, 446), (22, .getfield 145, 3, 1, 5, 0, 199), (25, .if_icmp .le 21, 3, 0, 0, 0, 0), (28, .aload_n 0, 1, 0, 0, 0, 0), 
  (29, .getfield 28, 3, 5, 2, 2, 450), (32, .aload_n 0, 1, 0, 0, 0, 0), (33, .getfield 47, 3, 5, 4, 0, 453), (36, .iload_n 1, 1, 0, 0, 0, 0), (37, .iload_n 2, 1, 0, 0, 0, 0), 
  (38, .bipush 6, 2, 0, 0, 0, 0), (40, .iconst (-1), 1, 0, 0, 0, 0), (41, .invokevirtual 123, 3, 19, 6, 0, 666), (44, .iconst 0, 1, 0, 0, 0, 0), (45, .ireturn, 1, 0, 0, 0, 0), 
  (46, .aload_n 0, 1, 0, 0, 0, 0), (47, .getfield 21, 3, 5, 1, 2, 448), (50, .getfield 148, 3, 7, 3, 2, 390), (53, .iload_n 2, 1, 0, 0, 0, 0), (54, .iaload, 1, 0, 0, 0, 0), 
  (55, .iload_n 3, 1, 0, 0, 0, 0), (56, .iadd, 1, 0, 0, 0, 0), (57, .aload_n 0, 1, 0, 0, 0, 0), (58, .getfield 12, 3, 5, 0, 2, 446), (61, .getfield 151, 3, 1, 1, 2, 183), 
  (64, .iload_n 2, 1, 0, 0, 0, 0), (65, .iaload, 1, 0, 0, 0, 0), (66, .isub, 1, 0, 0, 0, 0), (67, .istore 4, 2, 0, 0, 0, 0), (69, .iload 4, 2, 0, 0, 0, 0), 
  (71, .ifCond .le 39, 3, 0, 0, 0, 0), (74, .aload_n 0, 1, 0, 0, 0, 0), (75, .aload_n 0, 1, 0, 0, 0, 0), (76, .getfield 32, 3, 5, 3, 2, 452), (79, .iload_n 1, 1, 0, 0, 0, 0), 
  (80, .invokevirtual 154, 3, 6, 2, 0, 711), (83, .iload_n 2, 1, 0, 0, 0, 0), (84, .invokevirtual 157, 3, 57, 3, 0, 715), (87, .iload 4, 2, 0, 0, 0, 0), 
  (89, .if_icmp .ge 21, 3, 0, 0, 0, 0), (92, .aload_n 0, 1, 0, 0, 0, 0), (93, .getfield 28, 3, 5, 2, 2, 450), (96, .aload_n 0, 1, 0, 0, 0, 0), (97, .getfield 47, 3, 5, 4, 0, 453), 
  (100, .iload_n 1, 1, 0, 0, 0, 0), (101, .iload_n 2, 1, 0, 0, 0, 0), (102, .bipush 7, 2, 0, 0, 0, 0), (104, .iconst (-1), 1, 0, 0, 0, 0), (105, .invokevirtual 123, 3, 19, 6, 0, 666), 
  (108, .iconst 0, 1, 0, 0, 0, 0), (109, .ireturn, 1, 0, 0, 0, 0), (110, .aload_n 0, 1, 0, 0, 0, 0), (111, .getfield 21, 3, 5, 1, 2, 448), (114, .getfield 160, 3, 7, 4, 2, 393), 
  (117, .iload_n 2, 1, 0, 0, 0, 0), (118, .iaload, 1, 0, 0, 0, 0), (119, .istore 5, 2, 0, 0, 0, 0), (121, .iload 5, 2, 0, 0, 0, 0), (123, .ifCond .le 57, 3, 0, 0, 0, 0), 
  (126, .iload 4, 2, 0, 0, 0, 0), (128, .ifCond .le 52, 3, 0, 0, 0, 0), (131, .aload_n 0, 1, 0, 0, 0, 0), (132, .iload_n 2, 1, 0, 0, 0, 0), (133, .aload_n 0, 1, 0, 0, 0, 0), 
  (134, .iload_n 2, 1, 0, 0, 0, 0), (135, .invokevirtual 163, 3, 58, 2, 0, 723), (138, .invokevirtual 166, 3, 60, 3, 0, 727), (141, .istore 6, 2, 0, 0, 0, 0), 
  (143, .aload_n 0, 1, 0, 0, 0, 0), (144, .getfield 28, 3, 5, 2, 2, 450), (147, .aload_n 0, 1, 0, 0, 0, 0), (148, .getfield 47, 3, 5, 4, 0, 453), (151, .iload 6, 2, 0, 0, 0, 0), 
  (153, .iload_n 2, 1, 0, 0, 0, 0), (154, .bipush 8, 2, 0, 0, 0, 0), (156, .iload_n 1, 1, 0, 0, 0, 0), (157, .invokevirtual 123, 3, 19, 6, 0, 666), (160, .iload 4, 2, 0, 0, 0, 0), 
  (162, .aload_n 0, 1, 0, 0, 0, 0), (163, .getfield 32, 3, 5, 3, 2, 452), (166, .iload 6, 2, 0, 0, 0, 0), (168, .invokevirtual 100, 3, 5, 2, 0, 686), (171, .isub, 1, 0, 0, 0, 0), 
  (172, .istore 4, 2, 0, 0, 0, 0), (174, .iinc 5 (-1), 3, 0, 0, 0, 0), (177, .goto (-56), 3, 0, 0, 0, 0), (180, .aload_n 0, 1, 0, 0, 0, 0), (181, .getfield 21, 3, 5, 1, 2, 448), 
  (184, .iload_n 2, 1, 0, 0, 0, 0), (185, .iload_n 1, 1, 0, 0, 0, 0), (186, .iload_n 3, 1, 0, 0, 0, 0), (187, .invokevirtual 169, 3, 86, 4, 0, 735), (190, .aload_n 0, 1, 0, 0, 0, 0), 
  (191, .getfield 28, 3, 5, 2, 2, 450), (194, .iload_n 1, 1, 0, 0, 0, 0), (195, .iload_n 2, 1, 0, 0, 0, 0), (196, .iconst 1, 1, 0, 0, 0, 0), 
  (197, .invokevirtual 173, 3, 21, 4, 0, 739), (200, .iconst 1, 1, 0, 0, 0, 0), (201, .ireturn, 1, 0, 0, 0, 0)]
/-- DropSwitch$Run unitsBelow (II)I -/
noncomputable def cd_57 : List (Nat × Ent) := [
  (0, .iconst 0, 1, 0, 0, 0, 0), (1, .istore_n 3, 1, 0, 0, 0, 0), (2, .iconst 0, 1, 0, 0, 0, 0), (3, .istore 4, 2, 0, 0, 0, 0), (5, .iload 4, 2, 0, 0, 0, 0), 
  (7, .aload_n 0, 1, 0, 0, 0, 0), (8, .getfield 21, 3, 5, 1, 2, 448), (11, .getfield 160, 3, 7, 4, 2, 393), (14, .iload_n 2, 1, 0, 0, 0, 0), (15, .iaload, 1, 0, 0, 0, 0), 
  (16, .if_icmp .ge 46, 3, 0, 0, 0, 0), (19, .aload_n 0, 1, 0, 0, 0, 0), (20, .getfield 21, 3, 5, 1, 2, 448), (23, .iload_n 2, 1, 0, 0, 0, 0), (24, .iload 4, 2, 0, 0, 0, 0), 
  (26, .invokevirtual 176, 3, 84, 3, 0, 719), (29, .istore 5, 2, 0, 0, 0, 0), (31, .aload_n 0, 1, 0, 0, 0, 0), (32, .getfield 32, 3, 5, 3, 2, 452), (35, .iload 5, 2, 0, 0, 0, 0), 
  (37, .invokevirtual 154, 3, 6, 2, 0, 711), (40, .iload_n 1, 1, 0, 0, 0, 0), (41, .if_icmp .ge 15, 3, 0, 0, 0, 0), (44, .iload_n 3, 1, 0, 0, 0, 0), (45, .aload_n 0, 1, 0, 0, 0, 0), 
  (46, .getfield 32, 3, 5, 3, 2, 452), (49, .iload 5, 2, 0, 0, 0, 0), (51, .invokevirtual 100, 3, 5, 2, 0, 686), (54, .iadd, 1, 0, 0, 0, 0), (55, .istore_n 3, 1, 0, 0, 0, 0), 
  (56, .iinc 4 1, 3, 0, 0, 0, 0), (59, .goto (-54), 3, 0, 0, 0, 0), (62, .iload_n 3, 1, 0, 0, 0, 0), (63, .ireturn, 1, 0, 0, 0, 0)]
/-- DropSwitch$Run leastImportant (I)I -/
noncomputable def cd_58 : List (Nat × Ent) := [
  (0, .iconst 0, 1, 0, 0, 0, 0), (1, .istore_n 2, 1, 0, 0, 0, 0), (2, .iconst 3, 1, 0, 0, 0, 0), (3, .istore_n 3, 1, 0, 0, 0, 0), (4, .iconst 0, 1, 0, 0, 0, 0), 
  (5, .istore 4, 2, 0, 0, 0, 0), (7, .iload 4, 2, 0, 0, 0, 0), (9, .aload_n 0, 1, 0, 0, 0, 0), (10, .getfield 21, 3, 5, 1, 2, 448), (13, .getfield 160, 3, 7, 4, 2, 393), 
  (16, .iload_n 1, 1, 0, 0, 0, 0), (17, .iaload, 1, 0, 0, 0, 0), (18, .if_icmp .ge 40, 3, 0, 0, 0, 0), (21, .aload_n 0, 1, 0, 0, 0, 0), (22, .getfield 32, 3, 5, 3, 2, 452), 
  (25, .aload_n 0, 1, 0, 0, 0, 0), (26, .getfield 21, 3, 5, 1, 2, 448), (29, .iload_n 1, 1, 0, 0, 0, 0), (30, .iload 4, 2, 0, 0, 0, 0), (32, .invokevirtual 176, 3, 84, 3, 0, 719), 
  (35, .invokevirtual 154, 3, 6, 2, 0, 711), (38, .istore 5, 2, 0, 0, 0, 0), (40, .iload 5, 2, 0, 0, 0, 0), (42, .iload_n 3, 1, 0, 0, 0, 0), (43, .if_icmp .gt 9, 3, 0, 0, 0, 0), 
  (46, .iload 5, 2, 0, 0, 0, 0), (48, .istore_n 3, 1, 0, 0, 0, 0), (49, .iload 4, 2, 0, 0, 0, 0), (51, .istore_n 2, 1, 0, 0, 0, 0), (52, .iinc 4 1, 3, 0, 0, 0, 0), 
  (55, .goto (-48), 3, 0, 0, 0, 0), (58, .iload_n 2, 1, 0, 0, 0, 0), (59, .ireturn, 1, 0, 0, 0, 0)]
/-- DropSwitch$Run mostImportant (I)I -/
noncomputable def cd_59 : List (Nat × Ent) := [
  (0, .iconst 0, 1, 0, 0, 0, 0), (1, .istore_n 2, 1, 0, 0, 0, 0), (2, .iconst (-1), 1, 0, 0, 0, 0), (3, .istore_n 3, 1, 0, 0, 0, 0), (4, .iconst 0, 1, 0, 0, 0, 0), 
  (5, .istore 4, 2, 0, 0, 0, 0), (7, .iload 4, 2, 0, 0, 0, 0), (9, .aload_n 0, 1, 0, 0, 0, 0), (10, .getfield 21, 3, 5, 1, 2, 448), (13, .getfield 160, 3, 7, 4, 2, 393), 
  (16, .iload_n 1, 1, 0, 0, 0, 0), (17, .iaload, 1, 0, 0, 0, 0), (18, .if_icmp .ge 40, 3, 0, 0, 0, 0), (21, .aload_n 0, 1, 0, 0, 0, 0), (22, .getfield 32, 3, 5, 3, 2, 452), 
  (25, .aload_n 0, 1, 0, 0, 0, 0), (26, .getfield 21, 3, 5, 1, 2, 448), (29, .iload_n 1, 1, 0, 0, 0, 0), (30, .iload 4, 2, 0, 0, 0, 0), (32, .invokevirtual 176, 3, 84, 3, 0, 719), 
  (35, .invokevirtual 154, 3, 6, 2, 0, 711), (38, .istore 5, 2, 0, 0, 0, 0), (40, .iload 5, 2, 0, 0, 0, 0), (42, .iload_n 3, 1, 0, 0, 0, 0), (43, .if_icmp .le 9, 3, 0, 0, 0, 0), 
  (46, .iload 5, 2, 0, 0, 0, 0), (48, .istore_n 3, 1, 0, 0, 0, 0), (49, .iload 4, 2, 0, 0, 0, 0), (51, .istore_n 2, 1, 0, 0, 0, 0), (52, .iinc 4 1, 3, 0, 0, 0, 0), 
  (55, .goto (-48), 3, 0, 0, 0, 0), (58, .iload_n 2, 1, 0, 0, 0, 0), (59, .ireturn, 1, 0, 0, 0, 0)]
/-- DropSwitch$Run takeOut (II)I -/
noncomputable def cd_60 : List (Nat × Ent) := [
  (0, .aload_n 0, 1, 0, 0, 0, 0), (1, .getfield 21, 3, 5, 1, 2, 448), (4, .iload_n 1, 1, 0, 0, 0, 0), (5, .iload_n 2, 1, 0, 0, 0, 0), (6, .invokevirtual 176, 3, 84, 3, 0, 719), 
  (9, .istore_n 3, 1, 0, 0, 0, 0), (10, .aload_n 0, 1, 0, 0, 0, 0), (11, .getfield 21, 3, 5, 1, 2, 448), (14, .iload_n 1, 1, 0, 0, 0, 0), (15, .iload_n 2, 1, 0, 0, 0, 0), 
  (16, .aload_n 0, 1, 0, 0, 0, 0), (17, .getfield 32, 3, 5, 3, 2, 452), (20, .iload_n 3, 1, 0, 0, 0, 0), (21, .invokevirtual 100, 3, 5, 2, 0, 686), 
  (24, .invokevirtual 179, 3, 87, 4, 0, 731), (27, .iload_n 3, 1, 0, 0, 0, 0), (28, .ireturn, 1, 0, 0, 0, 0)]
/-- DropSwitch$Run passTick ()I -/
noncomputable def cd_61 : List (Nat × Ent) := [
  (0, .iconst 0, 1, 0, 0, 0, 0), (1, .istore_n 1, 1, 0, 0, 0, 0), (2, .iconst 0, 1, 0, 0, 0, 0), (3, .istore_n 2, 1, 0, 0, 0, 0), (4, .iload_n 2, 1, 0, 0, 0, 0), 
  (5, .aload_n 0, 1, 0, 0, 0, 0), (6, .getfield 12, 3, 5, 0, 2, 446), (9, .getfield 117, 3, 1, 0, 0, 178), (12, .if_icmp .ge 28, 3, 0, 0, 0, 0), (15, .aload_n 0, 1, 0, 0, 0, 0), 
  (16, .getfield 21, 3, 5, 1, 2, 448), (19, .iload_n 2, 1, 0, 0, 0, 0), (20, .invokevirtual 83, 3, 80, 2, 0, 658), (23, .ifCond .eq 11, 3, 0, 0, 0, 0), 
  (26, .iload_n 1, 1, 0, 0, 0, 0), (27, .aload_n 0, 1, 0, 0, 0, 0), (28, .iload_n 2, 1, 0, 0, 0, 0), (29, .invokevirtual 182, 3, 62, 2, 0, 744), (32, .iadd, 1, 0, 0, 0, 0), 
  (33, .istore_n 1, 1, 0, 0, 0, 0), (34, .iinc 2 1, 3, 0, 0, 0, 0), (37, .goto (-33), 3, 0, 0, 0, 0), (40, .iconst 0, 1, 0, 0, 0, 0), (41, .istore_n 2, 1, 0, 0, 0, 0), 
  (42, .iload_n 2, 1, 0, 0, 0, 0), (43, .aload_n 0, 1, 0, 0, 0, 0), (44, .getfield 12, 3, 5, 0, 2, 446), (47, .getfield 117, 3, 1, 0, 0, 178), (50, .if_icmp .ge 14, 3, 0, 0, 0, 0), 
  (53, .aload_n 0, 1, 0, 0, 0, 0), (54, .iload_n 2, 1, 0, 0, 0, 0), (55, .invokevirtual 185, 3, 63, 2, 0, 759), (58, .iinc 2 1, 3, 0, 0, 0, 0), (61, .goto (-19), 3, 0, 0, 0, 0), 
  (64, .iconst 0, 1, 0, 0, 0, 0), (65, .istore_n 2, 1, 0, 0, 0, 0), (66, .iload_n 2, 1, 0, 0, 0, 0), (67, .aload_n 0, 1, 0, 0, 0, 0), (68, .getfield 12, 3, 5, 0, 2, 446), 
  (71, .getfield 117, 3, 1, 0, 0, 178), (74, .if_icmp .ge 60, 3, 0, 0, 0, 0), (77, .aload_n 0, 1, 0, 0, 0, 0), (78, .getfield 12, 3, 5, 0, 2, 446), (81, .iload_n 2, 1, 0, 0, 0, 0), 
  (82, .invokevirtual 97, 3, 10, 2, 0, 682), (85, .ifCond .eq 43, 3, 0, 0, 0, 0), (88, .aload_n 0, 1, 0, 0, 0, 0), (89, .getfield 21, 3, 5, 1, 2, 448), 
  (92, .getfield 189, 3, 7, 2, 2, 386), (95, .iload_n 2, 1, 0, 0, 0, 0), (96, .aload_n 0, 1, 0, 0, 0, 0), (97, .getfield 21, 3, 5, 1, 2, 448), (100, .getfield 189, 3, 7, 2, 2, 386), 
  (103, .iload_n 2, 1, 0, 0, 0, 0), (104, .iaload, 1, 0, 0, 0, 0), (105, .aload_n 0, 1, 0, 0, 0, 0), (106, .getfield 12, 3, 5, 0, 2, 446), (109, .getfield 192, 3, 1, 3, 2, 191), 
  (112, .iload_n 2, 1, 0, 0, 0, 0), (113, .iaload, 1, 0, 0, 0, 0), (114, .iadd, 1, 0, 0, 0, 0), (115, .aload_n 0, 1, 0, 0, 0, 0), (116, .getfield 12, 3, 5, 0, 2, 446), 
  (119, .getfield 195, 3, 1, 4, 2, 196), (122, .iload_n 2, 1, 0, 0, 0, 0), (123, .iaload, 1, 0, 0, 0, 0), (124, .invokestatic 198, 3, 0, 2, 5, 748), (127, .iastore, 1, 0, 0, 0, 0), 
  (128, .iinc 2 1, 3, 0, 0, 0, 0), (131, .goto (-65), 3, 0, 0, 0, 0), (134, .aload_n 0, 1, 0, 0, 0, 0), (135, .getfield 21, 3, 5, 1, 2, 448), (138, .dup, 1, 0, 0, 0, 0), 
  (139, .getfield 203, 3, 7, 0, 0, 383), (142, .iconst 1, 1, 0, 0, 0, 0), (143, .iadd, 1, 0, 0, 0, 0), (144, .putfield 203, 3, 7, 0, 0, 383), (147, .iload_n 1, 1, 0, 0, 0, 0), 
  (148, .ireturn, 1, 0, 0, 0, 0)]
/-- DropSwitch$Run deliverFrom (I)I -/
noncomputable def cd_62 : List (Nat × Ent) := [
  (0, .aload_n 0, 1, 0, 0, 0, 0), (1, .getfield 12, 3, 5, 0, 2, 446), (4, .getfield 206, 3, 1, 2, 2, 187), (7, .iload_n 1, 1, 0, 0, 0, 0), (8, .iaload, 1, 0, 0, 0, 0), 
  (9, .aload_n 0, 1, 0, 0, 0, 0), (10, .getfield 21, 3, 5, 1, 2, 448), (13, .getfield 160, 3, 7, 4, 2, 393), (16, .iload_n 1, 1, 0, 0, 0, 0), (17, .iaload, 1, 0, 0, 0, 0), 
  (18, .invokestatic 198, 3, 0, 2, 5, 748), (21, .istore_n 2, 1, 0, 0, 0, 0), (22, .iconst 0, 1, 0, 0, 0, 0), (23, .istore_n 3, 1, 0, 0, 0, 0), (24, .iload_n 3, 1, 0, 0, 0, 0), 
  (25, .iload_n 2, 1, 0, 0, 0, 0), (26, .if_icmp .ge 27, 3, 0, 0, 0, 0), (29, .aload_n 0, 1, 0, 0, 0, 0), (30, .getfield 28, 3, 5, 2, 2, 450), (33, .aload_n 0, 1, 0, 0, 0, 0), 
  (34, .iload_n 1, 1, 0, 0, 0, 0), (35, .aload_n 0, 1, 0, 0, 0, 0), (36, .iload_n 1, 1, 0, 0, 0, 0), (37, .invokevirtual 209, 3, 59, 2, 0, 751), 
  (40, .invokevirtual 166, 3, 60, 3, 0, 727), (43, .iload_n 1, 1, 0, 0, 0, 0), (44, .invokevirtual 212, 3, 20, 3, 0, 755), (47, .iinc 3 1, 3, 0, 0, 0, 0), 
  (50, .goto (-26), 3, 0, 0, 0, 0), (53, .iload_n 2, 1, 0, 0, 0, 0), (54, .ireturn, 1, 0, 0, 0, 0)]
/-- DropSwitch$Run dropStale (I)V -/
noncomputable def cd_63 : List (Nat × Ent) := [
  (0, .iconst 0, 1, 0, 0, 0, 0), (1, .istore_n 2, 1, 0, 0, 0, 0), (2, .aload_n 0, 1, 0, 0, 0, 0), (3, .getfield 21, 3, 5, 1, 2, 448), (6, .getfield 160, 3, 7, 4, 2, 393), 
  (9, .iload_n 1, 1, 0, 0, 0, 0), (10, .iaload, 1, 0, 0, 0, 0), (11, .istore_n 3, 1, 0, 0, 0, 0), (12, .iload_n 3, 1, 0, 0, 0, 0), (13, .ifCond .le 55, 3, 0, 0, 0, 0), 
  (16, .aload_n 0, 1, 0, 0, 0, 0), (17, .getfield 21, 3, 5, 1, 2, 448), (20, .iload_n 1, 1, 0, 0, 0, 0), (21, .iload_n 2, 1, 0, 0, 0, 0), (22, .invokevirtual 215, 3, 85, 3, 0, 763), 
  (25, .aload_n 0, 1, 0, 0, 0, 0), (26, .getfield 12, 3, 5, 0, 2, 446), (29, .getfield 218, 3, 1, 6, 0, 204), (32, .if_icmp .lt 27, 3, 0, 0, 0, 0), (35, .aload_n 0, 1, 0, 0, 0, 0), 
  (36, .getfield 28, 3, 5, 2, 2, 450), (39, .aload_n 0, 1, 0, 0, 0, 0), (40, .getfield 47, 3, 5, 4, 0, 453), (43, .aload_n 0, 1, 0, 0, 0, 0), (44, .iload_n 1, 1, 0, 0, 0, 0), 
  (45, .iload_n 2, 1, 0, 0, 0, 0), (46, .invokevirtual 166, 3, 60, 3, 0, 727), (49, .iload_n 1, 1, 0, 0, 0, 0), (50, .bipush 9, 2, 0, 0, 0, 0), (52, .iconst (-1), 1, 0, 0, 0, 0), 
  (53, .invokevirtual 123, 3, 19, 6, 0, 666), (56, .goto 6, 3, 0, 0, 0, 0), (59, .iinc 2 1, 3, 0, 0, 0, 0), (62, .iinc 3 (-1), 3, 0, 0, 0, 0), (65, .goto (-53), 3, 0, 0, 0, 0), 
  (68, .return_, 1, 0, 0, 0, 0)]
/-- DropSwitch$Run loseLink (I)I -/
noncomputable def cd_64 : List (Nat × Ent) := [
  (0, .aload_n 0, 1, 0, 0, 0, 0), (1, .getfield 21, 3, 5, 1, 2, 448), (4, .getfield 160, 3, 7, 4, 2, 393), (7, .iload_n 1, 1, 0, 0, 0, 0), (8, .iaload, 1, 0, 0, 0, 0), 
  (9, .istore_n 2, 1, 0, 0, 0, 0), (10, .iload_n 2, 1, 0, 0, 0, 0), (11, .istore_n 3, 1, 0, 0, 0, 0), (12, .iload_n 3, 1, 0, 0, 0, 0), (13, .ifCond .le 30, 3, 0, 0, 0, 0), 
  (16, .aload_n 0, 1, 0, 0, 0, 0), (17, .getfield 28, 3, 5, 2, 2, 450), (20, .aload_n 0, 1, 0, 0, 0, 0), (21, .getfield 47, 3, 5, 4, 0, 453), (24, .aload_n 0, 1, 0, 0, 0, 0), 
  (25, .iload_n 1, 1, 0, 0, 0, 0), (26, .iconst 0, 1, 0, 0, 0, 0), (27, .invokevirtual 166, 3, 60, 3, 0, 727), (30, .iload_n 1, 1, 0, 0, 0, 0), (31, .bipush 10, 2, 0, 0, 0, 0), 
  (33, .iconst (-1), 1, 0, 0, 0, 0), (34, .invokevirtual 123, 3, 19, 6, 0, 666), (37, .iinc 3 (-1), 3, 0, 0, 0, 0), (40, .goto (-28), 3, 0, 0, 0, 0), (43, .aload_n 0, 1, 0, 0, 0, 0), 
  (44, .getfield 21, 3, 5, 1, 2, 448), (47, .iload_n 1, 1, 0, 0, 0, 0), (48, .invokevirtual 221, 3, 89, 2, 0, 775), (51, .aload_n 0, 1, 0, 0, 0, 0), 
  (52, .getfield 21, 3, 5, 1, 2, 448), (55, .iload_n 1, 1, 0, 0, 0, 0), (56, .iconst 0, 1, 0, 0, 0, 0), (57, .invokevirtual 71, 3, 81, 3, 0, 767), (60, .iload_n 2, 1, 0, 0, 0, 0), 
  (61, .ireturn, 1, 0, 0, 0, 0)]
/-- DropSwitch$Setup <init> ()V -/
noncomputable def cd_65 : List (Nat × Ent) := [
  (0, .aload_n 0, 1, 0, 0, 0, 0), (1, .invokespecial 3, 3, 0, 1, 4, 168), (4, .aload_n 0, 1, 0, 0, 0, 0), (5, .new 9, 3, 1, 10, 0, 169), (8, .dup, 1, 0, 0, 0, 0), 
  (9, .invokespecial 11, 3, 7, 1, 3, 171), (12, .putfield 12, 3, 6, 0, 12, 247), (15, .aload_n 0, 1, 0, 0, 0, 0), (16, .iconst 4, 1, 0, 0, 0, 0), (17, .newarray .int, 2, 1, 0, 0, 0), 
  (19, .putfield 18, 3, 6, 1, 12, 250), (22, .aload_n 0, 1, 0, 0, 0, 0), (23, .bipush 9, 2, 0, 0, 0, 0), (25, .newarray .int, 2, 1, 0, 0, 0), (27, .putfield 22, 3, 6, 3, 12, 254), 
  (30, .aload_n 0, 1, 0, 0, 0, 0), (31, .sipush 600, 3, 0, 0, 0, 0), (34, .newarray .int, 2, 1, 0, 0, 0), (36, .putfield 25, 3, 6, 4, 12, 255), (39, .aload_n 0, 1, 0, 0, 0, 0), 
  (40, .invokevirtual 28, 3, 66, 1, 0, 239), (43, .return_, 1, 0, 0, 0, 0)]
/-- DropSwitch$Setup reset ()V -/
noncomputable def cd_66 : List (Nat × Ent) := [
  (0, .aload_n 0, 1, 0, 0, 0, 0), (1, .getfield 12, 3, 6, 0, 2, 247), (4, .invokevirtual 31, 3, 8, 1, 0, 243), (7, .aload_n 0, 1, 0, 0, 0, 0), (8, .iconst 0, 1, 0, 0, 0, 0), 
  (9, .putfield 32, 3, 6, 2, 0, 251), (12, .aload_n 0, 1, 0, 0, 0, 0), (13, .iconst 0, 1, 0, 0, 0, 0), (14, .putfield 36, 3, 6, 5, 0, 256), (17, .return_, 1, 0, 0, 0, 0)]
/-- DropSwitch$Setup addPort (III)V -/
noncomputable def cd_67 : List (Nat × Ent) := [
  (0, .aload_n 0, 1, 0, 0, 0, 0), (1, .getfield 12, 3, 6, 0, 2, 247), (4, .getfield 39, 3, 1, 0, 0, 176), (7, .istore 4, 2, 0, 0, 0, 0), (9, .iload 4, 2, 0, 0, 0, 0), 
  (11, .iconst 4, 1, 0, 0, 0, 0), (12, .if_icmp .lt 4, 3, 0, 0, 0, 0), (15, .return_, 1, 0, 0, 0, 0), (16, .aload_n 0, 1, 0, 0, 0, 0), (17, .getfield 18, 3, 6, 1, 2, 250), 
  (20, .iload 4, 2, 0, 0, 0, 0), (22, .iload_n 1, 1, 0, 0, 0, 0), (23, .iastore, 1, 0, 0, 0, 0), (24, .aload_n 0, 1, 0, 0, 0, 0), (25, .getfield 12, 3, 6, 0, 2, 247), 
  (28, .getfield 42, 3, 1, 1, 2, 181), (31, .iload 4, 2, 0, 0, 0, 0), (33, .iload_n 2, 1, 0, 0, 0, 0), (34, .iastore, 1, 0, 0, 0, 0), (35, .aload_n 0, 1, 0, 0, 0, 0), 
  (36, .getfield 12, 3, 6, 0, 2, 247), (39, .getfield 45, 3, 1, 2, 2, 186), (42, .iload 4, 2, 0, 0, 0, 0), (44, .iload_n 3, 1, 0, 0, 0, 0), (45, .iastore, 1, 0, 0, 0, 0), 
  (46, .aload_n 0, 1, 0, 0, 0, 0), (47, .getfield 12, 3, 6, 0, 2, 247), (50, .getfield 48, 3, 1, 3, 2, 189), (53, .iload 4, 2, 0, 0, 0, 0), (55, .iconst (-1), 1, 0, 0, 0, 0), 
  (56, .iastore, 1, 0, 0, 0, 0), (57, .aload_n 0, 1, 0, 0, 0, 0), (58, .getfield 12, 3, 6, 0, 2, 247), (61, .getfield 51, 3, 1, 4, 2, 194), (64, .iload 4, 2, 0, 0, 0, 0), 
  (66, .iconst 0, 1, 0, 0, 0, 0), (67, .iastore, 1, 0, 0, 0, 0), (68, .aload_n 0, 1, 0, 0, 0, 0), (69, .getfield 12, 3, 6, 0, 2, 247), (72, .dup, 1, 0, 0, 0, 0), 
  (73, .getfield 39, 3, 1, 0, 0, 176), (76, .iconst 1, 1, 0, 0, 0, 0), (77, .iadd, 1, 0, 0, 0, 0), (78, .putfield 39, 3, 1, 0, 0, 176), (81, .return_, 1, 0, 0, 0, 0)]
/-- DropSwitch$Setup portNamed (I)I -/
noncomputable def cd_68 : List (Nat × Ent) := [
  (0, .iconst 0, 1, 0, 0, 0, 0), (1, .istore_n 2, 1, 0, 0, 0, 0), (2, .iload_n 2, 1, 0, 0, 0, 0), (3, .aload_n 0, 1, 0, 0, 0, 0), (4, .getfield 12, 3, 6, 0, 2, 247), 
  (7, .getfield 39, 3, 1, 0, 0, 176), (10, .if_icmp .ge 21, 3, 0, 0, 0, 0), (13, .aload_n 0, 1, 0, 0, 0, 0), (14, .getfield 18, 3, 6, 1, 2, 250), (17, .iload_n 2, 1, 0, 0, 0, 0), 
  (18, .iaload, 1, 0, 0, 0, 0), (19, .iload_n 1, 1, 0, 0, 0, 0), (20, .if_icmp .ne 5, 3, 0, 0, 0, 0), (23, .iload_n 2, 1, 0, 0, 0, 0), (24, .ireturn, 1, 0, 0, 0, 0), 
  (25, .iinc 2 1, 3, 0, 0, 0, 0), (28, .goto (-26), 3, 0, 0, 0, 0), (31, .iconst (-1), 1, 0, 0, 0, 0), (32, .ireturn, 1, 0, 0, 0, 0)]
/-- DropSwitch$Setup nameOf (I)I -/
noncomputable def cd_69 : List (Nat × Ent) := [
  (0, .aload_n 0, 1, 0, 0, 0, 0), (1, .getfield 18, 3, 6, 1, 2, 250), (4, .iload_n 1, 1, 0, 0, 0, 0), (5, .iaload, 1, 0, 0, 0, 0), (6, .ireturn, 1, 0, 0, 0, 0)]
/-- DropSwitch$Setup addItem (II)V -/
noncomputable def cd_70 : List (Nat × Ent) := [
  (0, .aload_n 0, 1, 0, 0, 0, 0), (1, .getfield 36, 3, 6, 5, 0, 256), (4, .aload_n 0, 1, 0, 0, 0, 0), (5, .getfield 25, 3, 6, 4, 2, 255), (8, .arraylength, 1, 0, 0, 0, 0), 
  (9, .if_icmp .ge 27, 3, 0, 0, 0, 0), (12, .aload_n 0, 1, 0, 0, 0, 0), (13, .getfield 25, 3, 6, 4, 2, 255), (16, .aload_n 0, 1, 0, 0, 0, 0), (17, .getfield 36, 3, 6, 5, 0, 256), 
  (20, .iload_n 2, 1, 0, 0, 0, 0), (21, .iconst 4, 1, 0, 0, 0, 0), (22, .ishl, 1, 0, 0, 0, 0), (23, .iload_n 1, 1, 0, 0, 0, 0), (24, .ior, 1, 0, 0, 0, 0), 
  (25, .iastore, 1, 0, 0, 0, 0), (26, .aload_n 0, 1, 0, 0, 0, 0), (27, .dup, 1, 0, 0, 0, 0), (28, .getfield 36, 3, 6, 5, 0, 256), (31, .iconst 1, 1, 0, 0, 0, 0), 
  (32, .iadd, 1, 0, 0, 0, 0), (33, .putfield 36, 3, 6, 5, 0, 256), (36, .return_, 1, 0, 0, 0, 0)]
/-- DropSwitch$Setup addRule (Z)V -/
noncomputable def cd_71 : List (Nat × Ent) := [
  (0, .aload_n 0, 1, 0, 0, 0, 0), (1, .getfield 32, 3, 6, 2, 0, 251), (4, .bipush 8, 2, 0, 0, 0, 0), (6, .if_icmp .lt 4, 3, 0, 0, 0, 0), (9, .return_, 1, 0, 0, 0, 0), 
  (10, .iload_n 1, 1, 0, 0, 0, 0), (11, .ifCond .eq 21, 3, 0, 0, 0, 0), (14, .aload_n 0, 1, 0, 0, 0, 0), (15, .getfield 12, 3, 6, 0, 2, 247), (18, .dup, 1, 0, 0, 0, 0), 
  (19, .getfield 54, 3, 1, 8, 0, 211), (22, .iconst 1, 1, 0, 0, 0, 0), (23, .aload_n 0, 1, 0, 0, 0, 0), (24, .getfield 32, 3, 6, 2, 0, 251), (27, .ishl, 1, 0, 0, 0, 0), 
  (28, .ior, 1, 0, 0, 0, 0), (29, .putfield 54, 3, 1, 8, 0, 211), (32, .aload_n 0, 1, 0, 0, 0, 0), (33, .dup, 1, 0, 0, 0, 0), (34, .getfield 32, 3, 6, 2, 0, 251), 
  (37, .iconst 1, 1, 0, 0, 0, 0), (38, .iadd, 1, 0, 0, 0, 0), (39, .putfield 32, 3, 6, 2, 0, 251), (42, .aload_n 0, 1, 0, 0, 0, 0), (43, .getfield 22, 3, 6, 3, 2, 254), 
  (46, .aload_n 0, 1, 0, 0, 0, 0), (47, .getfield 32, 3, 6, 2, 0, 251), (50, .aload_n 0, 1, 0, 0, 0, 0), (51, .getfield 36, 3, 6, 5, 0, 256), (54, .iastore, 1, 0, 0, 0, 0), 
  (55, .return_, 1, 0, 0, 0, 0)]
/-- DropSwitch$Setup rulesHolding (LDropSwitch$History;I)I -/
noncomputable def cd_72 : List (Nat × Ent) := [
  (0, .iconst 0, 1, 0, 0, 0, 0), (1, .istore_n 3, 1, 0, 0, 0, 0), (2, .iconst 0, 1, 0, 0, 0, 0), (3, .istore 4, 2, 0, 0, 0, 0), (5, .iload 4, 2, 0, 0, 0, 0), 
  (7, .aload_n 0, 1, 0, 0, 0, 0), (8, .getfield 32, 3, 6, 2, 0, 251), (11, .if_icmp .ge 27, 3, 0, 0, 0, 0), (14, .aload_n 0, 1, 0, 0, 0, 0), (15, .iload 4, 2, 0, 0, 0, 0), 
  (17, .aload_n 1, 1, 0, 0, 0, 0), (18, .iload_n 2, 1, 0, 0, 0, 0), (19, .invokevirtual 57, 3, 73, 4, 0, 1123), (22, .ifCond .eq 10, 3, 0, 0, 0, 0), (25, .iload_n 3, 1, 0, 0, 0, 0), 
  (26, .iconst 1, 1, 0, 0, 0, 0), (27, .iload 4, 2, 0, 0, 0, 0), (29, .ishl, 1, 0, 0, 0, 0), (30, .ior, 1, 0, 0, 0, 0), (31, .istore_n 3, 1, 0, 0, 0, 0), 
  (32, .iinc 4 1, 3, 0, 0, 0, 0), (35, .goto (-30), 3, 0, 0, 0, 0), (38, .iload_n 3, 1, 0, 0, 0, 0), (39, .ireturn, 1, 0, 0, 0, 0)]
/-- DropSwitch$Setup holds (ILDropSwitch$History;I)Z -/
noncomputable def cd_73 : List (Nat × Ent) := [
  (0, .iconst 0, 1, 0, 0, 0, 0), (1, .istore 4, 2, 0, 0, 0, 0), (3, .aload_n 0, 1, 0, 0, 0, 0), (4, .getfield 22, 3, 6, 3, 2, 254), (7, .iload_n 1, 1, 0, 0, 0, 0), 
  (8, .iaload, 1, 0, 0, 0, 0), (9, .istore 5, 2, 0, 0, 0, 0), (11, .iload 5, 2, 0, 0, 0, 0), (13, .aload_n 0, 1, 0, 0, 0, 0), (14, .getfield 22, 3, 6, 3, 2, 254), 
  (17, .iload_n 1, 1, 0, 0, 0, 0), (18, .iconst 1, 1, 0, 0, 0, 0), (19, .iadd, 1, 0, 0, 0, 0), (20, .iaload, 1, 0, 0, 0, 0), (21, .if_icmp .ge 110, 3, 0, 0, 0, 0), 
  (24, .aload_n 0, 1, 0, 0, 0, 0), (25, .getfield 25, 3, 6, 4, 2, 255), (28, .iload 5, 2, 0, 0, 0, 0), (30, .iaload, 1, 0, 0, 0, 0), (31, .bipush 15, 2, 0, 0, 0, 0), 
  (33, .iand, 1, 0, 0, 0, 0), (34, .tableswitch 64 0 2 #[26, 35, 50], 26, 0, 0, 0, 0), (60, .iload 4, 2, 0, 0, 0, 0), (62, .iconst 1, 1, 0, 0, 0, 0), (63, .ixor, 1, 0, 0, 0, 0), 
  (64, .istore 4, 2, 0, 0, 0, 0), (66, .goto 59, 3, 0, 0, 0, 0), (69, .iload 4, 2, 0, 0, 0, 0), (71, .iconst 1, 1, 0, 0, 0, 0), (72, .iushr, 1, 0, 0, 0, 0), 
  (73, .iload 4, 2, 0, 0, 0, 0), (75, .bipush (-2), 2, 0, 0, 0, 0), (77, .ior, 1, 0, 0, 0, 0), (78, .iand, 1, 0, 0, 0, 0), (79, .istore 4, 2, 0, 0, 0, 0), 
  (81, .goto 44, 3, 0, 0, 0, 0), (84, .iload 4, 2, 0, 0, 0, 0), (86, .iconst 1, 1, 0, 0, 0, 0), (87, .iushr, 1, 0, 0, 0, 0), (88, .iload 4, 2, 0, 0, 0, 0), 
  (90, .iconst 1, 1, 0, 0, 0, 0), (91, .iand, 1, 0, 0, 0, 0), (92, .ior, 1, 0, 0, 0, 0), (93, .istore 4, 2, 0, 0, 0, 0), (95, .goto 30, 3, 0, 0, 0, 0), (98, .iload 4, 2, 0, 0, 0, 0), 
  (100, .iconst 1, 1, 0, 0, 0, 0), (101, .ishl, 1, 0, 0, 0, 0), (102, .aload_n 0, 1, 0, 0, 0, 0), (103, .getfield 25, 3, 6, 4, 2, 255), (106, .iload 5, 2, 0, 0, 0, 0), 
  (108, .iaload, 1, 0, 0, 0, 0), (109, .aload_n 2, 1, 0, 0, 0, 0), (110, .iload_n 3, 1, 0, 0, 0, 0), (111, .invokestatic 61, 3, 74, 3, 1, 1127), (114, .ifCond .eq 7, 3, 0, 0, 0, 0), 
  (117, .iconst 1, 1, 0, 0, 0, 0), (118, .goto 4, 3, 0, 0, 0, 0), (121, .iconst 0, 1, 0, 0, 0, 0), (122, .ior, 1, 0, 0, 0, 0), (123, .istore 4, 2, 0, 0, 0, 0), 
  (125, .iinc 5 1, 3, 0, 0, 0, 0), (128, .goto (-117), 3, 0, 0, 0, 0), (131, .iload 4, 2, 0, 0, 0, 0), (133, .iconst 1, 1, 0, 0, 0, 0), (134, .iand, 1, 0, 0, 0, 0), 
  (135, .ifCond .eq 7, 3, 0, 0, 0, 0), (138, .iconst 1, 1, 0, 0, 0, 0), (139, .goto 4, 3, 0, 0, 0, 0), (142, .iconst 0, 1, 0, 0, 0, 0), (143, .ireturn, 1, 0, 0, 1, 0)]
/-- DropSwitch$Setup isTrue (ILDropSwitch$History;I)Z -/
noncomputable def cd_74 : List (Nat × Ent) := [
  (0, .iload_n 0, 1, 0, 0, 0, 0), (1, .iconst 4, 1, 0, 0, 0, 0), (2, .ishr, 1, 0, 0, 0, 0), (3, .istore_n 3, 1, 0, 0, 0, 0), (4, .iload_n 0, 1, 0, 0, 0, 0), 
  (5, .bipush 15, 2, 0, 0, 0, 0), (7, .iand, 1, 0, 0, 0, 0), (8, .tableswitch 95 4 8 #[36, 51, 62, 73, 84], 36, 0, 0, 0, 0), (44, .aload_n 1, 1, 0, 0, 0, 0), 
  (45, .iload_n 2, 1, 0, 0, 0, 0), (46, .invokevirtual 64, 3, 4, 2, 0, 1130), (49, .iload_n 3, 1, 0, 0, 0, 0), (50, .if_icmp .ne 7, 3, 0, 0, 0, 0), (53, .iconst 1, 1, 0, 0, 0, 0), 
  (54, .goto 4, 3, 0, 0, 0, 0), (57, .iconst 0, 1, 0, 0, 0, 0), (58, .ireturn, 1, 0, 0, 1, 0), (59, .aload_n 1, 1, 0, 0, 0, 0), (60, .getfield 70, 3, 0, 6, 2, 331), 
  (63, .iload_n 2, 1, 0, 0, 0, 0), (64, .iaload, 1, 0, 0, 0, 0), (65, .iload_n 3, 1, 0, 0, 0, 0), (66, .invokestatic 73, 3, 76, 2, 1, 1134), (69, .ireturn, 1, 0, 0, 1, 0), 
  (70, .aload_n 1, 1, 0, 0, 0, 0), (71, .getfield 77, 3, 0, 7, 2, 334), (74, .iload_n 2, 1, 0, 0, 0, 0), (75, .iaload, 1, 0, 0, 0, 0), (76, .iload_n 3, 1, 0, 0, 0, 0), 
  (77, .invokestatic 73, 3, 76, 2, 1, 1134), (80, .ireturn, 1, 0, 0, 1, 0), (81, .aload_n 1, 1, 0, 0, 0, 0), (82, .getfield 80, 3, 0, 8, 2, 336), (85, .iload_n 2, 1, 0, 0, 0, 0), 
  (86, .iaload, 1, 0, 0, 0, 0), (87, .iload_n 3, 1, 0, 0, 0, 0), (88, .invokestatic 73, 3, 76, 2, 1, 1134), (91, .ireturn, 1, 0, 0, 1, 0), (92, .aload_n 1, 1, 0, 0, 0, 0), 
  (93, .getfield 83, 3, 0, 9, 2, 338), (96, .iload_n 2, 1, 0, 0, 0, 0), (97, .iaload, 1, 0, 0, 0, 0), (98, .iload_n 3, 1, 0, 0, 0, 0), (99, .invokestatic 73, 3, 76, 2, 1, 1134), 
  (102, .ireturn, 1, 0, 0, 1, 0), (103, .iconst 1, 1, 0, 0, 0, 0), (104, .ireturn, 1, 0, 0, 1, 0)]
/-- DropSwitch$Setup comparison (II)I -/
noncomputable def cd_75 : List (Nat × Ent) := [
  (0, .iload_n 1, 1, 0, 0, 0, 0), (1, .iconst 2, 1, 0, 0, 0, 0), (2, .ishl, 1, 0, 0, 0, 0), (3, .iload_n 0, 1, 0, 0, 0, 0), (4, .iconst 1, 1, 0, 0, 0, 0), (5, .iadd, 1, 0, 0, 0, 0), 
  (6, .ior, 1, 0, 0, 0, 0), (7, .ireturn, 1, 0, 0, 0, 0)]
/-- DropSwitch$Setup compares (II)Z -/
noncomputable def cd_76 : List (Nat × Ent) := [
  (0, .iload_n 0, 1, 0, 0, 0, 0), (1, .iload_n 1, 1, 0, 0, 0, 0), (2, .iconst 2, 1, 0, 0, 0, 0), (3, .ishr, 1, 0, 0, 0, 0), (4, .invokestatic 86, 3, 297, 2, 1, 1137), 
  (7, .iload_n 1, 1, 0, 0, 0, 0), (8, .iconst 3, 1, 0, 0, 0, 0), (9, .iand, 1, 0, 0, 0, 0), (10, .iconst 1, 1, 0, 0, 0, 0), (11, .isub, 1, 0, 0, 0, 0), 
  (12, .if_icmp .ne 7, 3, 0, 0, 0, 0), (15, .iconst 1, 1, 0, 0, 0, 0), (16, .goto 4, 3, 0, 0, 0, 0), (19, .iconst 0, 1, 0, 0, 0, 0), (20, .ireturn, 1, 0, 0, 1, 0)]
/-- DropSwitch$State <init> ()V -/
noncomputable def cd_77 : List (Nat × Ent) := [
  (0, .aload_n 0, 1, 0, 0, 0, 0), (1, .invokespecial 3, 3, 0, 1, 4, 380), (4, .aload_n 0, 1, 0, 0, 0, 0), (5, .iconst 4, 1, 0, 0, 0, 0), (6, .newarray .int, 2, 1, 0, 0, 0), 
  (8, .putfield 9, 3, 7, 2, 12, 385), (11, .aload_n 0, 1, 0, 0, 0, 0), (12, .iconst 4, 1, 0, 0, 0, 0), (13, .newarray .int, 2, 1, 0, 0, 0), (15, .putfield 15, 3, 7, 3, 12, 388), 
  (18, .aload_n 0, 1, 0, 0, 0, 0), (19, .iconst 4, 1, 0, 0, 0, 0), (20, .newarray .int, 2, 1, 0, 0, 0), (22, .putfield 18, 3, 7, 4, 12, 392), (25, .aload_n 0, 1, 0, 0, 0, 0), 
  (26, .sipush 480, 3, 0, 0, 0, 0), (29, .newarray .int, 2, 1, 0, 0, 0), (31, .putfield 21, 3, 7, 5, 12, 395), (34, .aload_n 0, 1, 0, 0, 0, 0), (35, .sipush 480, 3, 0, 0, 0, 0), 
  (38, .newarray .int, 2, 1, 0, 0, 0), (40, .putfield 24, 3, 7, 6, 12, 396), (43, .aload_n 0, 1, 0, 0, 0, 0), (44, .bipush 64, 2, 0, 0, 0, 0), (46, .newarray .int, 2, 1, 0, 0, 0), 
  (48, .putfield 27, 3, 7, 7, 12, 397), (51, .aload_n 0, 1, 0, 0, 0, 0), (52, .bipush 64, 2, 0, 0, 0, 0), (54, .newarray .int, 2, 1, 0, 0, 0), (56, .putfield 30, 3, 7, 8, 12, 398), 
  (59, .return_, 1, 0, 0, 0, 0)]
/-- DropSwitch$State start (LDropSwitch$Limits;)V -/
noncomputable def cd_78 : List (Nat × Ent) := [
  (0, .aload_n 0, 1, 0, 0, 0, 0), (1, .iconst 0, 1, 0, 0, 0, 0), (2, .putfield 33, 3, 7, 0, 0, 381), (5, .aload_n 0, 1, 0, 0, 0, 0), (6, .iconst 0, 1, 0, 0, 0, 0), 
  (7, .putfield 37, 3, 7, 1, 0, 384), (10, .iconst 0, 1, 0, 0, 0, 0), (11, .istore_n 2, 1, 0, 0, 0, 0), (12, .iload_n 2, 1, 0, 0, 0, 0), (13, .iconst 4, 1, 0, 0, 0, 0), 
  (14, .if_icmp .ge 35, 3, 0, 0, 0, 0), (17, .aload_n 0, 1, 0, 0, 0, 0), (18, .getfield 9, 3, 7, 2, 2, 385), (21, .iload_n 2, 1, 0, 0, 0, 0), (22, .aload_n 1, 1, 0, 0, 0, 0), 
  (23, .getfield 40, 3, 1, 4, 2, 193), (26, .iload_n 2, 1, 0, 0, 0, 0), (27, .iaload, 1, 0, 0, 0, 0), (28, .iastore, 1, 0, 0, 0, 0), (29, .aload_n 0, 1, 0, 0, 0, 0), 
  (30, .getfield 15, 3, 7, 3, 2, 388), (33, .iload_n 2, 1, 0, 0, 0, 0), (34, .iconst 0, 1, 0, 0, 0, 0), (35, .iastore, 1, 0, 0, 0, 0), (36, .aload_n 0, 1, 0, 0, 0, 0), 
  (37, .getfield 18, 3, 7, 4, 2, 392), (40, .iload_n 2, 1, 0, 0, 0, 0), (41, .iconst 0, 1, 0, 0, 0, 0), (42, .iastore, 1, 0, 0, 0, 0), (43, .iinc 2 1, 3, 0, 0, 0, 0), 
  (46, .goto (-34), 3, 0, 0, 0, 0), (49, .aload_n 0, 1, 0, 0, 0, 0), (50, .getfield 27, 3, 7, 7, 2, 397), (53, .iconst (-1), 1, 0, 0, 0, 0), (54, .invokestatic 45, 3, 305, 2, 1, 527), 
  (57, .return_, 1, 0, 0, 0, 0)]
/-- DropSwitch$State copyFrom (LDropSwitch$State;)V -/
noncomputable def cd_79 : List (Nat × Ent) := [
  (0, .aload_n 0, 1, 0, 0, 0, 0), (1, .aload_n 1, 1, 0, 0, 0, 0), (2, .getfield 33, 3, 7, 0, 0, 381), (5, .putfield 33, 3, 7, 0, 0, 381), (8, .aload_n 0, 1, 0, 0, 0, 0), 
  (9, .aload_n 1, 1, 0, 0, 0, 0), (10, .getfield 37, 3, 7, 1, 0, 384), (13, .putfield 37, 3, 7, 1, 0, 384), (16, .aload_n 1, 1, 0, 0, 0, 0), (17, .getfield 9, 3, 7, 2, 2, 385), 
  (20, .iconst 0, 1, 0, 0, 0, 0), (21, .aload_n 0, 1, 0, 0, 0, 0), (22, .getfield 9, 3, 7, 2, 2, 385), (25, .iconst 0, 1, 0, 0, 0, 0), (26, .iconst 4, 1, 0, 0, 0, 0), 
  (27, .invokestatic 51, 3, 0, 5, 6, 537), (30, .aload_n 1, 1, 0, 0, 0, 0), (31, .getfield 15, 3, 7, 3, 2, 388), (34, .iconst 0, 1, 0, 0, 0, 0), (35, .aload_n 0, 1, 0, 0, 0, 0), 
  (36, .getfield 15, 3, 7, 3, 2, 388), (39, .iconst 0, 1, 0, 0, 0, 0), (40, .iconst 4, 1, 0, 0, 0, 0), (41, .invokestatic 51, 3, 0, 5, 6, 537), (44, .aload_n 1, 1, 0, 0, 0, 0), 
  (45, .getfield 18, 3, 7, 4, 2, 392), (48, .iconst 0, 1, 0, 0, 0, 0), (49, .aload_n 0, 1, 0, 0, 0, 0), (50, .getfield 18, 3, 7, 4, 2, 392), (53, .iconst 0, 1, 0, 0, 0, 0), 
  (54, .iconst 4, 1, 0, 0, 0, 0), (55, .invokestatic 51, 3, 0, 5, 6, 537), (58, .iconst 0, 1, 0, 0, 0, 0), (59, .istore_n 2, 1, 0, 0, 0, 0), (60, .iload_n 2, 1, 0, 0, 0, 0), 
  (61, .iconst 4, 1, 0, 0, 0, 0), (62, .if_icmp .ge 52, 3, 0, 0, 0, 0), (65, .iload_n 2, 1, 0, 0, 0, 0), (66, .bipush 120, 2, 0, 0, 0, 0), (68, .imul, 1, 0, 0, 0, 0), 
  (69, .istore_n 3, 1, 0, 0, 0, 0), (70, .aload_n 1, 1, 0, 0, 0, 0), (71, .getfield 21, 3, 7, 5, 2, 395), (74, .iload_n 3, 1, 0, 0, 0, 0), (75, .aload_n 0, 1, 0, 0, 0, 0), 
  (76, .getfield 21, 3, 7, 5, 2, 395), (79, .iload_n 3, 1, 0, 0, 0, 0), (80, .aload_n 0, 1, 0, 0, 0, 0), (81, .getfield 18, 3, 7, 4, 2, 392), (84, .iload_n 2, 1, 0, 0, 0, 0), 
  (85, .iaload, 1, 0, 0, 0, 0), (86, .invokestatic 51, 3, 0, 5, 6, 537), (89, .aload_n 1, 1, 0, 0, 0, 0), (90, .getfield 24, 3, 7, 6, 2, 396), (93, .iload_n 3, 1, 0, 0, 0, 0), 
  (94, .aload_n 0, 1, 0, 0, 0, 0), (95, .getfield 24, 3, 7, 6, 2, 396), (98, .iload_n 3, 1, 0, 0, 0, 0), (99, .aload_n 0, 1, 0, 0, 0, 0), (100, .getfield 18, 3, 7, 4, 2, 392), 
  (103, .iload_n 2, 1, 0, 0, 0, 0), (104, .iaload, 1, 0, 0, 0, 0), (105, .invokestatic 51, 3, 0, 5, 6, 537), (108, .iinc 2 1, 3, 0, 0, 0, 0), (111, .goto (-51), 3, 0, 0, 0, 0), 
  (114, .aload_n 1, 1, 0, 0, 0, 0), (115, .getfield 27, 3, 7, 7, 2, 397), (118, .iconst 0, 1, 0, 0, 0, 0), (119, .aload_n 0, 1, 0, 0, 0, 0), (120, .getfield 27, 3, 7, 7, 2, 397), 
  (123, .iconst 0, 1, 0, 0, 0, 0), (124, .bipush 64, 2, 0, 0, 0, 0), (126, .invokestatic 51, 3, 0, 5, 6, 537), (129, .aload_n 1, 1, 0, 0, 0, 0), (130, .getfield 30, 3, 7, 8, 2, 398), 
  (133, .iconst 0, 1, 0, 0, 0, 0), (134, .aload_n 0, 1, 0, 0, 0, 0), (135, .getfield 30, 3, 7, 8, 2, 398), (138, .iconst 0, 1, 0, 0, 0, 0), (139, .bipush 64, 2, 0, 0, 0, 0), 
  (141, .invokestatic 51, 3, 0, 5, 6, 537), (144, .return_, 1, 0, 0, 0, 0)]
/-- DropSwitch$State hasLink (I)Z -/
noncomputable def cd_80 : List (Nat × Ent) := [
  (0, .aload_n 0, 1, 0, 0, 0, 0), (1, .getfield 37, 3, 7, 1, 0, 384), (4, .iload_n 1, 1, 0, 0, 0, 0), (5, .ishr, 1, 0, 0, 0, 0), (6, .iconst 1, 1, 0, 0, 0, 0), 
  (7, .iand, 1, 0, 0, 0, 0), (8, .ifCond .ne 7, 3, 0, 0, 0, 0), (11, .iconst 1, 1, 0, 0, 0, 0), (12, .goto 4, 3, 0, 0, 0, 0), (15, .iconst 0, 1, 0, 0, 0, 0), 
  (16, .ireturn, 1, 0, 0, 1, 0)]
/-- DropSwitch$State setLink (IZ)V -/
noncomputable def cd_81 : List (Nat × Ent) := [
  (0, .iload_n 2, 1, 0, 0, 0, 0), (1, .ifCond .eq 20, 3, 0, 0, 0, 0), (4, .aload_n 0, 1, 0, 0, 0, 0), (5, .dup, 1, 0, 0, 0, 0), (6, .getfield 37, 3, 7, 1, 0, 384), 
  (9, .iconst 1, 1, 0, 0, 0, 0), (10, .iload_n 1, 1, 0, 0, 0, 0), (11, .ishl, 1, 0, 0, 0, 0), (12, .iconst (-1), 1, 0, 0, 0, 0), (13, .ixor, 1, 0, 0, 0, 0), 
  (14, .iand, 1, 0, 0, 0, 0), (15, .putfield 37, 3, 7, 1, 0, 384), (18, .goto 15, 3, 0, 0, 0, 0), (21, .aload_n 0, 1, 0, 0, 0, 0), (22, .dup, 1, 0, 0, 0, 0), 
  (23, .getfield 37, 3, 7, 1, 0, 384), (26, .iconst 1, 1, 0, 0, 0, 0), (27, .iload_n 1, 1, 0, 0, 0, 0), (28, .ishl, 1, 0, 0, 0, 0), (29, .ior, 1, 0, 0, 0, 0), 
  (30, .putfield 37, 3, 7, 1, 0, 384), (33, .return_, 1, 0, 0, 0, 0)]
/-- DropSwitch$State spend (II)Z -/
noncomputable def cd_82 : List (Nat × Ent) := [
  (0, .aload_n 0, 1, 0, 0, 0, 0), (1, .getfield 9, 3, 7, 2, 2, 385), (4, .iload_n 1, 1, 0, 0, 0, 0), (5, .iaload, 1, 0, 0, 0, 0), (6, .iload_n 2, 1, 0, 0, 0, 0), 
  (7, .if_icmp .ge 5, 3, 0, 0, 0, 0), (10, .iconst 0, 1, 0, 0, 0, 0), (11, .ireturn, 1, 0, 0, 1, 0), (12, .aload_n 0, 1, 0, 0, 0, 0), (13, .getfield 9, 3, 7, 2, 2, 385), 
  (16, .iload_n 1, 1, 0, 0, 0, 0), (17, .dup2, 1, 0, 0, 0, 0), (18, .iaload, 1, 0, 0, 0, 0), (19, .iload_n 2, 1, 0, 0, 0, 0), (20, .isub, 1, 0, 0, 0, 0), 
  (21, .iastore, 1, 0, 0, 0, 0), (22, .iconst 1, 1, 0, 0, 0, 0), (23, .ireturn, 1, 0, 0, 1, 0)]
/-- DropSwitch$State allUnits ()I -/
noncomputable def cd_83 : List (Nat × Ent) := [
  (0, .iconst 0, 1, 0, 0, 0, 0), (1, .istore_n 1, 1, 0, 0, 0, 0), (2, .iconst 0, 1, 0, 0, 0, 0), (3, .istore_n 2, 1, 0, 0, 0, 0), (4, .iload_n 2, 1, 0, 0, 0, 0), 
  (5, .iconst 4, 1, 0, 0, 0, 0), (6, .if_icmp .ge 18, 3, 0, 0, 0, 0), (9, .iload_n 1, 1, 0, 0, 0, 0), (10, .aload_n 0, 1, 0, 0, 0, 0), (11, .getfield 15, 3, 7, 3, 2, 388), 
  (14, .iload_n 2, 1, 0, 0, 0, 0), (15, .iaload, 1, 0, 0, 0, 0), (16, .iadd, 1, 0, 0, 0, 0), (17, .istore_n 1, 1, 0, 0, 0, 0), (18, .iinc 2 1, 3, 0, 0, 0, 0), 
  (21, .goto (-17), 3, 0, 0, 0, 0), (24, .iload_n 1, 1, 0, 0, 0, 0), (25, .ireturn, 1, 0, 0, 0, 0)]
/-- DropSwitch$State packetAt (II)I -/
noncomputable def cd_84 : List (Nat × Ent) := [
  (0, .iload_n 2, 1, 0, 0, 0, 0), (1, .ifCond .lt 27, 3, 0, 0, 0, 0), (4, .iload_n 2, 1, 0, 0, 0, 0), (5, .aload_n 0, 1, 0, 0, 0, 0), (6, .getfield 18, 3, 7, 4, 2, 392), 
  (9, .iload_n 1, 1, 0, 0, 0, 0), (10, .iaload, 1, 0, 0, 0, 0), (11, .if_icmp .ge 17, 3, 0, 0, 0, 0), (14, .aload_n 0, 1, 0, 0, 0, 0), (15, .getfield 21, 3, 7, 5, 2, 395), 
  (18, .iload_n 1, 1, 0, 0, 0, 0), (19, .bipush 120, 2, 0, 0, 0, 0), (21, .imul, 1, 0, 0, 0, 0), (22, .iload_n 2, 1, 0, 0, 0, 0), (23, .iadd, 1, 0, 0, 0, 0), 
  (24, .iaload, 1, 0, 0, 0, 0), (25, .goto 4, 3, 0, 0, 0, 0), (28, .iconst (-1), 1, 0, 0, 0, 0), (29, .ireturn, 1, 0, 0, 0, 0)]
/-- DropSwitch$State ageOf (II)I -/
noncomputable def cd_85 : List (Nat × Ent) := [
  (0, .iload_n 2, 1, 0, 0, 0, 0), (1, .ifCond .lt 32, 3, 0, 0, 0, 0), (4, .iload_n 2, 1, 0, 0, 0, 0), (5, .aload_n 0, 1, 0, 0, 0, 0), (6, .getfield 18, 3, 7, 4, 2, 392), 
  (9, .iload_n 1, 1, 0, 0, 0, 0), (10, .iaload, 1, 0, 0, 0, 0), (11, .if_icmp .ge 22, 3, 0, 0, 0, 0), (14, .aload_n 0, 1, 0, 0, 0, 0), (15, .getfield 33, 3, 7, 0, 0, 381), 
  (18, .aload_n 0, 1, 0, 0, 0, 0), (19, .getfield 24, 3, 7, 6, 2, 396), (22, .iload_n 1, 1, 0, 0, 0, 0), (23, .bipush 120, 2, 0, 0, 0, 0), (25, .imul, 1, 0, 0, 0, 0), 
  (26, .iload_n 2, 1, 0, 0, 0, 0), (27, .iadd, 1, 0, 0, 0, 0), (28, .iaload, 1, 0, 0, 0, 0), (29, .isub, 1, 0, 0, 0, 0), (30, .goto 4, 3, 0, 0, 0, 0), (33, .iconst 0, 1, 0, 0, 0, 0), 
  (34, .ireturn, 1, 0, 0, 0, 0)]
/-- DropSwitch$State putLast (III)V -/
noncomputable def cd_86 : List (Nat × Ent) := [
  (0, .aload_n 0, 1, 0, 0, 0, 0), (1, .getfield 18, 3, 7, 4, 2, 392), (4, .iload_n 1, 1, 0, 0, 0, 0), (5, .iaload, 1, 0, 0, 0, 0), (6, .bipush 120, 2, 0, 0, 0, 0), 
  (8, .if_icmp .lt 4, 3, 0, 0, 0, 0), (11, .return_, 1, 0, 0, 0, 0), (12, .iload_n 1, 1, 0, 0, 0, 0), (13, .bipush 120, 2, 0, 0, 0, 0), (15, .imul, 1, 0, 0, 0, 0), 
  (16, .aload_n 0, 1, 0, 0, 0, 0), (17, .getfield 18, 3, 7, 4, 2, 392), (20, .iload_n 1, 1, 0, 0, 0, 0), (21, .iaload, 1, 0, 0, 0, 0), (22, .iadd, 1, 0, 0, 0, 0), 
  (23, .istore 4, 2, 0, 0, 0, 0), (25, .aload_n 0, 1, 0, 0, 0, 0), (26, .getfield 21, 3, 7, 5, 2, 395), (29, .iload 4, 2, 0, 0, 0, 0), (31, .iload_n 2, 1, 0, 0, 0, 0), 
  (32, .iastore, 1, 0, 0, 0, 0), (33, .aload_n 0, 1, 0, 0, 0, 0), (34, .getfield 24, 3, 7, 6, 2, 396), (37, .iload 4, 2, 0, 0, 0, 0), (39, .aload_n 0, 1, 0, 0, 0, 0), 
  (40, .getfield 33, 3, 7, 0, 0, 381), (43, .iastore, 1, 0, 0, 0, 0), (44, .aload_n 0, 1, 0, 0, 0, 0), (45, .getfield 18, 3, 7, 4, 2, 392), (48, .iload_n 1, 1, 0, 0, 0, 0), 
  (49, .dup2, 1, 0, 0, 0, 0), (50, .iaload, 1, 0, 0, 0, 0), (51, .iconst 1, 1, 0, 0, 0, 0), (52, .iadd, 1, 0, 0, 0, 0), (53, .iastore, 1, 0, 0, 0, 0), (54, .aload_n 0, 1, 0, 0, 0, 0), 
  (55, .getfield 15, 3, 7, 3, 2, 388), (58, .iload_n 1, 1, 0, 0, 0, 0), (59, .dup2, 1, 0, 0, 0, 0), (60, .iaload, 1, 0, 0, 0, 0), (61, .iload_n 3, 1, 0, 0, 0, 0), 
  (62, .iadd, 1, 0, 0, 0, 0), (63, .iastore, 1, 0, 0, 0, 0), (64, .return_, 1, 0, 0, 0, 0)]
/-- DropSwitch$State remove (III)V -/
noncomputable def cd_87 : List (Nat × Ent) := [
  (0, .iload_n 2, 1, 0, 0, 0, 0), (1, .ifCond .lt 13, 3, 0, 0, 0, 0), (4, .iload_n 2, 1, 0, 0, 0, 0), (5, .aload_n 0, 1, 0, 0, 0, 0), (6, .getfield 18, 3, 7, 4, 2, 392), 
  (9, .iload_n 1, 1, 0, 0, 0, 0), (10, .iaload, 1, 0, 0, 0, 0), (11, .if_icmp .lt 4, 3, 0, 0, 0, 0), (14, .return_, 1, 0, 0, 0, 0), (15, .iload_n 1, 1, 0, 0, 0, 0), 
  (16, .bipush 120, 2, 0, 0, 0, 0), (18, .imul, 1, 0, 0, 0, 0), (19, .iload_n 2, 1, 0, 0, 0, 0), (20, .iadd, 1, 0, 0, 0, 0), (21, .istore 4, 2, 0, 0, 0, 0), 
  (23, .aload_n 0, 1, 0, 0, 0, 0), (24, .getfield 18, 3, 7, 4, 2, 392), (27, .iload_n 1, 1, 0, 0, 0, 0), (28, .iaload, 1, 0, 0, 0, 0), (29, .iload_n 2, 1, 0, 0, 0, 0), 
  (30, .isub, 1, 0, 0, 0, 0), (31, .iconst 1, 1, 0, 0, 0, 0), (32, .isub, 1, 0, 0, 0, 0), (33, .istore 5, 2, 0, 0, 0, 0), (35, .aload_n 0, 1, 0, 0, 0, 0), 
  (36, .getfield 21, 3, 7, 5, 2, 395), (39, .iload 4, 2, 0, 0, 0, 0), (41, .iconst 1, 1, 0, 0, 0, 0), (42, .iadd, 1, 0, 0, 0, 0), (43, .aload_n 0, 1, 0, 0, 0, 0), 
  (44, .getfield 21, 3, 7, 5, 2, 395), (47, .iload 4, 2, 0, 0, 0, 0), (49, .iload 5, 2, 0, 0, 0, 0), (51, .invokestatic 51, 3, 0, 5, 6, 537), (54, .aload_n 0, 1, 0, 0, 0, 0), 
  (55, .getfield 24, 3, 7, 6, 2, 396), (58, .iload 4, 2, 0, 0, 0, 0), (60, .iconst 1, 1, 0, 0, 0, 0), (61, .iadd, 1, 0, 0, 0, 0), (62, .aload_n 0, 1, 0, 0, 0, 0), 
  (63, .getfield 24, 3, 7, 6, 2, 396), (66, .iload 4, 2, 0, 0, 0, 0), (68, .iload 5, 2, 0, 0, 0, 0), (70, .invokestatic 51, 3, 0, 5, 6, 537), (73, .aload_n 0, 1, 0, 0, 0, 0), 
  (74, .getfield 18, 3, 7, 4, 2, 392), (77, .iload_n 1, 1, 0, 0, 0, 0), (78, .dup2, 1, 0, 0, 0, 0), (79, .iaload, 1, 0, 0, 0, 0), (80, .iconst 1, 1, 0, 0, 0, 0), 
  (81, .isub, 1, 0, 0, 0, 0), (82, .iastore, 1, 0, 0, 0, 0), (83, .aload_n 0, 1, 0, 0, 0, 0), (84, .getfield 15, 3, 7, 3, 2, 388), (87, .iload_n 1, 1, 0, 0, 0, 0), 
  (88, .dup2, 1, 0, 0, 0, 0), (89, .iaload, 1, 0, 0, 0, 0), (90, .iload_n 3, 1, 0, 0, 0, 0), (91, .isub, 1, 0, 0, 0, 0), (92, .iastore, 1, 0, 0, 0, 0), (93, .return_, 1, 0, 0, 0, 0)]
/-- DropSwitch$State learn (II)V -/
noncomputable def cd_88 : List (Nat × Ent) := [
  (0, .aload_n 0, 1, 0, 0, 0, 0), (1, .getfield 27, 3, 7, 7, 2, 397), (4, .iload_n 1, 1, 0, 0, 0, 0), (5, .iload_n 2, 1, 0, 0, 0, 0), (6, .iastore, 1, 0, 0, 0, 0), 
  (7, .aload_n 0, 1, 0, 0, 0, 0), (8, .getfield 30, 3, 7, 8, 2, 398), (11, .iload_n 1, 1, 0, 0, 0, 0), (12, .aload_n 0, 1, 0, 0, 0, 0), (13, .getfield 33, 3, 7, 0, 0, 381), 
  (16, .iastore, 1, 0, 0, 0, 0), (17, .return_, 1, 0, 0, 0, 0)]
/-- DropSwitch$State forget (I)V -/
noncomputable def cd_89 : List (Nat × Ent) := [
  (0, .iconst 0, 1, 0, 0, 0, 0), (1, .istore_n 2, 1, 0, 0, 0, 0), (2, .iload_n 2, 1, 0, 0, 0, 0), (3, .bipush 64, 2, 0, 0, 0, 0), (5, .if_icmp .ge 26, 3, 0, 0, 0, 0), 
  (8, .aload_n 0, 1, 0, 0, 0, 0), (9, .getfield 27, 3, 7, 7, 2, 397), (12, .iload_n 2, 1, 0, 0, 0, 0), (13, .iaload, 1, 0, 0, 0, 0), (14, .iload_n 1, 1, 0, 0, 0, 0), 
  (15, .if_icmp .ne 10, 3, 0, 0, 0, 0), (18, .aload_n 0, 1, 0, 0, 0, 0), (19, .getfield 27, 3, 7, 7, 2, 397), (22, .iload_n 2, 1, 0, 0, 0, 0), (23, .iconst (-1), 1, 0, 0, 0, 0), 
  (24, .iastore, 1, 0, 0, 0, 0), (25, .iinc 2 1, 3, 0, 0, 0, 0), (28, .goto (-26), 3, 0, 0, 0, 0), (31, .return_, 1, 0, 0, 0, 0)]
/-- DropSwitch$State wayTo (II)I -/
noncomputable def cd_90 : List (Nat × Ent) := [
  (0, .aload_n 0, 1, 0, 0, 0, 0), (1, .getfield 27, 3, 7, 7, 2, 397), (4, .iload_n 1, 1, 0, 0, 0, 0), (5, .iaload, 1, 0, 0, 0, 0), (6, .iconst (-1), 1, 0, 0, 0, 0), 
  (7, .if_icmp .eq 22, 3, 0, 0, 0, 0), (10, .aload_n 0, 1, 0, 0, 0, 0), (11, .getfield 33, 3, 7, 0, 0, 381), (14, .aload_n 0, 1, 0, 0, 0, 0), (15, .getfield 30, 3, 7, 8, 2, 398), 
  (18, .iload_n 1, 1, 0, 0, 0, 0), (19, .iaload, 1, 0, 0, 0, 0), (20, .isub, 1, 0, 0, 0, 0), (21, .iload_n 2, 1, 0, 0, 0, 0), (22, .if_icmp .gt 7, 3, 0, 0, 0, 0), 
  (25, .iconst 1, 1, 0, 0, 0, 0), (26, .goto 4, 3, 0, 0, 0, 0), (29, .iconst 0, 1, 0, 0, 0, 0), (30, .istore_n 3, 1, 0, 0, 0, 0), (31, .iload_n 3, 1, 0, 0, 0, 0), 
  (32, .ifCond .eq 12, 3, 0, 0, 0, 0), (35, .aload_n 0, 1, 0, 0, 0, 0), (36, .getfield 27, 3, 7, 7, 2, 397), (39, .iload_n 1, 1, 0, 0, 0, 0), (40, .iaload, 1, 0, 0, 0, 0), 
  (41, .goto 4, 3, 0, 0, 0, 0), (44, .iconst (-1), 1, 0, 0, 0, 0), (45, .ireturn, 1, 0, 0, 0, 0)]
/-- DropSwitch$Suppositions <init> ()V -/
noncomputable def cd_91 : List (Nat × Ent) := [
  (0, .aload_n 0, 1, 0, 0, 0, 0), (1, .invokespecial 3, 3, 0, 1, 4, 470), (4, .aload_n 0, 1, 0, 0, 0, 0), (5, .bipush 15, 2, 0, 0, 0, 0), (7, .newarray .int, 2, 1, 0, 0, 0), 
  (9, .putfield 11, 3, 8, 0, 12, 471), (12, .aload_n 0, 1, 0, 0, 0, 0), (13, .bipush 120, 2, 0, 0, 0, 0), (15, .newarray .boolean, 2, 4, 0, 0, 0), 
  (17, .putfield 15, 3, 8, 1, 12, 472), (20, .return_, 1, 0, 0, 0, 0)]
/-- DropSwitch$Suppositions clear ()V -/
noncomputable def cd_92 : List (Nat × Ent) := [
  (0, .aload_n 0, 1, 0, 0, 0, 0), (1, .getfield 11, 3, 8, 0, 2, 471), (4, .iconst (-1), 1, 0, 0, 0, 0), (5, .invokestatic 19, 3, 305, 2, 1, 509), (8, .iconst 0, 1, 0, 0, 0, 0), 
  (9, .istore_n 1, 1, 0, 0, 0, 0), (10, .iload_n 1, 1, 0, 0, 0, 0), (11, .bipush 120, 2, 0, 0, 0, 0), (13, .if_icmp .ge 16, 3, 0, 0, 0, 0), (16, .aload_n 0, 1, 0, 0, 0, 0), 
  (17, .getfield 15, 3, 8, 1, 2, 472), (20, .iload_n 1, 1, 0, 0, 0, 0), (21, .iconst 0, 1, 0, 0, 0, 0), (22, .bastore, 1, 0, 0, 0, 0), (23, .iinc 1 1, 3, 0, 0, 0, 0), 
  (26, .goto (-16), 3, 0, 0, 0, 0), (29, .return_, 1, 0, 0, 0, 0)]
/-- DropSwitch$Suppositions set (III)V -/
noncomputable def cd_93 : List (Nat × Ent) := [
  (0, .iload_n 1, 1, 0, 0, 0, 0), (1, .tableswitch 72 0 3 #[31, 41, 51, 61], 31, 0, 0, 0, 0), (32, .aload_n 0, 1, 0, 0, 0, 0), (33, .getfield 11, 3, 8, 0, 2, 471), 
  (36, .iload_n 2, 1, 0, 0, 0, 0), (37, .iload_n 3, 1, 0, 0, 0, 0), (38, .iastore, 1, 0, 0, 0, 0), (39, .goto 44, 3, 0, 0, 0, 0), (42, .aload_n 0, 1, 0, 0, 0, 0), 
  (43, .getfield 11, 3, 8, 0, 2, 471), (46, .iconst 4, 1, 0, 0, 0, 0), (47, .iload_n 3, 1, 0, 0, 0, 0), (48, .iastore, 1, 0, 0, 0, 0), (49, .goto 34, 3, 0, 0, 0, 0), 
  (52, .aload_n 0, 1, 0, 0, 0, 0), (53, .getfield 11, 3, 8, 0, 2, 471), (56, .iconst 5, 1, 0, 0, 0, 0), (57, .iload_n 3, 1, 0, 0, 0, 0), (58, .iastore, 1, 0, 0, 0, 0), 
  (59, .goto 24, 3, 0, 0, 0, 0), (62, .aload_n 0, 1, 0, 0, 0, 0), (63, .getfield 11, 3, 8, 0, 2, 471), (66, .bipush 6, 2, 0, 0, 0, 0), (68, .iload_n 3, 1, 0, 0, 0, 0), 
  (69, .iastore, 1, 0, 0, 0, 0), (70, .goto 13, 3, 0, 0, 0, 0), (73, .aload_n 0, 1, 0, 0, 0, 0), (74, .getfield 11, 3, 8, 0, 2, 471), (77, .bipush 7, 2, 0, 0, 0, 0), 
  (79, .iload_n 2, 1, 0, 0, 0, 0), (80, .iadd, 1, 0, 0, 0, 0), (81, .iconst 1, 1, 0, 0, 0, 0), (82, .iastore, 1, 0, 0, 0, 0), (83, .return_, 1, 0, 0, 0, 0)]
/-- DropSwitch$Suppositions settings ()I -/
noncomputable def cd_94 : List (Nat × Ent) := [
  (0, .iconst 0, 1, 0, 0, 0, 0), (1, .istore_n 1, 1, 0, 0, 0, 0), (2, .iconst 0, 1, 0, 0, 0, 0), (3, .istore_n 2, 1, 0, 0, 0, 0), (4, .iload_n 2, 1, 0, 0, 0, 0), 
  (5, .aload_n 0, 1, 0, 0, 0, 0), (6, .getfield 11, 3, 8, 0, 2, 471), (9, .arraylength, 1, 0, 0, 0, 0), (10, .if_icmp .ge 22, 3, 0, 0, 0, 0), (13, .aload_n 0, 1, 0, 0, 0, 0), 
  (14, .getfield 11, 3, 8, 0, 2, 471), (17, .iload_n 2, 1, 0, 0, 0, 0), (18, .iaload, 1, 0, 0, 0, 0), (19, .iconst (-1), 1, 0, 0, 0, 0), (20, .if_icmp .eq 6, 3, 0, 0, 0, 0), 
  (23, .iinc 1 1, 3, 0, 0, 0, 0), (26, .iinc 2 1, 3, 0, 0, 0, 0), (29, .goto (-25), 3, 0, 0, 0, 0), (32, .iload_n 1, 1, 0, 0, 0, 0), (33, .ireturn, 1, 0, 0, 0, 0)]
/-- DropSwitch$Suppositions eventsLeftOut ()I -/
noncomputable def cd_95 : List (Nat × Ent) := [
  (0, .iconst 0, 1, 0, 0, 0, 0), (1, .istore_n 1, 1, 0, 0, 0, 0), (2, .iconst 0, 1, 0, 0, 0, 0), (3, .istore_n 2, 1, 0, 0, 0, 0), (4, .iload_n 2, 1, 0, 0, 0, 0), 
  (5, .bipush 120, 2, 0, 0, 0, 0), (7, .if_icmp .ge 21, 3, 0, 0, 0, 0), (10, .aload_n 0, 1, 0, 0, 0, 0), (11, .getfield 15, 3, 8, 1, 2, 472), (14, .iload_n 2, 1, 0, 0, 0, 0), 
  (15, .baload, 1, 0, 0, 0, 0), (16, .ifCond .eq 6, 3, 0, 0, 0, 0), (19, .iinc 1 1, 3, 0, 0, 0, 0), (22, .iinc 2 1, 3, 0, 0, 0, 0), (25, .goto (-21), 3, 0, 0, 0, 0), 
  (28, .iload_n 1, 1, 0, 0, 0, 0), (29, .ireturn, 1, 0, 0, 0, 0)]
/-- DropSwitch$Suppositions changeLimits (LDropSwitch$Limits;)V -/
noncomputable def cd_96 : List (Nat × Ent) := [
  (0, .iconst 0, 1, 0, 0, 0, 0), (1, .istore_n 2, 1, 0, 0, 0, 0), (2, .iload_n 2, 1, 0, 0, 0, 0), (3, .iconst 4, 1, 0, 0, 0, 0), (4, .if_icmp .ge 26, 3, 0, 0, 0, 0), 
  (7, .aload_n 1, 1, 0, 0, 0, 0), (8, .getfield 25, 3, 1, 1, 2, 182), (11, .iload_n 2, 1, 0, 0, 0, 0), (12, .aload_n 0, 1, 0, 0, 0, 0), (13, .iload_n 2, 1, 0, 0, 0, 0), 
  (14, .aload_n 1, 1, 0, 0, 0, 0), (15, .getfield 25, 3, 1, 1, 2, 182), (18, .iload_n 2, 1, 0, 0, 0, 0), (19, .iaload, 1, 0, 0, 0, 0), (20, .invokevirtual 30, 3, 97, 3, 0, 646), 
  (23, .iastore, 1, 0, 0, 0, 0), (24, .iinc 2 1, 3, 0, 0, 0, 0), (27, .goto (-25), 3, 0, 0, 0, 0), (30, .aload_n 1, 1, 0, 0, 0, 0), (31, .aload_n 0, 1, 0, 0, 0, 0), 
  (32, .iconst 4, 1, 0, 0, 0, 0), (33, .aload_n 1, 1, 0, 0, 0, 0), (34, .getfield 34, 3, 1, 5, 0, 198), (37, .invokevirtual 30, 3, 97, 3, 0, 646), (40, .putfield 34, 3, 1, 5, 0, 198), 
  (43, .aload_n 1, 1, 0, 0, 0, 0), (44, .aload_n 0, 1, 0, 0, 0, 0), (45, .iconst 5, 1, 0, 0, 0, 0), (46, .aload_n 1, 1, 0, 0, 0, 0), (47, .getfield 38, 3, 1, 6, 0, 202), 
  (50, .invokevirtual 30, 3, 97, 3, 0, 646), (53, .putfield 38, 3, 1, 6, 0, 202), (56, .aload_n 1, 1, 0, 0, 0, 0), (57, .aload_n 0, 1, 0, 0, 0, 0), (58, .bipush 6, 2, 0, 0, 0, 0), 
  (60, .aload_n 1, 1, 0, 0, 0, 0), (61, .getfield 41, 3, 1, 7, 0, 206), (64, .invokevirtual 30, 3, 97, 3, 0, 646), (67, .putfield 41, 3, 1, 7, 0, 206), (70, .iconst 0, 1, 0, 0, 0, 0), 
  (71, .istore_n 2, 1, 0, 0, 0, 0), (72, .iload_n 2, 1, 0, 0, 0, 0), (73, .bipush 8, 2, 0, 0, 0, 0), (75, .if_icmp .ge 34, 3, 0, 0, 0, 0), (78, .aload_n 0, 1, 0, 0, 0, 0), 
  (79, .getfield 11, 3, 8, 0, 2, 471), (82, .bipush 7, 2, 0, 0, 0, 0), (84, .iload_n 2, 1, 0, 0, 0, 0), (85, .iadd, 1, 0, 0, 0, 0), (86, .iaload, 1, 0, 0, 0, 0), 
  (87, .iconst (-1), 1, 0, 0, 0, 0), (88, .if_icmp .eq 15, 3, 0, 0, 0, 0), (91, .aload_n 1, 1, 0, 0, 0, 0), (92, .dup, 1, 0, 0, 0, 0), (93, .getfield 44, 3, 1, 9, 0, 213), 
  (96, .iconst 1, 1, 0, 0, 0, 0), (97, .iload_n 2, 1, 0, 0, 0, 0), (98, .ishl, 1, 0, 0, 0, 0), (99, .ior, 1, 0, 0, 0, 0), (100, .putfield 44, 3, 1, 9, 0, 213), 
  (103, .iinc 2 1, 3, 0, 0, 0, 0), (106, .goto (-34), 3, 0, 0, 0, 0), (109, .return_, 1, 0, 0, 0, 0)]
/-- DropSwitch$Suppositions valueOr (II)I -/
noncomputable def cd_97 : List (Nat × Ent) := [
  (0, .aload_n 0, 1, 0, 0, 0, 0), (1, .getfield 11, 3, 8, 0, 2, 471), (4, .iload_n 1, 1, 0, 0, 0, 0), (5, .iaload, 1, 0, 0, 0, 0), (6, .iconst (-1), 1, 0, 0, 0, 0), 
  (7, .if_icmp .eq 12, 3, 0, 0, 0, 0), (10, .aload_n 0, 1, 0, 0, 0, 0), (11, .getfield 11, 3, 8, 0, 2, 471), (14, .iload_n 1, 1, 0, 0, 0, 0), (15, .iaload, 1, 0, 0, 0, 0), 
  (16, .goto 4, 3, 0, 0, 0, 0), (19, .iload_n 2, 1, 0, 0, 0, 0), (20, .ireturn, 1, 0, 0, 0, 0)]
/-- DropSwitch <init> ()V -/
noncomputable def cd_98 : List (Nat × Ent) := [
  (0, .aload_n 0, 1, 0, 0, 0, 0), (1, .invokespecial 3, 3, 0, 1, 4, 154), (4, .aload_n 0, 1, 0, 0, 0, 0), (5, .sipush 600, 3, 0, 0, 0, 0), (8, .newarray .byte, 2, 3, 0, 0, 0), 
  (10, .putfield 9, 3, 9, 0, 12, 538), (13, .aload_n 0, 1, 0, 0, 0, 0), (14, .iconst 0, 1, 0, 0, 0, 0), (15, .putfield 13, 3, 9, 1, 0, 539), (18, .aload_n 0, 1, 0, 0, 0, 0), 
  (19, .iconst (-1), 1, 0, 0, 0, 0), (20, .putfield 17, 3, 9, 2, 0, 540), (23, .aload_n 0, 1, 0, 0, 0, 0), (24, .iconst 0, 1, 0, 0, 0, 0), (25, .putfield 20, 3, 9, 3, 0, 541), 
  (28, .aload_n 0, 1, 0, 0, 0, 0), (29, .new 23, 3, 4, 11, 0, 157), (32, .dup, 1, 0, 0, 0, 0), (33, .aload_n 0, 1, 0, 0, 0, 0), (34, .getfield 9, 3, 9, 0, 2, 538), 
  (37, .invokespecial 25, 3, 30, 2, 2, 159), (40, .putfield 28, 3, 9, 4, 12, 542), (43, .aload_n 0, 1, 0, 0, 0, 0), (44, .new 32, 3, 6, 6, 0, 307), (47, .dup, 1, 0, 0, 0, 0), 
  (48, .invokespecial 34, 3, 65, 1, 2, 308), (51, .putfield 35, 3, 9, 5, 2, 543), (54, .aload_n 0, 1, 0, 0, 0, 0), (55, .new 39, 3, 0, 11, 0, 309), (58, .dup, 1, 0, 0, 0, 0), 
  (59, .invokespecial 41, 3, 0, 1, 3, 311), (62, .putfield 42, 3, 9, 6, 12, 544), (65, .aload_n 0, 1, 0, 0, 0, 0), (66, .bipush 8, 2, 0, 0, 0, 0), 
  (68, .anewarray 46, 3, 5, 0, 0, 365), (71, .putfield 48, 3, 9, 7, 12, 545), (74, .aload_n 0, 1, 0, 0, 0, 0), (75, .new 52, 3, 5, 5, 0, 367), (78, .dup, 1, 0, 0, 0, 0), 
  (79, .aload_n 0, 1, 0, 0, 0, 0), (80, .getfield 42, 3, 9, 6, 2, 544), (83, .invokespecial 54, 3, 48, 2, 2, 369), (86, .putfield 57, 3, 9, 8, 12, 546), 
  (89, .aload_n 0, 1, 0, 0, 0, 0), (90, .new 52, 3, 5, 5, 0, 367), (93, .dup, 1, 0, 0, 0, 0), (94, .aload_n 0, 1, 0, 0, 0, 0), (95, .getfield 42, 3, 9, 6, 2, 544), 
  (98, .invokespecial 54, 3, 48, 2, 2, 369), (101, .putfield 61, 3, 9, 9, 12, 547), (104, .aload_n 0, 1, 0, 0, 0, 0), (105, .new 64, 3, 8, 2, 0, 465), (108, .dup, 1, 0, 0, 0, 0), 
  (109, .invokespecial 66, 3, 91, 1, 3, 467), (112, .putfield 67, 3, 9, 10, 12, 548), (115, .aload_n 0, 1, 0, 0, 0, 0), (116, .new 52, 3, 5, 5, 0, 367), (119, .dup, 1, 0, 0, 0, 0), 
  (120, .aload_n 0, 1, 0, 0, 0, 0), (121, .getfield 42, 3, 9, 6, 2, 544), (124, .invokespecial 54, 3, 48, 2, 2, 369), (127, .putfield 71, 3, 9, 11, 12, 549), 
  (130, .aload_n 0, 1, 0, 0, 0, 0), (131, .iconst 1, 1, 0, 0, 0, 0), (132, .putfield 74, 3, 9, 12, 0, 550), (135, .aload_n 0, 1, 0, 0, 0, 0), (136, .iconst 0, 1, 0, 0, 0, 0), 
  (137, .putfield 77, 3, 9, 13, 0, 551), (140, .aload_n 0, 1, 0, 0, 0, 0), (141, .bipush 120, 2, 0, 0, 0, 0), (143, .newarray .int, 2, 1, 0, 0, 0), 
  (145, .putfield 80, 3, 9, 14, 12, 552), (148, .aload_n 0, 1, 0, 0, 0, 0), (149, .sipush 720, 3, 0, 0, 0, 0), (152, .newarray .long, 2, 2, 0, 0, 0), 
  (154, .putfield 84, 3, 9, 15, 12, 553), (157, .aload_n 0, 1, 0, 0, 0, 0), (158, .new 88, 3, 2, 2, 0, 480), (161, .dup, 1, 0, 0, 0, 0), (162, .invokespecial 90, 3, 12, 1, 3, 482), 
  (165, .putfield 91, 3, 9, 16, 12, 554), (168, .iconst 0, 1, 0, 0, 0, 0), (169, .istore_n 1, 1, 0, 0, 0, 0), (170, .iload_n 1, 1, 0, 0, 0, 0), (171, .bipush 8, 2, 0, 0, 0, 0), 
  (173, .if_icmp .ge 22, 3, 0, 0, 0, 0), (176, .aload_n 0, 1, 0, 0, 0, 0), (177, .getfield 48, 3, 9, 7, 2, 545), (180, .iload_n 1, 1, 0, 0, 0, 0), (181, .new 46, 3, 7, 9, 0, 365), 
  (184, .dup, 1, 0, 0, 0, 0), (185, .invokespecial 95, 3, 77, 1, 3, 496), (188, .aastore, 1, 0, 0, 0, 0), (189, .iinc 1 1, 3, 0, 0, 0, 0), (192, .goto (-22), 3, 0, 0, 0, 0), 
  (195, .aload_n 0, 1, 0, 0, 0, 0), (196, .invokevirtual 96, 3, 157, 1, 0, 497), (199, .return_, 1, 0, 0, 0, 0)]
/-- DropSwitch append (IIIII)I -/
noncomputable def cd_99 : List (Nat × Ent) := [
  (0, .aload_n 0, 1, 0, 0, 0, 0), (1, .getfield 13, 3, 9, 1, 0, 539), (4, .bipush 20, 2, 0, 0, 0, 0), (6, .iadd, 1, 0, 0, 0, 0), (7, .sipush 600, 3, 0, 0, 0, 0), 
  (10, .if_icmp .le 5, 3, 0, 0, 0, 0), (13, .iconst (-1), 1, 0, 0, 0, 0), (14, .ireturn, 1, 0, 0, 0, 0), (15, .aload_n 0, 1, 0, 0, 0, 0), (16, .iload_n 1, 1, 0, 0, 0, 0), 
  (17, .invokevirtual 99, 3, 156, 2, 0, 594), (20, .aload_n 0, 1, 0, 0, 0, 0), (21, .iload_n 2, 1, 0, 0, 0, 0), (22, .invokevirtual 99, 3, 156, 2, 0, 594), 
  (25, .aload_n 0, 1, 0, 0, 0, 0), (26, .iload_n 3, 1, 0, 0, 0, 0), (27, .invokevirtual 99, 3, 156, 2, 0, 594), (30, .aload_n 0, 1, 0, 0, 0, 0), (31, .iload 4, 2, 0, 0, 0, 0), 
  (33, .invokevirtual 99, 3, 156, 2, 0, 594), (36, .aload_n 0, 1, 0, 0, 0, 0), (37, .iload 5, 2, 0, 0, 0, 0), (39, .invokevirtual 99, 3, 156, 2, 0, 594), 
  (42, .aload_n 0, 1, 0, 0, 0, 0), (43, .getfield 13, 3, 9, 1, 0, 539), (46, .ireturn, 1, 0, 0, 0, 0)]
/-- DropSwitch truncate (I)Z -/
noncomputable def cd_100 : List (Nat × Ent) := [
  (0, .iload_n 1, 1, 0, 0, 0, 0), (1, .ifCond .lt 11, 3, 0, 0, 0, 0), (4, .iload_n 1, 1, 0, 0, 0, 0), (5, .aload_n 0, 1, 0, 0, 0, 0), (6, .getfield 13, 3, 9, 1, 0, 539), 
  (9, .if_icmp .le 5, 3, 0, 0, 0, 0), (12, .iconst 0, 1, 0, 0, 0, 0), (13, .ireturn, 1, 0, 0, 1, 0), (14, .aload_n 0, 1, 0, 0, 0, 0), (15, .iload_n 1, 1, 0, 0, 0, 0), 
  (16, .putfield 13, 3, 9, 1, 0, 539), (19, .iconst 1, 1, 0, 0, 0, 0), (20, .ireturn, 1, 0, 0, 1, 0)]
/-- DropSwitch load ()I -/
noncomputable def cd_101 : List (Nat × Ent) := [
  (0, .aload_n 0, 1, 0, 0, 0, 0), (1, .getfield 28, 3, 9, 4, 2, 542), (4, .aload_n 0, 1, 0, 0, 0, 0), (5, .getfield 13, 3, 9, 1, 0, 539), (8, .invokevirtual 103, 3, 31, 2, 0, 819), 
  (11, .istore_n 1, 1, 0, 0, 0, 0), (12, .aload_n 0, 1, 0, 0, 0, 0), (13, .iconst 0, 1, 0, 0, 0, 0), (14, .putfield 13, 3, 9, 1, 0, 539), (17, .aload_n 0, 1, 0, 0, 0, 0), 
  (18, .aload_n 0, 1, 0, 0, 0, 0), (19, .getfield 28, 3, 9, 4, 2, 542), (22, .getfield 107, 3, 4, 1, 0, 273), (25, .putfield 17, 3, 9, 2, 0, 540), (28, .aload_n 0, 1, 0, 0, 0, 0), 
  (29, .aload_n 0, 1, 0, 0, 0, 0), (30, .getfield 28, 3, 9, 4, 2, 542), (33, .getfield 108, 3, 4, 2, 0, 275), (36, .putfield 20, 3, 9, 3, 0, 541), (39, .iload_n 1, 1, 0, 0, 0, 0), 
  (40, .ifCond .ne 11, 3, 0, 0, 0, 0), (43, .new 109, 3, 1, 0, 1, 973), (46, .dup, 1, 0, 0, 0, 0), (47, .invokespecial 111, 3, 0, 1, 99, 1015), (50, .athrow, 1, 0, 0, 0, 0), 
  (51, .aload_n 0, 1, 0, 0, 0, 0), (52, .getfield 28, 3, 9, 4, 2, 542), (55, .getfield 112, 3, 4, 0, 2, 271), (58, .astore_n 2, 1, 0, 0, 0, 0), (59, .aload_n 0, 1, 0, 0, 0, 0), 
  (60, .getfield 28, 3, 9, 4, 2, 542), (63, .aload_n 0, 1, 0, 0, 0, 0), (64, .getfield 35, 3, 9, 5, 2, 543), (67, .putfield 112, 3, 4, 0, 2, 271), (70, .aload_n 0, 1, 0, 0, 0, 0), 
  (71, .aload_n 2, 1, 0, 0, 0, 0), (72, .putfield 35, 3, 9, 5, 2, 543), (75, .aload_n 0, 1, 0, 0, 0, 0), (76, .invokevirtual 96, 3, 157, 1, 0, 497), (79, .aload_n 0, 1, 0, 0, 0, 0), 
  (80, .getfield 35, 3, 9, 5, 2, 543), (83, .getfield 113, 3, 6, 0, 2, 248), (86, .getfield 117, 3, 1, 0, 0, 177), (89, .ireturn, 1, 0, 0, 0, 0)]
/-- DropSwitch errorOffset ()I -/
noncomputable def cd_102 : List (Nat × Ent) := [
  (0, .aload_n 0, 1, 0, 0, 0, 0), (1, .getfield 17, 3, 9, 2, 0, 540), (4, .ireturn, 1, 0, 0, 0, 0)]
/-- DropSwitch errorKind ()I -/
noncomputable def cd_103 : List (Nat × Ent) := [
  (0, .aload_n 0, 1, 0, 0, 0, 0), (1, .getfield 20, 3, 9, 3, 0, 541), (4, .ireturn, 1, 0, 0, 0, 0)]
/-- DropSwitch count (I)I -/
noncomputable def cd_104 : List (Nat × Ent) := [
  (0, .iload_n 1, 1, 0, 0, 0, 0), (1, .tableswitch 96 0 5 #[39, 50, 58, 66, 74, 85], 39, 0, 0, 0, 0), (40, .aload_n 0, 1, 0, 0, 0, 0), (41, .getfield 35, 3, 9, 5, 2, 543), 
  (44, .getfield 113, 3, 6, 0, 2, 248), (47, .getfield 117, 3, 1, 0, 0, 177), (50, .ireturn, 1, 0, 0, 0, 0), (51, .aload_n 0, 1, 0, 0, 0, 0), (52, .getfield 35, 3, 9, 5, 2, 543), 
  (55, .getfield 122, 3, 6, 2, 0, 252), (58, .ireturn, 1, 0, 0, 0, 0), (59, .aload_n 0, 1, 0, 0, 0, 0), (60, .getfield 42, 3, 9, 6, 2, 544), (63, .getfield 125, 3, 0, 0, 0, 316), 
  (66, .ireturn, 1, 0, 0, 0, 0), (67, .aload_n 0, 1, 0, 0, 0, 0), (68, .getfield 42, 3, 9, 6, 2, 544), (71, .getfield 128, 3, 0, 1, 0, 318), (74, .ireturn, 1, 0, 0, 0, 0), 
  (75, .aload_n 0, 1, 0, 0, 0, 0), (76, .getfield 57, 3, 9, 8, 2, 546), (79, .getfield 131, 3, 5, 2, 2, 451), (82, .getfield 135, 3, 3, 0, 0, 425), (85, .ireturn, 1, 0, 0, 0, 0), 
  (86, .aload_n 0, 1, 0, 0, 0, 0), (87, .getfield 57, 3, 9, 8, 2, 546), (90, .getfield 140, 3, 5, 1, 2, 449), (93, .getfield 144, 3, 7, 0, 0, 382), (96, .ireturn, 1, 0, 0, 0, 0), 
  (97, .new 147, 3, 3, 0, 1, 1045), (100, .dup, 1, 0, 0, 0, 0), (101, .invokespecial 149, 3, 0, 1, 99, 1054), (104, .athrow, 1, 0, 0, 0, 0)]
/-- DropSwitch arrive (IIIII)I -/
noncomputable def cd_105 : List (Nat × Ent) := [
  (0, .aload_n 0, 1, 0, 0, 0, 0), (1, .iload_n 1, 1, 0, 0, 0, 0), (2, .invokevirtual 150, 3, 147, 2, 0, 1069), (5, .aload_n 0, 1, 0, 0, 0, 0), (6, .iload_n 2, 1, 0, 0, 0, 0), 
  (7, .invokevirtual 153, 3, 153, 2, 0, 1088), (10, .aload_n 0, 1, 0, 0, 0, 0), (11, .iload_n 3, 1, 0, 0, 0, 0), (12, .invokevirtual 153, 3, 153, 2, 0, 1088), 
  (15, .iload 4, 2, 0, 0, 0, 0), (17, .iconst 1, 1, 0, 0, 0, 0), (18, .if_icmp .lt 21, 3, 0, 0, 0, 0), (21, .iload 4, 2, 0, 0, 0, 0), (23, .bipush 9, 2, 0, 0, 0, 0), 
  (25, .if_icmp .gt 14, 3, 0, 0, 0, 0), (28, .iload 5, 2, 0, 0, 0, 0), (30, .ifCond .lt 9, 3, 0, 0, 0, 0), (33, .iload 5, 2, 0, 0, 0, 0), (35, .iconst 3, 1, 0, 0, 0, 0), 
  (36, .if_icmp .le 11, 3, 0, 0, 0, 0), (39, .new 109, 3, 1, 0, 1, 973), (42, .dup, 1, 0, 0, 0, 0), (43, .invokespecial 111, 3, 0, 1, 99, 1015), (46, .athrow, 1, 0, 0, 0, 0), 
  (47, .aload_n 0, 1, 0, 0, 0, 0), (48, .invokevirtual 156, 3, 155, 1, 0, 1092), (51, .aload_n 0, 1, 0, 0, 0, 0), (52, .getfield 42, 3, 9, 6, 2, 544), 
  (55, .getfield 128, 3, 0, 1, 0, 318), (58, .istore 6, 2, 0, 0, 0, 0), (60, .aload_n 0, 1, 0, 0, 0, 0), (61, .getfield 42, 3, 9, 6, 2, 544), (64, .iload_n 1, 1, 0, 0, 0, 0), 
  (65, .iload_n 2, 1, 0, 0, 0, 0), (66, .iload_n 3, 1, 0, 0, 0, 0), (67, .iload 4, 2, 0, 0, 0, 0), (69, .iload 5, 2, 0, 0, 0, 0), (71, .invokevirtual 159, 3, 2, 6, 0, 1111), 
  (74, .aload_n 0, 1, 0, 0, 0, 0), (75, .getfield 42, 3, 9, 6, 2, 544), (78, .getfield 163, 3, 0, 10, 2, 341), (81, .iload 6, 2, 0, 0, 0, 0), (83, .aload_n 0, 1, 0, 0, 0, 0), 
  (84, .getfield 35, 3, 9, 5, 2, 543), (87, .aload_n 0, 1, 0, 0, 0, 0), (88, .getfield 42, 3, 9, 6, 2, 544), (91, .iload 6, 2, 0, 0, 0, 0), 
  (93, .invokevirtual 165, 3, 72, 3, 0, 1119), (96, .iastore, 1, 0, 0, 0, 0), (97, .aload_n 0, 1, 0, 0, 0, 0), (98, .invokevirtual 169, 3, 158, 1, 0, 1140), 
  (101, .ireturn, 1, 0, 0, 0, 0)]
/-- DropSwitch tick ()I -/
noncomputable def cd_106 : List (Nat × Ent) := [
  (0, .aload_n 0, 1, 0, 0, 0, 0), (1, .invokevirtual 156, 3, 155, 1, 0, 1092), (4, .aload_n 0, 1, 0, 0, 0, 0), (5, .getfield 42, 3, 9, 6, 2, 544), (8, .iconst 1, 1, 0, 0, 0, 0), 
  (9, .iconst (-1), 1, 0, 0, 0, 0), (10, .invokevirtual 173, 3, 1, 3, 0, 1151), (13, .aload_n 0, 1, 0, 0, 0, 0), (14, .invokevirtual 169, 3, 158, 1, 0, 1140), 
  (17, .ireturn, 1, 0, 0, 0, 0)]
/-- DropSwitch link (IZ)I -/
noncomputable def cd_107 : List (Nat × Ent) := [
  (0, .aload_n 0, 1, 0, 0, 0, 0), (1, .iload_n 1, 1, 0, 0, 0, 0), (2, .invokevirtual 150, 3, 147, 2, 0, 1069), (5, .aload_n 0, 1, 0, 0, 0, 0), 
  (6, .invokevirtual 156, 3, 155, 1, 0, 1092), (9, .aload_n 0, 1, 0, 0, 0, 0), (10, .getfield 42, 3, 9, 6, 2, 544), (13, .iload_n 2, 1, 0, 0, 0, 0), 
  (14, .ifCond .eq 7, 3, 0, 0, 0, 0), (17, .iconst 2, 1, 0, 0, 0, 0), (18, .goto 4, 3, 0, 0, 0, 0), (21, .iconst 3, 1, 0, 0, 0, 0), (22, .iload_n 1, 1, 0, 0, 0, 0), 
  (23, .invokevirtual 173, 3, 1, 3, 0, 1151), (26, .aload_n 0, 1, 0, 0, 0, 0), (27, .invokevirtual 169, 3, 158, 1, 0, 1140), (30, .ireturn, 1, 0, 0, 0, 0)]
/-- DropSwitch rewind (I)I -/
noncomputable def cd_108 : List (Nat × Ent) := [
  (0, .iload_n 1, 1, 0, 0, 0, 0), (1, .ifCond .lt 14, 3, 0, 0, 0, 0), (4, .iload_n 1, 1, 0, 0, 0, 0), (5, .aload_n 0, 1, 0, 0, 0, 0), (6, .getfield 42, 3, 9, 6, 2, 544), 
  (9, .getfield 125, 3, 0, 0, 0, 316), (12, .if_icmp .le 11, 3, 0, 0, 0, 0), (15, .new 109, 3, 1, 0, 1, 973), (18, .dup, 1, 0, 0, 0, 0), (19, .invokespecial 111, 3, 0, 1, 99, 1015), 
  (22, .athrow, 1, 0, 0, 0, 0), (23, .aload_n 0, 1, 0, 0, 0, 0), (24, .getfield 42, 3, 9, 6, 2, 544), (27, .iload_n 1, 1, 0, 0, 0, 0), (28, .invokevirtual 177, 3, 3, 2, 0, 501), 
  (31, .aload_n 0, 1, 0, 0, 0, 0), (32, .getfield 67, 3, 9, 10, 2, 548), (35, .invokevirtual 180, 3, 92, 1, 0, 505), (38, .aload_n 0, 1, 0, 0, 0, 0), (39, .dup, 1, 0, 0, 0, 0), 
  (40, .getfield 74, 3, 9, 12, 0, 550), (43, .iconst 1, 1, 0, 0, 0, 0), (44, .iadd, 1, 0, 0, 0, 0), (45, .putfield 74, 3, 9, 12, 0, 550), (48, .aload_n 0, 1, 0, 0, 0, 0), 
  (49, .getfield 57, 3, 9, 8, 2, 546), (52, .invokevirtual 183, 3, 49, 1, 0, 519), (55, .iconst 0, 1, 0, 0, 0, 0), (56, .istore_n 2, 1, 0, 0, 0, 0), (57, .iload_n 2, 1, 0, 0, 0, 0), 
  (58, .iload_n 1, 1, 0, 0, 0, 0), (59, .if_icmp .ge 18, 3, 0, 0, 0, 0), (62, .aload_n 0, 1, 0, 0, 0, 0), (63, .getfield 57, 3, 9, 8, 2, 546), (66, .iload_n 2, 1, 0, 0, 0, 0), 
  (67, .invokevirtual 186, 3, 51, 2, 0, 650), (70, .pop, 1, 0, 0, 0, 0), (71, .iinc 2 1, 3, 0, 0, 0, 0), (74, .goto (-17), 3, 0, 0, 0, 0), (77, .aload_n 0, 1, 0, 0, 0, 0), 
  (78, .getfield 57, 3, 9, 8, 2, 546), (81, .getfield 131, 3, 5, 2, 2, 451), (84, .getfield 135, 3, 3, 0, 0, 425), (87, .ireturn, 1, 0, 0, 0, 0)]
/-- DropSwitch eventKind (I)I -/
noncomputable def cd_109 : List (Nat × Ent) := [
  (0, .aload_n 0, 1, 0, 0, 0, 0), (1, .iload_n 1, 1, 0, 0, 0, 0), (2, .invokevirtual 190, 3, 149, 2, 0, 1173), (5, .aload_n 0, 1, 0, 0, 0, 0), (6, .getfield 42, 3, 9, 6, 2, 544), 
  (9, .getfield 193, 3, 0, 2, 2, 321), (12, .iload_n 1, 1, 0, 0, 0, 0), (13, .iaload, 1, 0, 0, 0, 0), (14, .ireturn, 1, 0, 0, 0, 0)]
/-- DropSwitch packetOf (I)I -/
noncomputable def cd_110 : List (Nat × Ent) := [
  (0, .aload_n 0, 1, 0, 0, 0, 0), (1, .iload_n 1, 1, 0, 0, 0, 0), (2, .invokevirtual 190, 3, 149, 2, 0, 1173), (5, .aload_n 0, 1, 0, 0, 0, 0), (6, .getfield 42, 3, 9, 6, 2, 544), 
  (9, .getfield 196, 3, 0, 4, 2, 326), (12, .iload_n 1, 1, 0, 0, 0, 0), (13, .iaload, 1, 0, 0, 0, 0), (14, .ireturn, 1, 0, 0, 0, 0)]
/-- DropSwitch arrivalOf (I)I -/
noncomputable def cd_111 : List (Nat × Ent) := [
  (0, .aload_n 0, 1, 0, 0, 0, 0), (1, .iload_n 1, 1, 0, 0, 0, 0), (2, .invokevirtual 199, 3, 151, 2, 0, 1191), (5, .aload_n 0, 1, 0, 0, 0, 0), (6, .getfield 42, 3, 9, 6, 2, 544), 
  (9, .getfield 202, 3, 0, 5, 2, 328), (12, .iload_n 1, 1, 0, 0, 0, 0), (13, .iaload, 1, 0, 0, 0, 0), (14, .ireturn, 1, 0, 0, 0, 0)]
/-- DropSwitch fill (I)I -/
noncomputable def cd_112 : List (Nat × Ent) := [
  (0, .aload_n 0, 1, 0, 0, 0, 0), (1, .iload_n 1, 1, 0, 0, 0, 0), (2, .invokevirtual 150, 3, 147, 2, 0, 1069), (5, .aload_n 0, 1, 0, 0, 0, 0), (6, .getfield 57, 3, 9, 8, 2, 546), 
  (9, .getfield 140, 3, 5, 1, 2, 449), (12, .getfield 205, 3, 7, 3, 2, 391), (15, .iload_n 1, 1, 0, 0, 0, 0), (16, .iaload, 1, 0, 0, 0, 0), (17, .ireturn, 1, 0, 0, 0, 0)]
/-- DropSwitch queueLength (I)I -/
noncomputable def cd_113 : List (Nat × Ent) := [
  (0, .aload_n 0, 1, 0, 0, 0, 0), (1, .iload_n 1, 1, 0, 0, 0, 0), (2, .invokevirtual 150, 3, 147, 2, 0, 1069), (5, .aload_n 0, 1, 0, 0, 0, 0), (6, .getfield 57, 3, 9, 8, 2, 546), 
  (9, .getfield 140, 3, 5, 1, 2, 449), (12, .getfield 208, 3, 7, 4, 2, 394), (15, .iload_n 1, 1, 0, 0, 0, 0), (16, .iaload, 1, 0, 0, 0, 0), (17, .ireturn, 1, 0, 0, 0, 0)]
/-- DropSwitch queued (II)I -/
noncomputable def cd_114 : List (Nat × Ent) := [
  (0, .aload_n 0, 1, 0, 0, 0, 0), (1, .iload_n 1, 1, 0, 0, 0, 0), (2, .invokevirtual 150, 3, 147, 2, 0, 1069), (5, .aload_n 0, 1, 0, 0, 0, 0), (6, .getfield 57, 3, 9, 8, 2, 546), 
  (9, .getfield 140, 3, 5, 1, 2, 449), (12, .iload_n 1, 1, 0, 0, 0, 0), (13, .iload_n 2, 1, 0, 0, 0, 0), (14, .invokevirtual 211, 3, 84, 3, 0, 1216), (17, .ireturn, 1, 0, 0, 0, 0)]
/-- DropSwitch isUp (I)Z -/
noncomputable def cd_115 : List (Nat × Ent) := [
  (0, .aload_n 0, 1, 0, 0, 0, 0), (1, .iload_n 1, 1, 0, 0, 0, 0), (2, .invokevirtual 150, 3, 147, 2, 0, 1069), (5, .aload_n 0, 1, 0, 0, 0, 0), (6, .getfield 57, 3, 9, 8, 2, 546), 
  (9, .getfield 140, 3, 5, 1, 2, 449), (12, .iload_n 1, 1, 0, 0, 0, 0), (13, .invokevirtual 215, 3, 80, 2, 0, 1224), (16, .ireturn, 1, 0, 0, 1, 0)]
/-- DropSwitch tokens (I)I -/
noncomputable def cd_116 : List (Nat × Ent) := [
  (0, .aload_n 0, 1, 0, 0, 0, 0), (1, .iload_n 1, 1, 0, 0, 0, 0), (2, .invokevirtual 150, 3, 147, 2, 0, 1069), (5, .aload_n 0, 1, 0, 0, 0, 0), (6, .getfield 57, 3, 9, 8, 2, 546), 
  (9, .getfield 218, 3, 5, 0, 2, 447), (12, .iload_n 1, 1, 0, 0, 0, 0), (13, .invokevirtual 219, 3, 10, 2, 0, 1232), (16, .ifCond .eq 18, 3, 0, 0, 0, 0), 
  (19, .aload_n 0, 1, 0, 0, 0, 0), (20, .getfield 57, 3, 9, 8, 2, 546), (23, .getfield 140, 3, 5, 1, 2, 449), (26, .getfield 222, 3, 7, 2, 2, 387), (29, .iload_n 1, 1, 0, 0, 0, 0), 
  (30, .iaload, 1, 0, 0, 0, 0), (31, .goto 4, 3, 0, 0, 0, 0), (34, .iconst (-1), 1, 0, 0, 0, 0), (35, .ireturn, 1, 0, 0, 0, 0)]
/-- DropSwitch portOf (I)I -/
noncomputable def cd_117 : List (Nat × Ent) := [
  (0, .aload_n 0, 1, 0, 0, 0, 0), (1, .iload_n 1, 1, 0, 0, 0, 0), (2, .invokevirtual 153, 3, 153, 2, 0, 1088), (5, .aload_n 0, 1, 0, 0, 0, 0), (6, .getfield 57, 3, 9, 8, 2, 546), 
  (9, .getfield 140, 3, 5, 1, 2, 449), (12, .iload_n 1, 1, 0, 0, 0, 0), (13, .aload_n 0, 1, 0, 0, 0, 0), (14, .getfield 57, 3, 9, 8, 2, 546), (17, .getfield 218, 3, 5, 0, 2, 447), 
  (20, .getfield 225, 3, 1, 7, 0, 209), (23, .invokevirtual 228, 3, 90, 3, 0, 614), (26, .ireturn, 1, 0, 0, 0, 0)]
/-- DropSwitch tableSize ()I -/
noncomputable def cd_118 : List (Nat × Ent) := [
  (0, .iconst 0, 1, 0, 0, 0, 0), (1, .istore_n 1, 1, 0, 0, 0, 0), (2, .iconst 0, 1, 0, 0, 0, 0), (3, .istore_n 2, 1, 0, 0, 0, 0), (4, .iload_n 2, 1, 0, 0, 0, 0), 
  (5, .bipush 64, 2, 0, 0, 0, 0), (7, .if_icmp .ge 37, 3, 0, 0, 0, 0), (10, .aload_n 0, 1, 0, 0, 0, 0), (11, .getfield 57, 3, 9, 8, 2, 546), (14, .getfield 140, 3, 5, 1, 2, 449), 
  (17, .iload_n 2, 1, 0, 0, 0, 0), (18, .aload_n 0, 1, 0, 0, 0, 0), (19, .getfield 57, 3, 9, 8, 2, 546), (22, .getfield 218, 3, 5, 0, 2, 447), (25, .getfield 225, 3, 1, 7, 0, 209), 
  (28, .invokevirtual 228, 3, 90, 3, 0, 614), (31, .iconst (-1), 1, 0, 0, 0, 0), (32, .if_icmp .eq 6, 3, 0, 0, 0, 0), (35, .iinc 1 1, 3, 0, 0, 0, 0), (38, .iinc 2 1, 3, 0, 0, 0, 0), 
  (41, .goto (-37), 3, 0, 0, 0, 0), (44, .iload_n 1, 1, 0, 0, 0, 0), (45, .ireturn, 1, 0, 0, 0, 0)]
/-- DropSwitch delivered (I)I -/
noncomputable def cd_119 : List (Nat × Ent) := [
  (0, .aload_n 0, 1, 0, 0, 0, 0), (1, .iload_n 1, 1, 0, 0, 0, 0), (2, .invokevirtual 150, 3, 147, 2, 0, 1069), (5, .aload_n 0, 1, 0, 0, 0, 0), (6, .getfield 57, 3, 9, 8, 2, 546), 
  (9, .getfield 131, 3, 5, 2, 2, 451), (12, .getfield 231, 3, 3, 3, 2, 429), (15, .iload_n 1, 1, 0, 0, 0, 0), (16, .iaload, 1, 0, 0, 0, 0), (17, .ireturn, 1, 0, 0, 0, 0)]
/-- DropSwitch fate (II)I -/
noncomputable def cd_120 : List (Nat × Ent) := [
  (0, .aload_n 0, 1, 0, 0, 0, 0), (1, .iload_n 1, 1, 0, 0, 0, 0), (2, .invokevirtual 199, 3, 151, 2, 0, 1191), (5, .aload_n 0, 1, 0, 0, 0, 0), (6, .iload_n 2, 1, 0, 0, 0, 0), 
  (7, .invokevirtual 150, 3, 147, 2, 0, 1069), (10, .aload_n 0, 1, 0, 0, 0, 0), (11, .getfield 57, 3, 9, 8, 2, 546), (14, .getfield 131, 3, 5, 2, 2, 451), 
  (17, .iload_n 1, 1, 0, 0, 0, 0), (18, .iload_n 2, 1, 0, 0, 0, 0), (19, .invokevirtual 234, 3, 22, 3, 0, 1254), (22, .ireturn, 1, 0, 0, 0, 0)]
/-- DropSwitch dropField (II)I -/
noncomputable def cd_121 : List (Nat × Ent) := [
  (0, .aload_n 0, 1, 0, 0, 0, 0), (1, .iload_n 1, 1, 0, 0, 0, 0), (2, .invokevirtual 237, 3, 152, 2, 0, 1262), (5, .iload_n 2, 1, 0, 0, 0, 0), (6, .ifCond .lt 8, 3, 0, 0, 0, 0), 
  (9, .iload_n 2, 1, 0, 0, 0, 0), (10, .iconst 5, 1, 0, 0, 0, 0), (11, .if_icmp .lt 11, 3, 0, 0, 0, 0), (14, .new 147, 3, 3, 0, 1, 1045), (17, .dup, 1, 0, 0, 0, 0), 
  (18, .invokespecial 149, 3, 0, 1, 99, 1054), (21, .athrow, 1, 0, 0, 0, 0), (22, .aload_n 0, 1, 0, 0, 0, 0), (23, .getfield 57, 3, 9, 8, 2, 546), 
  (26, .getfield 131, 3, 5, 2, 2, 451), (29, .iload_n 1, 1, 0, 0, 0, 0), (30, .iload_n 2, 1, 0, 0, 0, 0), (31, .invokevirtual 240, 3, 24, 3, 0, 1266), (34, .ireturn, 1, 0, 0, 0, 0)]
/-- DropSwitch firstDrop (I)I -/
noncomputable def cd_122 : List (Nat × Ent) := [
  (0, .aload_n 0, 1, 0, 0, 0, 0), (1, .iload_n 1, 1, 0, 0, 0, 0), (2, .invokevirtual 199, 3, 151, 2, 0, 1191), (5, .iconst 0, 1, 0, 0, 0, 0), (6, .istore_n 2, 1, 0, 0, 0, 0), 
  (7, .iload_n 2, 1, 0, 0, 0, 0), (8, .aload_n 0, 1, 0, 0, 0, 0), (9, .getfield 57, 3, 9, 8, 2, 546), (12, .getfield 131, 3, 5, 2, 2, 451), (15, .getfield 135, 3, 3, 0, 0, 425), 
  (18, .if_icmp .ge 27, 3, 0, 0, 0, 0), (21, .aload_n 0, 1, 0, 0, 0, 0), (22, .getfield 57, 3, 9, 8, 2, 546), (25, .getfield 131, 3, 5, 2, 2, 451), (28, .iload_n 2, 1, 0, 0, 0, 0), 
  (29, .iconst 1, 1, 0, 0, 0, 0), (30, .invokevirtual 240, 3, 24, 3, 0, 1266), (33, .iload_n 1, 1, 0, 0, 0, 0), (34, .if_icmp .ne 5, 3, 0, 0, 0, 0), (37, .iload_n 2, 1, 0, 0, 0, 0), 
  (38, .ireturn, 1, 0, 0, 0, 0), (39, .iinc 2 1, 3, 0, 0, 0, 0), (42, .goto (-35), 3, 0, 0, 0, 0), (45, .iconst (-1), 1, 0, 0, 0, 0), (46, .ireturn, 1, 0, 0, 0, 0)]
/-- DropSwitch dropsBy (I)I -/
noncomputable def cd_123 : List (Nat × Ent) := [
  (0, .aload_n 0, 1, 0, 0, 0, 0), (1, .iload_n 1, 1, 0, 0, 0, 0), (2, .invokevirtual 243, 3, 154, 2, 0, 1281), (5, .aload_n 0, 1, 0, 0, 0, 0), (6, .getfield 57, 3, 9, 8, 2, 546), 
  (9, .getfield 131, 3, 5, 2, 2, 451), (12, .iload_n 1, 1, 0, 0, 0, 0), (13, .invokevirtual 246, 3, 25, 2, 0, 1285), (16, .ireturn, 1, 0, 0, 0, 0)]
/-- DropSwitch dropsByRule (I)I -/
noncomputable def cd_124 : List (Nat × Ent) := [
  (0, .aload_n 0, 1, 0, 0, 0, 0), (1, .iload_n 1, 1, 0, 0, 0, 0), (2, .invokevirtual 249, 3, 148, 2, 0, 1296), (5, .aload_n 0, 1, 0, 0, 0, 0), (6, .getfield 57, 3, 9, 8, 2, 546), 
  (9, .getfield 131, 3, 5, 2, 2, 451), (12, .iconst 2, 1, 0, 0, 0, 0), (13, .iload_n 1, 1, 0, 0, 0, 0), (14, .invokevirtual 252, 3, 26, 3, 0, 1300), (17, .ireturn, 1, 0, 0, 0, 0)]
/-- DropSwitch pushedBy (I)I -/
noncomputable def cd_125 : List (Nat × Ent) := [
  (0, .aload_n 0, 1, 0, 0, 0, 0), (1, .iload_n 1, 1, 0, 0, 0, 0), (2, .invokevirtual 199, 3, 151, 2, 0, 1191), (5, .aload_n 0, 1, 0, 0, 0, 0), (6, .getfield 57, 3, 9, 8, 2, 546), 
  (9, .getfield 131, 3, 5, 2, 2, 451), (12, .bipush 8, 2, 0, 0, 0, 0), (14, .iload_n 1, 1, 0, 0, 0, 0), (15, .invokevirtual 252, 3, 26, 3, 0, 1300), (18, .ireturn, 1, 0, 0, 0, 0)]
/-- DropSwitch checkpoints ()I -/
noncomputable def cd_126 : List (Nat × Ent) := [
  (0, .aload_n 0, 1, 0, 0, 0, 0), (1, .getfield 42, 3, 9, 6, 2, 544), (4, .getfield 125, 3, 0, 0, 0, 316), (7, .bipush 16, 2, 0, 0, 0, 0), (9, .iadd, 1, 0, 0, 0, 0), 
  (10, .iconst 1, 1, 0, 0, 0, 0), (11, .isub, 1, 0, 0, 0, 0), (12, .bipush 16, 2, 0, 0, 0, 0), (14, .idiv, 1, 0, 0, 0, 0), (15, .ireturn, 1, 0, 0, 0, 0)]
/-- DropSwitch repeats (I)I -/
noncomputable def cd_127 : List (Nat × Ent) := [
  (0, .aload_n 0, 1, 0, 0, 0, 0), (1, .iload_n 1, 1, 0, 0, 0, 0), (2, .invokevirtual 254, 3, 150, 2, 0, 1318), (5, .iload_n 1, 1, 0, 0, 0, 0), (6, .aload_n 0, 1, 0, 0, 0, 0), 
  (7, .iload_n 1, 1, 0, 0, 0, 0), (8, .invokevirtual 257, 3, 159, 2, 0, 1322), (11, .isub, 1, 0, 0, 0, 0), (12, .ireturn, 1, 0, 0, 0, 0)]
/-- DropSwitch fillAt (II)I -/
noncomputable def cd_128 : List (Nat × Ent) := [
  (0, .aload_n 0, 1, 0, 0, 0, 0), (1, .iload_n 1, 1, 0, 0, 0, 0), (2, .invokevirtual 254, 3, 150, 2, 0, 1318), (5, .aload_n 0, 1, 0, 0, 0, 0), (6, .iload_n 2, 1, 0, 0, 0, 0), 
  (7, .invokevirtual 150, 3, 147, 2, 0, 1069), (10, .aload_n 0, 1, 0, 0, 0, 0), (11, .iload_n 1, 1, 0, 0, 0, 0), (12, .invokevirtual 260, 3, 160, 2, 0, 1334), 
  (15, .aload_n 0, 1, 0, 0, 0, 0), (16, .getfield 61, 3, 9, 9, 2, 547), (19, .getfield 140, 3, 5, 1, 2, 449), (22, .getfield 205, 3, 7, 3, 2, 391), (25, .iload_n 2, 1, 0, 0, 0, 0), 
  (26, .iaload, 1, 0, 0, 0, 0), (27, .ireturn, 1, 0, 0, 0, 0)]
/-- DropSwitch portAt (II)I -/
noncomputable def cd_129 : List (Nat × Ent) := [
  (0, .aload_n 0, 1, 0, 0, 0, 0), (1, .iload_n 1, 1, 0, 0, 0, 0), (2, .invokevirtual 254, 3, 150, 2, 0, 1318), (5, .aload_n 0, 1, 0, 0, 0, 0), (6, .iload_n 2, 1, 0, 0, 0, 0), 
  (7, .invokevirtual 153, 3, 153, 2, 0, 1088), (10, .aload_n 0, 1, 0, 0, 0, 0), (11, .iload_n 1, 1, 0, 0, 0, 0), (12, .invokevirtual 260, 3, 160, 2, 0, 1334), 
  (15, .aload_n 0, 1, 0, 0, 0, 0), (16, .getfield 61, 3, 9, 9, 2, 547), (19, .getfield 140, 3, 5, 1, 2, 449), (22, .iload_n 2, 1, 0, 0, 0, 0), (23, .aload_n 0, 1, 0, 0, 0, 0), 
  (24, .getfield 61, 3, 9, 9, 2, 547), (27, .getfield 218, 3, 5, 0, 2, 447), (30, .getfield 225, 3, 1, 7, 0, 209), (33, .invokevirtual 228, 3, 90, 3, 0, 614), 
  (36, .ireturn, 1, 0, 0, 0, 0)]
/-- DropSwitch peak (I)I -/
noncomputable def cd_130 : List (Nat × Ent) := [
  (0, .aload_n 0, 1, 0, 0, 0, 0), (1, .iload_n 1, 1, 0, 0, 0, 0), (2, .invokevirtual 150, 3, 147, 2, 0, 1069), (5, .aload_n 0, 1, 0, 0, 0, 0), (6, .getfield 57, 3, 9, 8, 2, 546), 
  (9, .getfield 131, 3, 5, 2, 2, 451), (12, .getfield 263, 3, 3, 5, 2, 432), (15, .iload_n 1, 1, 0, 0, 0, 0), (16, .iaload, 1, 0, 0, 0, 0), (17, .ireturn, 1, 0, 0, 0, 0)]
/-- DropSwitch suppose (III)I -/
noncomputable def cd_131 : List (Nat × Ent) := [
  (0, .iload_n 1, 1, 0, 0, 0, 0), (1, .ifCond .lt 8, 3, 0, 0, 0, 0), (4, .iload_n 1, 1, 0, 0, 0, 0), (5, .iconst 4, 1, 0, 0, 0, 0), (6, .if_icmp .le 11, 3, 0, 0, 0, 0), 
  (9, .new 147, 3, 3, 0, 1, 1045), (12, .dup, 1, 0, 0, 0, 0), (13, .invokespecial 149, 3, 0, 1, 99, 1054), (16, .athrow, 1, 0, 0, 0, 0), (17, .iload_n 1, 1, 0, 0, 0, 0), 
  (18, .ifCond .ne 8, 3, 0, 0, 0, 0), (21, .aload_n 0, 1, 0, 0, 0, 0), (22, .iload_n 2, 1, 0, 0, 0, 0), (23, .invokevirtual 150, 3, 147, 2, 0, 1069), (26, .iload_n 1, 1, 0, 0, 0, 0), 
  (27, .iconst 4, 1, 0, 0, 0, 0), (28, .if_icmp .ne 8, 3, 0, 0, 0, 0), (31, .aload_n 0, 1, 0, 0, 0, 0), (32, .iload_n 2, 1, 0, 0, 0, 0), (33, .invokevirtual 249, 3, 148, 2, 0, 1296), 
  (36, .iload_n 1, 1, 0, 0, 0, 0), (37, .iload_n 3, 1, 0, 0, 0, 0), (38, .invokestatic 266, 3, 161, 2, 1, 1364), (41, .ifCond .ne 11, 3, 0, 0, 0, 0), (44, .new 109, 3, 1, 0, 1, 973), 
  (47, .dup, 1, 0, 0, 0, 0), (48, .invokespecial 111, 3, 0, 1, 99, 1015), (51, .athrow, 1, 0, 0, 0, 0), (52, .aload_n 0, 1, 0, 0, 0, 0), (53, .iconst 0, 1, 0, 0, 0, 0), 
  (54, .putfield 77, 3, 9, 13, 0, 551), (57, .aload_n 0, 1, 0, 0, 0, 0), (58, .getfield 67, 3, 9, 10, 2, 548), (61, .iload_n 1, 1, 0, 0, 0, 0), (62, .iload_n 2, 1, 0, 0, 0, 0), 
  (63, .iload_n 3, 1, 0, 0, 0, 0), (64, .invokevirtual 270, 3, 93, 4, 0, 1367), (67, .aload_n 0, 1, 0, 0, 0, 0), (68, .getfield 67, 3, 9, 10, 2, 548), 
  (71, .invokevirtual 274, 3, 94, 1, 0, 626), (74, .ireturn, 1, 0, 0, 0, 0)]
/-- DropSwitch leaveOut (I)I -/
noncomputable def cd_132 : List (Nat × Ent) := [
  (0, .aload_n 0, 1, 0, 0, 0, 0), (1, .iload_n 1, 1, 0, 0, 0, 0), (2, .invokevirtual 190, 3, 149, 2, 0, 1173), (5, .aload_n 0, 1, 0, 0, 0, 0), (6, .iconst 0, 1, 0, 0, 0, 0), 
  (7, .putfield 77, 3, 9, 13, 0, 551), (10, .aload_n 0, 1, 0, 0, 0, 0), (11, .getfield 67, 3, 9, 10, 2, 548), (14, .getfield 277, 3, 8, 1, 2, 473), (17, .iload_n 1, 1, 0, 0, 0, 0), 
  (18, .iconst 1, 1, 0, 0, 0, 0), (19, .bastore, 1, 0, 0, 0, 0), (20, .aload_n 0, 1, 0, 0, 0, 0), (21, .getfield 67, 3, 9, 10, 2, 548), (24, .invokevirtual 281, 3, 95, 1, 0, 630), 
  (27, .ireturn, 1, 0, 0, 0, 0)]
/-- DropSwitch clearSuppositions ()I -/
noncomputable def cd_133 : List (Nat × Ent) := [
  (0, .aload_n 0, 1, 0, 0, 0, 0), (1, .getfield 67, 3, 9, 10, 2, 548), (4, .invokevirtual 274, 3, 94, 1, 0, 626), (7, .aload_n 0, 1, 0, 0, 0, 0), (8, .getfield 67, 3, 9, 10, 2, 548), 
  (11, .invokevirtual 281, 3, 95, 1, 0, 630), (14, .iadd, 1, 0, 0, 0, 0), (15, .istore_n 1, 1, 0, 0, 0, 0), (16, .aload_n 0, 1, 0, 0, 0, 0), (17, .iconst 0, 1, 0, 0, 0, 0), 
  (18, .putfield 77, 3, 9, 13, 0, 551), (21, .aload_n 0, 1, 0, 0, 0, 0), (22, .getfield 67, 3, 9, 10, 2, 548), (25, .invokevirtual 180, 3, 92, 1, 0, 505), 
  (28, .iload_n 1, 1, 0, 0, 0, 0), (29, .ireturn, 1, 0, 0, 0, 0)]
/-- DropSwitch supposedDrops ()I -/
noncomputable def cd_134 : List (Nat × Ent) := [
  (0, .aload_n 0, 1, 0, 0, 0, 0), (1, .invokevirtual 284, 3, 162, 1, 0, 638), (4, .aload_n 0, 1, 0, 0, 0, 0), (5, .getfield 71, 3, 9, 11, 2, 549), (8, .getfield 131, 3, 5, 2, 2, 451), 
  (11, .getfield 135, 3, 3, 0, 0, 425), (14, .ireturn, 1, 0, 0, 0, 0)]
/-- DropSwitch supposedDropsBy (I)I -/
noncomputable def cd_135 : List (Nat × Ent) := [
  (0, .aload_n 0, 1, 0, 0, 0, 0), (1, .iload_n 1, 1, 0, 0, 0, 0), (2, .invokevirtual 243, 3, 154, 2, 0, 1281), (5, .aload_n 0, 1, 0, 0, 0, 0), 
  (6, .invokevirtual 284, 3, 162, 1, 0, 638), (9, .aload_n 0, 1, 0, 0, 0, 0), (10, .getfield 71, 3, 9, 11, 2, 549), (13, .getfield 131, 3, 5, 2, 2, 451), 
  (16, .iload_n 1, 1, 0, 0, 0, 0), (17, .invokevirtual 246, 3, 25, 2, 0, 1285), (20, .ireturn, 1, 0, 0, 0, 0)]
/-- DropSwitch supposedFate (II)I -/
noncomputable def cd_136 : List (Nat × Ent) := [
  (0, .aload_n 0, 1, 0, 0, 0, 0), (1, .iload_n 1, 1, 0, 0, 0, 0), (2, .invokevirtual 199, 3, 151, 2, 0, 1191), (5, .aload_n 0, 1, 0, 0, 0, 0), (6, .iload_n 2, 1, 0, 0, 0, 0), 
  (7, .invokevirtual 150, 3, 147, 2, 0, 1069), (10, .aload_n 0, 1, 0, 0, 0, 0), (11, .invokevirtual 284, 3, 162, 1, 0, 638), (14, .aload_n 0, 1, 0, 0, 0, 0), 
  (15, .getfield 71, 3, 9, 11, 2, 549), (18, .getfield 131, 3, 5, 2, 2, 451), (21, .iload_n 1, 1, 0, 0, 0, 0), (22, .iload_n 2, 1, 0, 0, 0, 0), 
  (23, .invokevirtual 234, 3, 22, 3, 0, 1254), (26, .ireturn, 1, 0, 0, 0, 0)]
/-- DropSwitch supposedDelivered (I)I -/
noncomputable def cd_137 : List (Nat × Ent) := [
  (0, .aload_n 0, 1, 0, 0, 0, 0), (1, .iload_n 1, 1, 0, 0, 0, 0), (2, .invokevirtual 150, 3, 147, 2, 0, 1069), (5, .aload_n 0, 1, 0, 0, 0, 0), 
  (6, .invokevirtual 284, 3, 162, 1, 0, 638), (9, .aload_n 0, 1, 0, 0, 0, 0), (10, .getfield 71, 3, 9, 11, 2, 549), (13, .getfield 131, 3, 5, 2, 2, 451), 
  (16, .getfield 231, 3, 3, 3, 2, 429), (19, .iload_n 1, 1, 0, 0, 0, 0), (20, .iaload, 1, 0, 0, 0, 0), (21, .ireturn, 1, 0, 0, 0, 0)]
/-- DropSwitch saved ()I -/
noncomputable def cd_138 : List (Nat × Ent) := [
  (0, .aload_n 0, 1, 0, 0, 0, 0), (1, .invokevirtual 284, 3, 162, 1, 0, 638), (4, .aload_n 0, 1, 0, 0, 0, 0), (5, .getfield 57, 3, 9, 8, 2, 546), (8, .getfield 131, 3, 5, 2, 2, 451), 
  (11, .aload_n 0, 1, 0, 0, 0, 0), (12, .getfield 71, 3, 9, 11, 2, 549), (15, .getfield 131, 3, 5, 2, 2, 451), (18, .invokevirtual 287, 3, 28, 2, 0, 787), 
  (21, .ireturn, 1, 0, 0, 0, 0)]
/-- DropSwitch newlyDropped ()I -/
noncomputable def cd_139 : List (Nat × Ent) := [
  (0, .aload_n 0, 1, 0, 0, 0, 0), (1, .invokevirtual 284, 3, 162, 1, 0, 638), (4, .aload_n 0, 1, 0, 0, 0, 0), (5, .getfield 71, 3, 9, 11, 2, 549), (8, .getfield 131, 3, 5, 2, 2, 451), 
  (11, .aload_n 0, 1, 0, 0, 0, 0), (12, .getfield 57, 3, 9, 8, 2, 546), (15, .getfield 131, 3, 5, 2, 2, 451), (18, .invokevirtual 287, 3, 28, 2, 0, 787), 
  (21, .ireturn, 1, 0, 0, 0, 0)]
/-- DropSwitch evidenceCount (I)I -/
noncomputable def cd_140 : List (Nat × Ent) := [
  (0, .aload_n 0, 1, 0, 0, 0, 0), (1, .iload_n 1, 1, 0, 0, 0, 0), (2, .invokevirtual 237, 3, 152, 2, 0, 1262), (5, .aload_n 0, 1, 0, 0, 0, 0), (6, .getfield 57, 3, 9, 8, 2, 546), 
  (9, .getfield 131, 3, 5, 2, 2, 451), (12, .iload_n 1, 1, 0, 0, 0, 0), (13, .iconst 0, 1, 0, 0, 0, 0), (14, .invokevirtual 240, 3, 24, 3, 0, 1266), (17, .istore_n 2, 1, 0, 0, 0, 0), 
  (18, .iconst 0, 1, 0, 0, 0, 0), (19, .istore_n 3, 1, 0, 0, 0, 0), (20, .iconst 0, 1, 0, 0, 0, 0), (21, .istore 4, 2, 0, 0, 0, 0), (23, .iload 4, 2, 0, 0, 0, 0), 
  (25, .iload_n 2, 1, 0, 0, 0, 0), (26, .if_icmp .gt 28, 3, 0, 0, 0, 0), (29, .aload_n 0, 1, 0, 0, 0, 0), (30, .iload 4, 2, 0, 0, 0, 0), (32, .invokevirtual 291, 3, 163, 2, 0, 1406), 
  (35, .aload_n 0, 1, 0, 0, 0, 0), (36, .iload 4, 2, 0, 0, 0, 0), (38, .iload_n 1, 1, 0, 0, 0, 0), (39, .invokevirtual 294, 3, 164, 3, 0, 1411), (42, .ifCond .eq 6, 3, 0, 0, 0, 0), 
  (45, .iinc 3 1, 3, 0, 0, 0, 0), (48, .iinc 4 1, 3, 0, 0, 0, 0), (51, .goto (-28), 3, 0, 0, 0, 0), (54, .iload_n 3, 1, 0, 0, 0, 0), (55, .ireturn, 1, 0, 0, 0, 0)]
/-- DropSwitch evidence (II)I -/
noncomputable def cd_141 : List (Nat × Ent) := [
  (0, .aload_n 0, 1, 0, 0, 0, 0), (1, .iload_n 1, 1, 0, 0, 0, 0), (2, .invokevirtual 237, 3, 152, 2, 0, 1262), (5, .aload_n 0, 1, 0, 0, 0, 0), (6, .getfield 57, 3, 9, 8, 2, 546), 
  (9, .getfield 131, 3, 5, 2, 2, 451), (12, .iload_n 1, 1, 0, 0, 0, 0), (13, .iconst 0, 1, 0, 0, 0, 0), (14, .invokevirtual 240, 3, 24, 3, 0, 1266), (17, .istore_n 3, 1, 0, 0, 0, 0), 
  (18, .iconst 0, 1, 0, 0, 0, 0), (19, .istore 4, 2, 0, 0, 0, 0), (21, .iconst 0, 1, 0, 0, 0, 0), (22, .istore 5, 2, 0, 0, 0, 0), (24, .iload 5, 2, 0, 0, 0, 0), 
  (26, .iload_n 3, 1, 0, 0, 0, 0), (27, .if_icmp .gt 37, 3, 0, 0, 0, 0), (30, .aload_n 0, 1, 0, 0, 0, 0), (31, .iload 5, 2, 0, 0, 0, 0), (33, .invokevirtual 291, 3, 163, 2, 0, 1406), 
  (36, .aload_n 0, 1, 0, 0, 0, 0), (37, .iload 5, 2, 0, 0, 0, 0), (39, .iload_n 1, 1, 0, 0, 0, 0), (40, .invokevirtual 294, 3, 164, 3, 0, 1411), (43, .ifCond .eq 15, 3, 0, 0, 0, 0), 
  (46, .iload 4, 2, 0, 0, 0, 0), (48, .iload_n 2, 1, 0, 0, 0, 0), (49, .if_icmp .ne 6, 3, 0, 0, 0, 0), (52, .iload 5, 2, 0, 0, 0, 0), (54, .ireturn, 1, 0, 0, 0, 0), 
  (55, .iinc 4 1, 3, 0, 0, 0, 0), (58, .iinc 5 1, 3, 0, 0, 0, 0), (61, .goto (-37), 3, 0, 0, 0, 0), (64, .iconst (-1), 1, 0, 0, 0, 0), (65, .ireturn, 1, 0, 0, 0, 0)]
/-- DropSwitch leastCapacity (I)I -/
noncomputable def cd_142 : List (Nat × Ent) := [
  (0, .aload_n 0, 1, 0, 0, 0, 0), (1, .iload_n 1, 1, 0, 0, 0, 0), (2, .invokevirtual 237, 3, 152, 2, 0, 1262), (5, .aload_n 0, 1, 0, 0, 0, 0), (6, .getfield 57, 3, 9, 8, 2, 546), 
  (9, .getfield 131, 3, 5, 2, 2, 451), (12, .iload_n 1, 1, 0, 0, 0, 0), (13, .iconst 2, 1, 0, 0, 0, 0), (14, .invokevirtual 240, 3, 24, 3, 0, 1266), (17, .istore_n 2, 1, 0, 0, 0, 0), 
  (18, .iload_n 2, 1, 0, 0, 0, 0), (19, .iconst (-1), 1, 0, 0, 0, 0), (20, .if_icmp .ne 5, 3, 0, 0, 0, 0), (23, .iconst (-1), 1, 0, 0, 0, 0), (24, .ireturn, 1, 0, 0, 0, 0), 
  (25, .iconst 1, 1, 0, 0, 0, 0), (26, .istore_n 3, 1, 0, 0, 0, 0), (27, .iload_n 3, 1, 0, 0, 0, 0), (28, .bipush 99, 2, 0, 0, 0, 0), (30, .if_icmp .gt 65, 3, 0, 0, 0, 0), 
  (33, .aload_n 0, 1, 0, 0, 0, 0), (34, .getfield 61, 3, 9, 9, 2, 547), (37, .getfield 218, 3, 5, 0, 2, 447), (40, .aload_n 0, 1, 0, 0, 0, 0), (41, .getfield 35, 3, 9, 5, 2, 543), 
  (44, .getfield 113, 3, 6, 0, 2, 248), (47, .invokevirtual 297, 3, 9, 2, 0, 512), (50, .aload_n 0, 1, 0, 0, 0, 0), (51, .getfield 61, 3, 9, 9, 2, 547), 
  (54, .getfield 218, 3, 5, 0, 2, 447), (57, .getfield 301, 3, 1, 1, 2, 184), (60, .iload_n 2, 1, 0, 0, 0, 0), (61, .iload_n 3, 1, 0, 0, 0, 0), (62, .iastore, 1, 0, 0, 0, 0), 
  (63, .aload_n 0, 1, 0, 0, 0, 0), (64, .iload_n 1, 1, 0, 0, 0, 0), (65, .invokevirtual 304, 3, 165, 2, 0, 1429), (68, .ifCond .ne 5, 3, 0, 0, 0, 0), (71, .iload_n 3, 1, 0, 0, 0, 0), 
  (72, .ireturn, 1, 0, 0, 0, 0), (73, .aload_n 0, 1, 0, 0, 0, 0), (74, .getfield 61, 3, 9, 9, 2, 547), (77, .getfield 131, 3, 5, 2, 2, 451), (80, .iload_n 2, 1, 0, 0, 0, 0), 
  (81, .invokevirtual 307, 3, 29, 2, 0, 1433), (84, .ifCond .ne 5, 3, 0, 0, 0, 0), (87, .iconst (-1), 1, 0, 0, 0, 0), (88, .ireturn, 1, 0, 0, 0, 0), (89, .iinc 3 1, 3, 0, 0, 0, 0), 
  (92, .goto (-65), 3, 0, 0, 0, 0), (95, .iconst (-1), 1, 0, 0, 0, 0), (96, .ireturn, 1, 0, 0, 0, 0)]
/-- DropSwitch savingRules (I)I -/
noncomputable def cd_143 : List (Nat × Ent) := [
  (0, .aload_n 0, 1, 0, 0, 0, 0), (1, .iload_n 1, 1, 0, 0, 0, 0), (2, .invokevirtual 237, 3, 152, 2, 0, 1262), (5, .iconst 0, 1, 0, 0, 0, 0), (6, .istore_n 2, 1, 0, 0, 0, 0), 
  (7, .iconst 0, 1, 0, 0, 0, 0), (8, .istore_n 3, 1, 0, 0, 0, 0), (9, .iload_n 3, 1, 0, 0, 0, 0), (10, .aload_n 0, 1, 0, 0, 0, 0), (11, .getfield 35, 3, 9, 5, 2, 543), 
  (14, .getfield 122, 3, 6, 2, 0, 252), (17, .if_icmp .ge 53, 3, 0, 0, 0, 0), (20, .aload_n 0, 1, 0, 0, 0, 0), (21, .getfield 61, 3, 9, 9, 2, 547), 
  (24, .getfield 218, 3, 5, 0, 2, 447), (27, .aload_n 0, 1, 0, 0, 0, 0), (28, .getfield 35, 3, 9, 5, 2, 543), (31, .getfield 113, 3, 6, 0, 2, 248), 
  (34, .invokevirtual 297, 3, 9, 2, 0, 512), (37, .aload_n 0, 1, 0, 0, 0, 0), (38, .getfield 61, 3, 9, 9, 2, 547), (41, .getfield 218, 3, 5, 0, 2, 447), 
  (44, .iconst 1, 1, 0, 0, 0, 0), (45, .iload_n 3, 1, 0, 0, 0, 0), (46, .ishl, 1, 0, 0, 0, 0), (47, .putfield 310, 3, 1, 9, 0, 215), (50, .aload_n 0, 1, 0, 0, 0, 0), 
  (51, .iload_n 1, 1, 0, 0, 0, 0), (52, .invokevirtual 304, 3, 165, 2, 0, 1429), (55, .ifCond .ne 9, 3, 0, 0, 0, 0), (58, .iload_n 2, 1, 0, 0, 0, 0), (59, .iconst 1, 1, 0, 0, 0, 0), 
  (60, .iload_n 3, 1, 0, 0, 0, 0), (61, .ishl, 1, 0, 0, 0, 0), (62, .ior, 1, 0, 0, 0, 0), (63, .istore_n 2, 1, 0, 0, 0, 0), (64, .iinc 3 1, 3, 0, 0, 0, 0), 
  (67, .goto (-58), 3, 0, 0, 0, 0), (70, .iload_n 2, 1, 0, 0, 0, 0), (71, .ireturn, 1, 0, 0, 0, 0)]
/-- DropSwitch formatDrop (I)I -/
noncomputable def cd_144 : List (Nat × Ent) := [
  (0, .aload_n 0, 1, 0, 0, 0, 0), (1, .iload_n 1, 1, 0, 0, 0, 0), (2, .invokevirtual 237, 3, 152, 2, 0, 1262), (5, .aload_n 0, 1, 0, 0, 0, 0), (6, .getfield 57, 3, 9, 8, 2, 546), 
  (9, .getfield 131, 3, 5, 2, 2, 451), (12, .iload_n 1, 1, 0, 0, 0, 0), (13, .iconst 4, 1, 0, 0, 0, 0), (14, .invokevirtual 240, 3, 24, 3, 0, 1266), (17, .istore_n 2, 1, 0, 0, 0, 0), 
  (18, .aload_n 0, 1, 0, 0, 0, 0), (19, .getfield 57, 3, 9, 8, 2, 546), (22, .getfield 131, 3, 5, 2, 2, 451), (25, .iload_n 1, 1, 0, 0, 0, 0), (26, .iconst 2, 1, 0, 0, 0, 0), 
  (27, .invokevirtual 240, 3, 24, 3, 0, 1266), (30, .istore_n 3, 1, 0, 0, 0, 0), (31, .aload_n 0, 1, 0, 0, 0, 0), (32, .getfield 91, 3, 9, 16, 2, 554), (35, .iconst 0, 1, 0, 0, 0, 0), 
  (36, .putfield 313, 3, 2, 1, 0, 489), (39, .aload_n 0, 1, 0, 0, 0, 0), (40, .getfield 91, 3, 9, 16, 2, 554), (43, .aload_n 0, 1, 0, 0, 0, 0), (44, .getfield 57, 3, 9, 8, 2, 546), 
  (47, .getfield 131, 3, 5, 2, 2, 451), (50, .iload_n 1, 1, 0, 0, 0, 0), (51, .iconst 1, 1, 0, 0, 0, 0), (52, .invokevirtual 240, 3, 24, 3, 0, 1266), 
  (55, .invokevirtual 316, 3, 15, 2, 0, 1451), (58, .aload_n 0, 1, 0, 0, 0, 0), (59, .getfield 91, 3, 9, 16, 2, 554), (62, .bipush 64, 2, 0, 0, 0, 0), 
  (64, .invokevirtual 319, 3, 13, 2, 0, 1459), (67, .aload_n 0, 1, 0, 0, 0, 0), (68, .getfield 91, 3, 9, 16, 2, 554), (71, .aload_n 0, 1, 0, 0, 0, 0), 
  (72, .getfield 57, 3, 9, 8, 2, 546), (75, .getfield 131, 3, 5, 2, 2, 451), (78, .iload_n 1, 1, 0, 0, 0, 0), (79, .iconst 0, 1, 0, 0, 0, 0), 
  (80, .invokevirtual 240, 3, 24, 3, 0, 1266), (83, .invokevirtual 316, 3, 15, 2, 0, 1451), (86, .aload_n 0, 1, 0, 0, 0, 0), (87, .getfield 91, 3, 9, 16, 2, 554), 
  (90, .bipush 32, 2, 0, 0, 0, 0), (92, .invokevirtual 319, 3, 13, 2, 0, 1459), (95, .aload_n 0, 1, 0, 0, 0, 0), (96, .getfield 91, 3, 9, 16, 2, 554), (99, .aload_n 0, 1, 0, 0, 0, 0), 
  (100, .getfield 57, 3, 9, 8, 2, 546), (103, .getfield 131, 3, 5, 2, 2, 451), (106, .iload_n 1, 1, 0, 0, 0, 0), (107, .iconst 3, 1, 0, 0, 0, 0), 
  (108, .invokevirtual 240, 3, 24, 3, 0, 1266), (111, .invokestatic 322, 3, 166, 1, 1, 1460), (114, .invokevirtual 326, 3, 14, 2, 0, 1473), (117, .iload_n 2, 1, 0, 0, 0, 0), 
  (118, .iconst (-1), 1, 0, 0, 0, 0), (119, .if_icmp .eq 20, 3, 0, 0, 0, 0), (122, .aload_n 0, 1, 0, 0, 0, 0), (123, .getfield 91, 3, 9, 16, 2, 554), (126, .bipush 61, 2, 0, 0, 0, 0), 
  (128, .invokevirtual 319, 3, 13, 2, 0, 1459), (131, .aload_n 0, 1, 0, 0, 0, 0), (132, .getfield 91, 3, 9, 16, 2, 554), (135, .iload_n 2, 1, 0, 0, 0, 0), 
  (136, .invokevirtual 316, 3, 15, 2, 0, 1451), (139, .iload_n 3, 1, 0, 0, 0, 0), (140, .iconst (-1), 1, 0, 0, 0, 0), (141, .if_icmp .eq 27, 3, 0, 0, 0, 0), 
  (144, .aload_n 0, 1, 0, 0, 0, 0), (145, .getfield 91, 3, 9, 16, 2, 554), (148, .bipush 32, 2, 0, 0, 0, 0), (150, .invokevirtual 319, 3, 13, 2, 0, 1459), 
  (153, .aload_n 0, 1, 0, 0, 0, 0), (154, .getfield 91, 3, 9, 16, 2, 554), (157, .aload_n 0, 1, 0, 0, 0, 0), (158, .getfield 35, 3, 9, 5, 2, 543), (161, .iload_n 3, 1, 0, 0, 0, 0), 
  (162, .invokevirtual 330, 3, 69, 2, 0, 1479), (165, .invokevirtual 333, 3, 16, 2, 0, 1483), (168, .aload_n 0, 1, 0, 0, 0, 0), (169, .getfield 91, 3, 9, 16, 2, 554), 
  (172, .getfield 313, 3, 2, 1, 0, 489), (175, .ireturn, 1, 0, 0, 0, 0)]
/-- DropSwitch formatQueue (I)I -/
noncomputable def cd_145 : List (Nat × Ent) := [
  (0, .aload_n 0, 1, 0, 0, 0, 0), (1, .iload_n 1, 1, 0, 0, 0, 0), (2, .invokevirtual 150, 3, 147, 2, 0, 1069), (5, .aload_n 0, 1, 0, 0, 0, 0), (6, .getfield 91, 3, 9, 16, 2, 554), 
  (9, .iconst 0, 1, 0, 0, 0, 0), (10, .putfield 313, 3, 2, 1, 0, 489), (13, .aload_n 0, 1, 0, 0, 0, 0), (14, .getfield 91, 3, 9, 16, 2, 554), (17, .aload_n 0, 1, 0, 0, 0, 0), 
  (18, .getfield 35, 3, 9, 5, 2, 543), (21, .iload_n 1, 1, 0, 0, 0, 0), (22, .invokevirtual 330, 3, 69, 2, 0, 1479), (25, .invokevirtual 333, 3, 16, 2, 0, 1483), 
  (28, .iconst 0, 1, 0, 0, 0, 0), (29, .istore_n 2, 1, 0, 0, 0, 0), (30, .iload_n 2, 1, 0, 0, 0, 0), (31, .aload_n 0, 1, 0, 0, 0, 0), (32, .getfield 57, 3, 9, 8, 2, 546), 
  (35, .getfield 140, 3, 5, 1, 2, 449), (38, .getfield 208, 3, 7, 4, 2, 394), (41, .iload_n 1, 1, 0, 0, 0, 0), (42, .iaload, 1, 0, 0, 0, 0), (43, .if_icmp .ge 63, 3, 0, 0, 0, 0), 
  (46, .aload_n 0, 1, 0, 0, 0, 0), (47, .getfield 57, 3, 9, 8, 2, 546), (50, .getfield 140, 3, 5, 1, 2, 449), (53, .iload_n 1, 1, 0, 0, 0, 0), (54, .iload_n 2, 1, 0, 0, 0, 0), 
  (55, .invokevirtual 211, 3, 84, 3, 0, 1216), (58, .istore_n 3, 1, 0, 0, 0, 0), (59, .aload_n 0, 1, 0, 0, 0, 0), (60, .getfield 91, 3, 9, 16, 2, 554), 
  (63, .bipush 32, 2, 0, 0, 0, 0), (65, .invokevirtual 319, 3, 13, 2, 0, 1459), (68, .aload_n 0, 1, 0, 0, 0, 0), (69, .getfield 91, 3, 9, 16, 2, 554), (72, .iload_n 3, 1, 0, 0, 0, 0), 
  (73, .invokevirtual 316, 3, 15, 2, 0, 1451), (76, .aload_n 0, 1, 0, 0, 0, 0), (77, .getfield 91, 3, 9, 16, 2, 554), (80, .bipush 46, 2, 0, 0, 0, 0), 
  (82, .invokevirtual 319, 3, 13, 2, 0, 1459), (85, .aload_n 0, 1, 0, 0, 0, 0), (86, .getfield 91, 3, 9, 16, 2, 554), (89, .aload_n 0, 1, 0, 0, 0, 0), 
  (90, .getfield 42, 3, 9, 6, 2, 544), (93, .iload_n 3, 1, 0, 0, 0, 0), (94, .invokevirtual 336, 3, 6, 2, 0, 1494), (97, .invokevirtual 316, 3, 15, 2, 0, 1451), 
  (100, .iinc 2 1, 3, 0, 0, 0, 0), (103, .goto (-73), 3, 0, 0, 0, 0), (106, .aload_n 0, 1, 0, 0, 0, 0), (107, .getfield 91, 3, 9, 16, 2, 554), (110, .getfield 313, 3, 2, 1, 0, 489), 
  (113, .ireturn, 1, 0, 0, 0, 0)]
/-- DropSwitch formattedByte (I)I -/
noncomputable def cd_146 : List (Nat × Ent) := [
  (0, .iload_n 1, 1, 0, 0, 0, 0), (1, .ifCond .lt 26, 3, 0, 0, 0, 0), (4, .iload_n 1, 1, 0, 0, 0, 0), (5, .aload_n 0, 1, 0, 0, 0, 0), (6, .getfield 91, 3, 9, 16, 2, 554), 
  (9, .getfield 313, 3, 2, 1, 0, 489), (12, .if_icmp .ge 15, 3, 0, 0, 0, 0), (15, .aload_n 0, 1, 0, 0, 0, 0), (16, .getfield 91, 3, 9, 16, 2, 554), 
  (19, .getfield 339, 3, 2, 0, 2, 487), (22, .iload_n 1, 1, 0, 0, 0, 0), (23, .baload, 1, 0, 0, 0, 0), (24, .goto 4, 3, 0, 0, 0, 0), (27, .iconst (-1), 1, 0, 0, 0, 0), 
  (28, .ireturn, 1, 0, 0, 0, 0)]
/-- DropSwitch needPort (I)V -/
noncomputable def cd_147 : List (Nat × Ent) := [
  (0, .iload_n 1, 1, 0, 0, 0, 0), (1, .ifCond .lt 17, 3, 0, 0, 0, 0), (4, .iload_n 1, 1, 0, 0, 0, 0), (5, .aload_n 0, 1, 0, 0, 0, 0), (6, .getfield 35, 3, 9, 5, 2, 543), 
  (9, .getfield 113, 3, 6, 0, 2, 248), (12, .getfield 117, 3, 1, 0, 0, 177), (15, .if_icmp .lt 11, 3, 0, 0, 0, 0), (18, .new 342, 3, 0, 0, 1, 1073), (21, .dup, 1, 0, 0, 0, 0), 
  (22, .invokespecial 344, 3, 0, 1, 99, 1082), (25, .athrow, 1, 0, 0, 0, 0), (26, .return_, 1, 0, 0, 0, 0)]
/-- DropSwitch needRule (I)V -/
noncomputable def cd_148 : List (Nat × Ent) := [
  (0, .iload_n 1, 1, 0, 0, 0, 0), (1, .ifCond .lt 14, 3, 0, 0, 0, 0), (4, .iload_n 1, 1, 0, 0, 0, 0), (5, .aload_n 0, 1, 0, 0, 0, 0), (6, .getfield 35, 3, 9, 5, 2, 543), 
  (9, .getfield 122, 3, 6, 2, 0, 252), (12, .if_icmp .lt 11, 3, 0, 0, 0, 0), (15, .new 342, 3, 0, 0, 1, 1073), (18, .dup, 1, 0, 0, 0, 0), (19, .invokespecial 344, 3, 0, 1, 99, 1082), 
  (22, .athrow, 1, 0, 0, 0, 0), (23, .return_, 1, 0, 0, 0, 0)]
/-- DropSwitch needEvent (I)V -/
noncomputable def cd_149 : List (Nat × Ent) := [
  (0, .iload_n 1, 1, 0, 0, 0, 0), (1, .ifCond .lt 14, 3, 0, 0, 0, 0), (4, .iload_n 1, 1, 0, 0, 0, 0), (5, .aload_n 0, 1, 0, 0, 0, 0), (6, .getfield 42, 3, 9, 6, 2, 544), 
  (9, .getfield 125, 3, 0, 0, 0, 316), (12, .if_icmp .lt 11, 3, 0, 0, 0, 0), (15, .new 342, 3, 0, 0, 1, 1073), (18, .dup, 1, 0, 0, 0, 0), (19, .invokespecial 344, 3, 0, 1, 99, 1082), 
  (22, .athrow, 1, 0, 0, 0, 0), (23, .return_, 1, 0, 0, 0, 0)]
/-- DropSwitch needMoment (I)V -/
noncomputable def cd_150 : List (Nat × Ent) := [
  (0, .iload_n 1, 1, 0, 0, 0, 0), (1, .ifCond .lt 14, 3, 0, 0, 0, 0), (4, .iload_n 1, 1, 0, 0, 0, 0), (5, .aload_n 0, 1, 0, 0, 0, 0), (6, .getfield 42, 3, 9, 6, 2, 544), 
  (9, .getfield 125, 3, 0, 0, 0, 316), (12, .if_icmp .le 11, 3, 0, 0, 0, 0), (15, .new 342, 3, 0, 0, 1, 1073), (18, .dup, 1, 0, 0, 0, 0), (19, .invokespecial 344, 3, 0, 1, 99, 1082), 
  (22, .athrow, 1, 0, 0, 0, 0), (23, .return_, 1, 0, 0, 0, 0)]
/-- DropSwitch needPacket (I)V -/
noncomputable def cd_151 : List (Nat × Ent) := [
  (0, .iload_n 1, 1, 0, 0, 0, 0), (1, .ifCond .lt 14, 3, 0, 0, 0, 0), (4, .iload_n 1, 1, 0, 0, 0, 0), (5, .aload_n 0, 1, 0, 0, 0, 0), (6, .getfield 42, 3, 9, 6, 2, 544), 
  (9, .getfield 128, 3, 0, 1, 0, 318), (12, .if_icmp .lt 11, 3, 0, 0, 0, 0), (15, .new 342, 3, 0, 0, 1, 1073), (18, .dup, 1, 0, 0, 0, 0), (19, .invokespecial 344, 3, 0, 1, 99, 1082), 
  (22, .athrow, 1, 0, 0, 0, 0), (23, .return_, 1, 0, 0, 0, 0)]
/-- DropSwitch needDrop (I)V -/
noncomputable def cd_152 : List (Nat × Ent) := [
  (0, .iload_n 1, 1, 0, 0, 0, 0), (1, .ifCond .lt 17, 3, 0, 0, 0, 0), (4, .iload_n 1, 1, 0, 0, 0, 0), (5, .aload_n 0, 1, 0, 0, 0, 0), (6, .getfield 57, 3, 9, 8, 2, 546), 
  (9, .getfield 131, 3, 5, 2, 2, 451), (12, .getfield 135, 3, 3, 0, 0, 425), (15, .if_icmp .lt 11, 3, 0, 0, 0, 0), (18, .new 342, 3, 0, 0, 1, 1073), (21, .dup, 1, 0, 0, 0, 0), 
  (22, .invokespecial 344, 3, 0, 1, 99, 1082), (25, .athrow, 1, 0, 0, 0, 0), (26, .return_, 1, 0, 0, 0, 0)]
/-- DropSwitch needAddress (I)V -/
noncomputable def cd_153 : List (Nat × Ent) := [
  (0, .iload_n 1, 1, 0, 0, 0, 0), (1, .ifCond .lt 9, 3, 0, 0, 0, 0), (4, .iload_n 1, 1, 0, 0, 0, 0), (5, .bipush 64, 2, 0, 0, 0, 0), (7, .if_icmp .lt 11, 3, 0, 0, 0, 0), 
  (10, .new 109, 3, 1, 0, 1, 973), (13, .dup, 1, 0, 0, 0, 0), (14, .invokespecial 111, 3, 0, 1, 99, 1015), (17, .athrow, 1, 0, 0, 0, 0), (18, .return_, 1, 0, 0, 0, 0)]
/-- DropSwitch needCause (I)V -/
noncomputable def cd_154 : List (Nat × Ent) := [
  (0, .iload_n 1, 1, 0, 0, 0, 0), (1, .iconst 1, 1, 0, 0, 0, 0), (2, .if_icmp .lt 9, 3, 0, 0, 0, 0), (5, .iload_n 1, 1, 0, 0, 0, 0), (6, .bipush 10, 2, 0, 0, 0, 0), 
  (8, .if_icmp .le 11, 3, 0, 0, 0, 0), (11, .new 109, 3, 1, 0, 1, 973), (14, .dup, 1, 0, 0, 0, 0), (15, .invokespecial 111, 3, 0, 1, 99, 1015), (18, .athrow, 1, 0, 0, 0, 0), 
  (19, .return_, 1, 0, 0, 0, 0)]
/-- DropSwitch needRoom ()V -/
noncomputable def cd_155 : List (Nat × Ent) := [
  (0, .aload_n 0, 1, 0, 0, 0, 0), (1, .getfield 42, 3, 9, 6, 2, 544), (4, .getfield 125, 3, 0, 0, 0, 316), (7, .bipush 120, 2, 0, 0, 0, 0), (9, .if_icmp .lt 11, 3, 0, 0, 0, 0), 
  (12, .new 345, 3, 2, 0, 1, 1096), (15, .dup, 1, 0, 0, 0, 0), (16, .invokespecial 347, 3, 0, 1, 99, 1105), (19, .athrow, 1, 0, 0, 0, 0), (20, .return_, 1, 0, 0, 0, 0)]
/-- DropSwitch appendWord (I)V -/
noncomputable def cd_156 : List (Nat × Ent) := [
  (0, .bipush 24, 2, 0, 0, 0, 0), (2, .istore_n 2, 1, 0, 0, 0, 0), (3, .iload_n 2, 1, 0, 0, 0, 0), (4, .ifCond .lt 32, 3, 0, 0, 0, 0), (7, .aload_n 0, 1, 0, 0, 0, 0), 
  (8, .getfield 9, 3, 9, 0, 2, 538), (11, .aload_n 0, 1, 0, 0, 0, 0), (12, .getfield 13, 3, 9, 1, 0, 539), (15, .iload_n 1, 1, 0, 0, 0, 0), (16, .iload_n 2, 1, 0, 0, 0, 0), 
  (17, .ishr, 1, 0, 0, 0, 0), (18, .i2b, 1, 0, 0, 0, 0), (19, .bastore, 1, 0, 0, 0, 0), (20, .aload_n 0, 1, 0, 0, 0, 0), (21, .dup, 1, 0, 0, 0, 0), 
  (22, .getfield 13, 3, 9, 1, 0, 539), (25, .iconst 1, 1, 0, 0, 0, 0), (26, .iadd, 1, 0, 0, 0, 0), (27, .putfield 13, 3, 9, 1, 0, 539), (30, .iinc 2 (-8), 3, 0, 0, 0, 0), 
  (33, .goto (-30), 3, 0, 0, 0, 0), (36, .return_, 1, 0, 0, 0, 0)]
/-- DropSwitch startOver ()V -/
noncomputable def cd_157 : List (Nat × Ent) := [
  (0, .aload_n 0, 1, 0, 0, 0, 0), (1, .getfield 42, 3, 9, 6, 2, 544), (4, .iconst 0, 1, 0, 0, 0, 0), (5, .invokevirtual 177, 3, 3, 2, 0, 501), (8, .aload_n 0, 1, 0, 0, 0, 0), 
  (9, .getfield 67, 3, 9, 10, 2, 548), (12, .invokevirtual 180, 3, 92, 1, 0, 505), (15, .aload_n 0, 1, 0, 0, 0, 0), (16, .dup, 1, 0, 0, 0, 0), (17, .getfield 74, 3, 9, 12, 0, 550), 
  (20, .iconst 1, 1, 0, 0, 0, 0), (21, .iadd, 1, 0, 0, 0, 0), (22, .putfield 74, 3, 9, 12, 0, 550), (25, .aload_n 0, 1, 0, 0, 0, 0), (26, .getfield 57, 3, 9, 8, 2, 546), 
  (29, .getfield 218, 3, 5, 0, 2, 447), (32, .aload_n 0, 1, 0, 0, 0, 0), (33, .getfield 35, 3, 9, 5, 2, 543), (36, .getfield 113, 3, 6, 0, 2, 248), 
  (39, .invokevirtual 297, 3, 9, 2, 0, 512), (42, .aload_n 0, 1, 0, 0, 0, 0), (43, .getfield 57, 3, 9, 8, 2, 546), (46, .invokevirtual 183, 3, 49, 1, 0, 519), 
  (49, .aload_n 0, 1, 0, 0, 0, 0), (50, .getfield 48, 3, 9, 7, 2, 545), (53, .iconst 0, 1, 0, 0, 0, 0), (54, .aaload, 1, 0, 0, 0, 0), (55, .aload_n 0, 1, 0, 0, 0, 0), 
  (56, .getfield 57, 3, 9, 8, 2, 546), (59, .getfield 140, 3, 5, 1, 2, 449), (62, .invokevirtual 348, 3, 79, 2, 0, 533), (65, .return_, 1, 0, 0, 0, 0)]
/-- DropSwitch goOn ()I -/
noncomputable def cd_158 : List (Nat × Ent) := [
  (0, .aload_n 0, 1, 0, 0, 0, 0), (1, .getfield 42, 3, 9, 6, 2, 544), (4, .getfield 125, 3, 0, 0, 0, 316), (7, .iconst 1, 1, 0, 0, 0, 0), (8, .isub, 1, 0, 0, 0, 0), 
  (9, .istore_n 1, 1, 0, 0, 0, 0), (10, .aload_n 0, 1, 0, 0, 0, 0), (11, .dup, 1, 0, 0, 0, 0), (12, .getfield 74, 3, 9, 12, 0, 550), (15, .iconst 1, 1, 0, 0, 0, 0), 
  (16, .iadd, 1, 0, 0, 0, 0), (17, .putfield 74, 3, 9, 12, 0, 550), (20, .iload_n 1, 1, 0, 0, 0, 0), (21, .bipush 16, 2, 0, 0, 0, 0), (23, .irem, 1, 0, 0, 0, 0), 
  (24, .ifCond .ne 22, 3, 0, 0, 0, 0), (27, .aload_n 0, 1, 0, 0, 0, 0), (28, .getfield 48, 3, 9, 7, 2, 545), (31, .iload_n 1, 1, 0, 0, 0, 0), (32, .bipush 16, 2, 0, 0, 0, 0), 
  (34, .idiv, 1, 0, 0, 0, 0), (35, .aaload, 1, 0, 0, 0, 0), (36, .aload_n 0, 1, 0, 0, 0, 0), (37, .getfield 57, 3, 9, 8, 2, 546), (40, .getfield 140, 3, 5, 1, 2, 449), 
  (43, .invokevirtual 348, 3, 79, 2, 0, 533), (46, .aload_n 0, 1, 0, 0, 0, 0), (47, .getfield 57, 3, 9, 8, 2, 546), (50, .iload_n 1, 1, 0, 0, 0, 0), 
  (51, .invokevirtual 186, 3, 51, 2, 0, 650), (54, .ireturn, 1, 0, 0, 0, 0)]
/-- DropSwitch latestCheckpoint (I)I -/
noncomputable def cd_159 : List (Nat × Ent) := [
  (0, .iload_n 1, 1, 0, 0, 0, 0), (1, .aload_n 0, 1, 0, 0, 0, 0), (2, .getfield 42, 3, 9, 6, 2, 544), (5, .getfield 125, 3, 0, 0, 0, 316), (8, .iconst 1, 1, 0, 0, 0, 0), 
  (9, .isub, 1, 0, 0, 0, 0), (10, .invokestatic 351, 3, 0, 2, 5, 1326), (13, .istore_n 2, 1, 0, 0, 0, 0), (14, .iload_n 2, 1, 0, 0, 0, 0), (15, .ifCond .ge 7, 3, 0, 0, 0, 0), 
  (18, .iconst 0, 1, 0, 0, 0, 0), (19, .goto 9, 3, 0, 0, 0, 0), (22, .iload_n 2, 1, 0, 0, 0, 0), (23, .iload_n 2, 1, 0, 0, 0, 0), (24, .bipush 16, 2, 0, 0, 0, 0), 
  (26, .irem, 1, 0, 0, 0, 0), (27, .isub, 1, 0, 0, 0, 0), (28, .ireturn, 1, 0, 0, 0, 0)]
/-- DropSwitch reach (I)V -/
noncomputable def cd_160 : List (Nat × Ent) := [
  (0, .aload_n 0, 1, 0, 0, 0, 0), (1, .iload_n 1, 1, 0, 0, 0, 0), (2, .invokevirtual 257, 3, 159, 2, 0, 1322), (5, .istore_n 2, 1, 0, 0, 0, 0), (6, .aload_n 0, 1, 0, 0, 0, 0), 
  (7, .getfield 61, 3, 9, 9, 2, 547), (10, .getfield 218, 3, 5, 0, 2, 447), (13, .aload_n 0, 1, 0, 0, 0, 0), (14, .getfield 35, 3, 9, 5, 2, 543), (17, .getfield 113, 3, 6, 0, 2, 248), 
  (20, .invokevirtual 297, 3, 9, 2, 0, 512), (23, .aload_n 0, 1, 0, 0, 0, 0), (24, .getfield 61, 3, 9, 9, 2, 547), (27, .aload_n 0, 1, 0, 0, 0, 0), 
  (28, .getfield 48, 3, 9, 7, 2, 545), (31, .iload_n 2, 1, 0, 0, 0, 0), (32, .bipush 16, 2, 0, 0, 0, 0), (34, .idiv, 1, 0, 0, 0, 0), (35, .aaload, 1, 0, 0, 0, 0), 
  (36, .invokevirtual 356, 3, 50, 2, 0, 1338), (39, .iload_n 2, 1, 0, 0, 0, 0), (40, .istore_n 3, 1, 0, 0, 0, 0), (41, .iload_n 3, 1, 0, 0, 0, 0), (42, .iload_n 1, 1, 0, 0, 0, 0), 
  (43, .if_icmp .ge 18, 3, 0, 0, 0, 0), (46, .aload_n 0, 1, 0, 0, 0, 0), (47, .getfield 61, 3, 9, 9, 2, 547), (50, .iload_n 3, 1, 0, 0, 0, 0), 
  (51, .invokevirtual 186, 3, 51, 2, 0, 650), (54, .pop, 1, 0, 0, 0, 0), (55, .iinc 3 1, 3, 0, 0, 0, 0), (58, .goto (-17), 3, 0, 0, 0, 0), (61, .return_, 1, 0, 0, 0, 0)]
/-- DropSwitch fitsSetting (II)Z -/
noncomputable def cd_161 : List (Nat × Ent) := [
  (0, .iload_n 0, 1, 0, 0, 0, 0), (1, .tableswitch 100 0 3 #[31, 48, 66, 83], 31, 0, 0, 0, 0), (32, .iload_n 1, 1, 0, 0, 0, 0), (33, .iconst 1, 1, 0, 0, 0, 0), 
  (34, .if_icmp .lt 13, 3, 0, 0, 0, 0), (37, .iload_n 1, 1, 0, 0, 0, 0), (38, .bipush 99, 2, 0, 0, 0, 0), (40, .if_icmp .gt 7, 3, 0, 0, 0, 0), (43, .iconst 1, 1, 0, 0, 0, 0), 
  (44, .goto 4, 3, 0, 0, 0, 0), (47, .iconst 0, 1, 0, 0, 0, 0), (48, .ireturn, 1, 0, 0, 1, 0), (49, .iload_n 1, 1, 0, 0, 0, 0), (50, .iconst 1, 1, 0, 0, 0, 0), 
  (51, .if_icmp .lt 14, 3, 0, 0, 0, 0), (54, .iload_n 1, 1, 0, 0, 0, 0), (55, .sipush 400, 3, 0, 0, 0, 0), (58, .if_icmp .gt 7, 3, 0, 0, 0, 0), (61, .iconst 1, 1, 0, 0, 0, 0), 
  (62, .goto 4, 3, 0, 0, 0, 0), (65, .iconst 0, 1, 0, 0, 0, 0), (66, .ireturn, 1, 0, 0, 1, 0), (67, .iload_n 1, 1, 0, 0, 0, 0), (68, .iconst 1, 1, 0, 0, 0, 0), 
  (69, .if_icmp .lt 13, 3, 0, 0, 0, 0), (72, .iload_n 1, 1, 0, 0, 0, 0), (73, .bipush 99, 2, 0, 0, 0, 0), (75, .if_icmp .gt 7, 3, 0, 0, 0, 0), (78, .iconst 1, 1, 0, 0, 0, 0), 
  (79, .goto 4, 3, 0, 0, 0, 0), (82, .iconst 0, 1, 0, 0, 0, 0), (83, .ireturn, 1, 0, 0, 1, 0), (84, .iload_n 1, 1, 0, 0, 0, 0), (85, .ifCond .lt 14, 3, 0, 0, 0, 0), 
  (88, .iload_n 1, 1, 0, 0, 0, 0), (89, .sipush 999, 3, 0, 0, 0, 0), (92, .if_icmp .gt 7, 3, 0, 0, 0, 0), (95, .iconst 1, 1, 0, 0, 0, 0), (96, .goto 4, 3, 0, 0, 0, 0), 
  (99, .iconst 0, 1, 0, 0, 0, 0), (100, .ireturn, 1, 0, 0, 1, 0), (101, .iconst 1, 1, 0, 0, 0, 0), (102, .ireturn, 1, 0, 0, 1, 0)]
/-- DropSwitch refreshSupposed ()V -/
noncomputable def cd_162 : List (Nat × Ent) := [
  (0, .aload_n 0, 1, 0, 0, 0, 0), (1, .getfield 77, 3, 9, 13, 0, 551), (4, .aload_n 0, 1, 0, 0, 0, 0), (5, .getfield 74, 3, 9, 12, 0, 550), (8, .if_icmp .ne 4, 3, 0, 0, 0, 0), 
  (11, .return_, 1, 0, 0, 0, 0), (12, .aload_n 0, 1, 0, 0, 0, 0), (13, .aload_n 0, 1, 0, 0, 0, 0), (14, .getfield 74, 3, 9, 12, 0, 550), (17, .putfield 77, 3, 9, 13, 0, 551), 
  (20, .aload_n 0, 1, 0, 0, 0, 0), (21, .getfield 71, 3, 9, 11, 2, 549), (24, .getfield 218, 3, 5, 0, 2, 447), (27, .aload_n 0, 1, 0, 0, 0, 0), (28, .getfield 35, 3, 9, 5, 2, 543), 
  (31, .getfield 113, 3, 6, 0, 2, 248), (34, .invokevirtual 297, 3, 9, 2, 0, 512), (37, .aload_n 0, 1, 0, 0, 0, 0), (38, .getfield 67, 3, 9, 10, 2, 548), 
  (41, .aload_n 0, 1, 0, 0, 0, 0), (42, .getfield 71, 3, 9, 11, 2, 549), (45, .getfield 218, 3, 5, 0, 2, 447), (48, .invokevirtual 359, 3, 96, 2, 0, 642), 
  (51, .aload_n 0, 1, 0, 0, 0, 0), (52, .getfield 71, 3, 9, 11, 2, 549), (55, .invokevirtual 183, 3, 49, 1, 0, 519), (58, .iconst 0, 1, 0, 0, 0, 0), (59, .istore_n 1, 1, 0, 0, 0, 0), 
  (60, .iload_n 1, 1, 0, 0, 0, 0), (61, .aload_n 0, 1, 0, 0, 0, 0), (62, .getfield 42, 3, 9, 6, 2, 544), (65, .getfield 125, 3, 0, 0, 0, 316), (68, .if_icmp .ge 30, 3, 0, 0, 0, 0), 
  (71, .aload_n 0, 1, 0, 0, 0, 0), (72, .getfield 67, 3, 9, 10, 2, 548), (75, .getfield 277, 3, 8, 1, 2, 473), (78, .iload_n 1, 1, 0, 0, 0, 0), (79, .baload, 1, 0, 0, 0, 0), 
  (80, .ifCond .ne 12, 3, 0, 0, 0, 0), (83, .aload_n 0, 1, 0, 0, 0, 0), (84, .getfield 71, 3, 9, 11, 2, 549), (87, .iload_n 1, 1, 0, 0, 0, 0), 
  (88, .invokevirtual 186, 3, 51, 2, 0, 650), (91, .pop, 1, 0, 0, 0, 0), (92, .iinc 1 1, 3, 0, 0, 0, 0), (95, .goto (-35), 3, 0, 0, 0, 0), (98, .return_, 1, 0, 0, 0, 0)]
/-- DropSwitch tryWithout (I)V -/
noncomputable def cd_163 : List (Nat × Ent) := [
  (0, .aload_n 0, 1, 0, 0, 0, 0), (1, .getfield 80, 3, 9, 14, 2, 552), (4, .iload_n 1, 1, 0, 0, 0, 0), (5, .iaload, 1, 0, 0, 0, 0), (6, .aload_n 0, 1, 0, 0, 0, 0), 
  (7, .getfield 74, 3, 9, 12, 0, 550), (10, .if_icmp .ne 4, 3, 0, 0, 0, 0), (13, .return_, 1, 0, 0, 0, 0), (14, .aload_n 0, 1, 0, 0, 0, 0), (15, .getfield 80, 3, 9, 14, 2, 552), 
  (18, .iload_n 1, 1, 0, 0, 0, 0), (19, .aload_n 0, 1, 0, 0, 0, 0), (20, .getfield 74, 3, 9, 12, 0, 550), (23, .iastore, 1, 0, 0, 0, 0), (24, .aload_n 0, 1, 0, 0, 0, 0), 
  (25, .iload_n 1, 1, 0, 0, 0, 0), (26, .invokevirtual 257, 3, 159, 2, 0, 1322), (29, .istore_n 2, 1, 0, 0, 0, 0), (30, .aload_n 0, 1, 0, 0, 0, 0), 
  (31, .getfield 61, 3, 9, 9, 2, 547), (34, .getfield 218, 3, 5, 0, 2, 447), (37, .aload_n 0, 1, 0, 0, 0, 0), (38, .getfield 35, 3, 9, 5, 2, 543), 
  (41, .getfield 113, 3, 6, 0, 2, 248), (44, .invokevirtual 297, 3, 9, 2, 0, 512), (47, .aload_n 0, 1, 0, 0, 0, 0), (48, .getfield 61, 3, 9, 9, 2, 547), 
  (51, .aload_n 0, 1, 0, 0, 0, 0), (52, .getfield 48, 3, 9, 7, 2, 545), (55, .iload_n 2, 1, 0, 0, 0, 0), (56, .bipush 16, 2, 0, 0, 0, 0), (58, .idiv, 1, 0, 0, 0, 0), 
  (59, .aaload, 1, 0, 0, 0, 0), (60, .invokevirtual 356, 3, 50, 2, 0, 1338), (63, .iload_n 2, 1, 0, 0, 0, 0), (64, .istore_n 3, 1, 0, 0, 0, 0), (65, .iload_n 3, 1, 0, 0, 0, 0), 
  (66, .aload_n 0, 1, 0, 0, 0, 0), (67, .getfield 42, 3, 9, 6, 2, 544), (70, .getfield 125, 3, 0, 0, 0, 316), (73, .if_icmp .ge 23, 3, 0, 0, 0, 0), (76, .iload_n 3, 1, 0, 0, 0, 0), 
  (77, .iload_n 1, 1, 0, 0, 0, 0), (78, .if_icmp .eq 12, 3, 0, 0, 0, 0), (81, .aload_n 0, 1, 0, 0, 0, 0), (82, .getfield 61, 3, 9, 9, 2, 547), (85, .iload_n 3, 1, 0, 0, 0, 0), 
  (86, .invokevirtual 186, 3, 51, 2, 0, 650), (89, .pop, 1, 0, 0, 0, 0), (90, .iinc 3 1, 3, 0, 0, 0, 0), (93, .goto (-28), 3, 0, 0, 0, 0), (96, .iload_n 1, 1, 0, 0, 0, 0), 
  (97, .bipush 6, 2, 0, 0, 0, 0), (99, .imul, 1, 0, 0, 0, 0), (100, .istore_n 3, 1, 0, 0, 0, 0), (101, .iconst 0, 1, 0, 0, 0, 0), (102, .istore 4, 2, 0, 0, 0, 0), 
  (104, .iload 4, 2, 0, 0, 0, 0), (106, .bipush 6, 2, 0, 0, 0, 0), (108, .if_icmp .ge 19, 3, 0, 0, 0, 0), (111, .aload_n 0, 1, 0, 0, 0, 0), (112, .getfield 84, 3, 9, 15, 2, 553), 
  (115, .iload_n 3, 1, 0, 0, 0, 0), (116, .iload 4, 2, 0, 0, 0, 0), (118, .iadd, 1, 0, 0, 0, 0), (119, .lconst 0, 1, 0, 0, 0, 0), (120, .lastore, 1, 0, 0, 0, 0), 
  (121, .iinc 4 1, 3, 0, 0, 0, 0), (124, .goto (-20), 3, 0, 0, 0, 0), (127, .iconst 0, 1, 0, 0, 0, 0), (128, .istore 4, 2, 0, 0, 0, 0), (130, .iload 4, 2, 0, 0, 0, 0), 
  (132, .aload_n 0, 1, 0, 0, 0, 0), (133, .getfield 57, 3, 9, 8, 2, 546), (136, .getfield 131, 3, 5, 2, 2, 451), (139, .getfield 135, 3, 3, 0, 0, 425), 
  (142, .if_icmp .ge 70, 3, 0, 0, 0, 0), (145, .aload_n 0, 1, 0, 0, 0, 0), (146, .getfield 57, 3, 9, 8, 2, 546), (149, .getfield 131, 3, 5, 2, 2, 451), (152, .iload 4, 2, 0, 0, 0, 0), 
  (154, .iconst 0, 1, 0, 0, 0, 0), (155, .invokevirtual 240, 3, 24, 3, 0, 1266), (158, .iload_n 2, 1, 0, 0, 0, 0), (159, .if_icmp .lt 47, 3, 0, 0, 0, 0), 
  (162, .aload_n 0, 1, 0, 0, 0, 0), (163, .getfield 61, 3, 9, 9, 2, 547), (166, .getfield 131, 3, 5, 2, 2, 451), (169, .aload_n 0, 1, 0, 0, 0, 0), 
  (170, .getfield 57, 3, 9, 8, 2, 546), (173, .getfield 131, 3, 5, 2, 2, 451), (176, .iload 4, 2, 0, 0, 0, 0), (178, .invokevirtual 362, 3, 27, 3, 0, 1410), 
  (181, .ifCond .ne 25, 3, 0, 0, 0, 0), (184, .aload_n 0, 1, 0, 0, 0, 0), (185, .getfield 84, 3, 9, 15, 2, 553), (188, .iload_n 3, 1, 0, 0, 0, 0), (189, .iload 4, 2, 0, 0, 0, 0), 
  (191, .bipush 64, 2, 0, 0, 0, 0), (193, .idiv, 1, 0, 0, 0, 0), (194, .iadd, 1, 0, 0, 0, 0), (195, .dup2, 1, 0, 0, 0, 0), (196, .laload, 1, 0, 0, 0, 0), 
  (197, .lconst 1, 1, 0, 0, 0, 0), (198, .iload 4, 2, 0, 0, 0, 0), (200, .bipush 64, 2, 0, 0, 0, 0), (202, .irem, 1, 0, 0, 0, 0), (203, .lshl, 1, 0, 0, 0, 0), 
  (204, .lor, 1, 0, 0, 0, 0), (205, .lastore, 1, 0, 0, 0, 0), (206, .iinc 4 1, 3, 0, 0, 0, 0), (209, .goto (-79), 3, 0, 0, 0, 0), (212, .return_, 1, 0, 0, 0, 0)]
/-- DropSwitch isSavedWithout (II)Z -/
noncomputable def cd_164 : List (Nat × Ent) := [
  (0, .aload_n 0, 1, 0, 0, 0, 0), (1, .getfield 84, 3, 9, 15, 2, 553), (4, .iload_n 1, 1, 0, 0, 0, 0), (5, .bipush 6, 2, 0, 0, 0, 0), (7, .imul, 1, 0, 0, 0, 0), 
  (8, .iload_n 2, 1, 0, 0, 0, 0), (9, .bipush 64, 2, 0, 0, 0, 0), (11, .idiv, 1, 0, 0, 0, 0), (12, .iadd, 1, 0, 0, 0, 0), (13, .laload, 1, 0, 0, 0, 0), 
  (14, .iload_n 2, 1, 0, 0, 0, 0), (15, .bipush 64, 2, 0, 0, 0, 0), (17, .irem, 1, 0, 0, 0, 0), (18, .lushr, 1, 0, 0, 0, 0), (19, .lconst 1, 1, 0, 0, 0, 0), 
  (20, .land, 1, 0, 0, 0, 0), (21, .lconst 0, 1, 0, 0, 0, 0), (22, .lcmp, 1, 0, 0, 0, 0), (23, .ifCond .eq 7, 3, 0, 0, 0, 0), (26, .iconst 1, 1, 0, 0, 0, 0), 
  (27, .goto 4, 3, 0, 0, 0, 0), (30, .iconst 0, 1, 0, 0, 0, 0), (31, .ireturn, 1, 0, 0, 1, 0)]
/-- DropSwitch trialDrops (I)Z -/
noncomputable def cd_165 : List (Nat × Ent) := [
  (0, .aload_n 0, 1, 0, 0, 0, 0), (1, .getfield 61, 3, 9, 9, 2, 547), (4, .invokevirtual 183, 3, 49, 1, 0, 519), (7, .iconst 0, 1, 0, 0, 0, 0), (8, .istore_n 2, 1, 0, 0, 0, 0), 
  (9, .iload_n 2, 1, 0, 0, 0, 0), (10, .aload_n 0, 1, 0, 0, 0, 0), (11, .getfield 42, 3, 9, 6, 2, 544), (14, .getfield 125, 3, 0, 0, 0, 316), (17, .if_icmp .ge 41, 3, 0, 0, 0, 0), 
  (20, .aload_n 0, 1, 0, 0, 0, 0), (21, .getfield 61, 3, 9, 9, 2, 547), (24, .iload_n 2, 1, 0, 0, 0, 0), (25, .invokevirtual 186, 3, 51, 2, 0, 650), (28, .pop, 1, 0, 0, 0, 0), 
  (29, .aload_n 0, 1, 0, 0, 0, 0), (30, .getfield 61, 3, 9, 9, 2, 547), (33, .getfield 131, 3, 5, 2, 2, 451), (36, .aload_n 0, 1, 0, 0, 0, 0), (37, .getfield 57, 3, 9, 8, 2, 546), 
  (40, .getfield 131, 3, 5, 2, 2, 451), (43, .iload_n 1, 1, 0, 0, 0, 0), (44, .invokevirtual 362, 3, 27, 3, 0, 1410), (47, .ifCond .eq 5, 3, 0, 0, 0, 0), 
  (50, .iconst 1, 1, 0, 0, 0, 0), (51, .ireturn, 1, 0, 0, 1, 0), (52, .iinc 2 1, 3, 0, 0, 0, 0), (55, .goto (-46), 3, 0, 0, 0, 0), (58, .iconst 0, 1, 0, 0, 0, 0), 
  (59, .ireturn, 1, 0, 0, 1, 0)]
/-- DropSwitch causeWord (I)Ljava/lang/String; -/
noncomputable def cd_166 : List (Nat × Ent) := [
  (0, .iload_n 0, 1, 0, 0, 0, 0), (1, .tableswitch 87 1 9 #[51, 55, 59, 63, 67, 71, 75, 79, 83], 51, 0, 0, 0, 0), (52, .ldc_w 366, 3, 17, 0, 0, 1463), (55, .areturn, 1, 0, 0, 0, 0), 
  (56, .ldc_w 368, 3, 18, 0, 0, 1464), (59, .areturn, 1, 0, 0, 0, 0), (60, .ldc_w 370, 3, 19, 0, 0, 1465), (63, .areturn, 1, 0, 0, 0, 0), (64, .ldc_w 372, 3, 20, 0, 0, 1466), 
  (67, .areturn, 1, 0, 0, 0, 0), (68, .ldc_w 374, 3, 21, 0, 0, 1467), (71, .areturn, 1, 0, 0, 0, 0), (72, .ldc_w 376, 3, 22, 0, 0, 1468), (75, .areturn, 1, 0, 0, 0, 0), 
  (76, .ldc_w 378, 3, 23, 0, 0, 1469), (79, .areturn, 1, 0, 0, 0, 0), (80, .ldc_w 380, 3, 24, 0, 0, 1470), (83, .areturn, 1, 0, 0, 0, 0), (84, .ldc_w 382, 3, 25, 0, 0, 1471), 
  (87, .areturn, 1, 0, 0, 0, 0), (88, .ldc_w 384, 3, 26, 0, 0, 1472), (91, .areturn, 1, 0, 0, 0, 0)]
/-- DropSwitchModel <init> ()V -/
noncomputable def cd_167 : List (Nat × Ent) := [
  (0, .aload_n 0, 1, 0, 0, 0, 0), (1, .invokespecial 1, 3, 0, 1, 4, 1500), (4, .aload_n 0, 1, 0, 0, 0, 0), (5, .iconst 4, 1, 0, 0, 0, 0), (6, .newarray .long, 2, 2, 0, 0, 0), 
  (8, .putfield 7, 3, 10, 2, 12, 1503), (11, .aload_n 0, 1, 0, 0, 0, 0), (12, .iconst 4, 1, 0, 0, 0, 0), (13, .newarray .int, 2, 1, 0, 0, 0), (15, .putfield 13, 3, 10, 3, 12, 1504), 
  (18, .aload_n 0, 1, 0, 0, 0, 0), (19, .iconst 4, 1, 0, 0, 0, 0), (20, .newarray .int, 2, 1, 0, 0, 0), (22, .putfield 17, 3, 10, 4, 12, 1505), (25, .aload_n 0, 1, 0, 0, 0, 0), 
  (26, .iconst 4, 1, 0, 0, 0, 0), (27, .newarray .int, 2, 1, 0, 0, 0), (29, .putfield 20, 3, 10, 5, 12, 1506), (32, .aload_n 0, 1, 0, 0, 0, 0), (33, .iconst 4, 1, 0, 0, 0, 0), 
  (34, .newarray .int, 2, 1, 0, 0, 0), (36, .putfield 23, 3, 10, 6, 12, 1507), (39, .aload_n 0, 1, 0, 0, 0, 0), (40, .sipush 400, 3, 0, 0, 0, 0), 
  (43, .putfield 26, 3, 10, 7, 0, 1508), (46, .aload_n 0, 1, 0, 0, 0, 0), (47, .bipush 100, 2, 0, 0, 0, 0), (49, .putfield 30, 3, 10, 8, 0, 1509), (52, .aload_n 0, 1, 0, 0, 0, 0), 
  (53, .bipush 99, 2, 0, 0, 0, 0), (55, .putfield 33, 3, 10, 9, 0, 1510), (58, .aload_n 0, 1, 0, 0, 0, 0), (59, .bipush 8, 2, 0, 0, 0, 0), (61, .newarray .boolean, 2, 4, 0, 0, 0), 
  (63, .putfield 36, 3, 10, 11, 12, 1512), (66, .aload_n 0, 1, 0, 0, 0, 0), (67, .bipush 8, 2, 0, 0, 0, 0), (69, .newarray .int, 2, 1, 0, 0, 0), 
  (71, .putfield 40, 3, 10, 12, 12, 1513), (74, .aload_n 0, 1, 0, 0, 0, 0), (75, .bipush 8, 2, 0, 0, 0, 0), (77, .newarray .int, 2, 1, 0, 0, 0), 
  (79, .putfield 43, 3, 10, 13, 12, 1514), (82, .aload_n 0, 1, 0, 0, 0, 0), (83, .sipush 900, 3, 0, 0, 0, 0), (86, .newarray .int, 2, 1, 0, 0, 0), 
  (88, .putfield 46, 3, 10, 14, 12, 1515), (91, .aload_n 0, 1, 0, 0, 0, 0), (92, .sipush 840, 3, 0, 0, 0, 0), (95, .newarray .int, 2, 1, 0, 0, 0), 
  (97, .putfield 49, 3, 10, 17, 12, 1518), (100, .aload_n 0, 1, 0, 0, 0, 0), (101, .bipush 120, 2, 0, 0, 0, 0), (103, .newarray .int, 2, 1, 0, 0, 0), 
  (105, .putfield 52, 3, 10, 18, 12, 1519), (108, .aload_n 0, 1, 0, 0, 0, 0), (109, .sipush 600, 3, 0, 0, 0, 0), (112, .newarray .byte, 2, 3, 0, 0, 0), 
  (114, .putfield 55, 3, 10, 19, 12, 1520), (117, .aload_n 0, 1, 0, 0, 0, 0), (118, .iconst (-1), 1, 0, 0, 0, 0), (119, .putfield 59, 3, 10, 23, 0, 1524), 
  (122, .aload_n 0, 1, 0, 0, 0, 0), (123, .iconst 4, 1, 0, 0, 0, 0), (124, .newarray .long, 2, 2, 0, 0, 0), (126, .putfield 62, 3, 10, 26, 12, 1527), (129, .aload_n 0, 1, 0, 0, 0, 0), 
  (130, .iconst 4, 1, 0, 0, 0, 0), (131, .newarray .int, 2, 1, 0, 0, 0), (133, .putfield 65, 3, 10, 27, 12, 1528), (136, .aload_n 0, 1, 0, 0, 0, 0), (137, .iconst 4, 1, 0, 0, 0, 0), 
  (138, .newarray .int, 2, 1, 0, 0, 0), (140, .putfield 68, 3, 10, 28, 12, 1529), (143, .aload_n 0, 1, 0, 0, 0, 0), (144, .iconst 4, 1, 0, 0, 0, 0), 
  (145, .newarray .int, 2, 1, 0, 0, 0), (147, .putfield 71, 3, 10, 29, 12, 1530), (150, .aload_n 0, 1, 0, 0, 0, 0), (151, .iconst 4, 1, 0, 0, 0, 0), 
  (152, .newarray .int, 2, 1, 0, 0, 0), (154, .putfield 74, 3, 10, 30, 12, 1531), (157, .aload_n 0, 1, 0, 0, 0, 0), (158, .bipush 8, 2, 0, 0, 0, 0), 
  (160, .newarray .boolean, 2, 4, 0, 0, 0), (162, .putfield 77, 3, 10, 35, 12, 1536), (165, .aload_n 0, 1, 0, 0, 0, 0), (166, .bipush 8, 2, 0, 0, 0, 0), 
  (168, .newarray .int, 2, 1, 0, 0, 0), (170, .putfield 80, 3, 10, 36, 12, 1537), (173, .aload_n 0, 1, 0, 0, 0, 0), (174, .bipush 8, 2, 0, 0, 0, 0), 
  (176, .newarray .int, 2, 1, 0, 0, 0), (178, .putfield 83, 3, 10, 37, 12, 1538), (181, .aload_n 0, 1, 0, 0, 0, 0), (182, .sipush 900, 3, 0, 0, 0, 0), 
  (185, .newarray .int, 2, 1, 0, 0, 0), (187, .putfield 86, 3, 10, 38, 12, 1539), (190, .aload_n 0, 1, 0, 0, 0, 0), (191, .sipush 300, 3, 0, 0, 0, 0), 
  (194, .newarray .int, 2, 1, 0, 0, 0), (196, .putfield 89, 3, 10, 40, 12, 1541), (199, .aload_n 0, 1, 0, 0, 0, 0), (200, .iconst 4, 1, 0, 0, 0, 0), 
  (201, .newarray .int, 2, 1, 0, 0, 0), (203, .dup, 1, 0, 0, 0, 0), (204, .iconst 0, 1, 0, 0, 0, 0), (205, .iconst (-1), 1, 0, 0, 0, 0), (206, .iastore, 1, 0, 0, 0, 0), 
  (207, .dup, 1, 0, 0, 0, 0), (208, .iconst 1, 1, 0, 0, 0, 0), (209, .iconst (-1), 1, 0, 0, 0, 0), (210, .iastore, 1, 0, 0, 0, 0), (211, .dup, 1, 0, 0, 0, 0), 
  (212, .iconst 2, 1, 0, 0, 0, 0), (213, .iconst (-1), 1, 0, 0, 0, 0), (214, .iastore, 1, 0, 0, 0, 0), (215, .dup, 1, 0, 0, 0, 0), (216, .iconst 3, 1, 0, 0, 0, 0), 
  (217, .iconst (-1), 1, 0, 0, 0, 0), (218, .iastore, 1, 0, 0, 0, 0), (219, .putfield 92, 3, 10, 43, 12, 1544), (222, .aload_n 0, 1, 0, 0, 0, 0), (223, .iconst (-1), 1, 0, 0, 0, 0), 
  (224, .putfield 95, 3, 10, 44, 0, 1545), (227, .aload_n 0, 1, 0, 0, 0, 0), (228, .iconst (-1), 1, 0, 0, 0, 0), (229, .putfield 98, 3, 10, 45, 0, 1546), 
  (232, .aload_n 0, 1, 0, 0, 0, 0), (233, .iconst (-1), 1, 0, 0, 0, 0), (234, .putfield 101, 3, 10, 46, 0, 1547), (237, .aload_n 0, 1, 0, 0, 0, 0), (238, .bipush 120, 2, 0, 0, 0, 0), 
  (240, .newarray .boolean, 2, 4, 0, 0, 0), (242, .putfield 104, 3, 10, 48, 12, 1549), (245, .aload_n 0, 1, 0, 0, 0, 0), (246, .iconst 4, 1, 0, 0, 0, 0), 
  (247, .newarray .int, 2, 1, 0, 0, 0), (249, .putfield 107, 3, 10, 49, 12, 1550), (252, .aload_n 0, 1, 0, 0, 0, 0), (253, .bipush 120, 2, 0, 0, 0, 0), 
  (255, .newarray .boolean, 2, 4, 0, 0, 0), (257, .putfield 110, 3, 10, 54, 12, 1555), (260, .aload_n 0, 1, 0, 0, 0, 0), (261, .iconst 4, 1, 0, 0, 0, 0), 
  (262, .newarray .boolean, 2, 4, 0, 0, 0), (264, .putfield 113, 3, 10, 56, 12, 1557), (267, .aload_n 0, 1, 0, 0, 0, 0), (268, .sipush 400, 3, 0, 0, 0, 0), 
  (271, .newarray .int, 2, 1, 0, 0, 0), (273, .putfield 116, 3, 10, 57, 12, 1558), (276, .aload_n 0, 1, 0, 0, 0, 0), (277, .sipush 400, 3, 0, 0, 0, 0), 
  (280, .newarray .int, 2, 1, 0, 0, 0), (282, .putfield 119, 3, 10, 58, 12, 1559), (285, .aload_n 0, 1, 0, 0, 0, 0), (286, .iconst 4, 1, 0, 0, 0, 0), 
  (287, .newarray .int, 2, 1, 0, 0, 0), (289, .putfield 122, 3, 10, 59, 12, 1560), (292, .aload_n 0, 1, 0, 0, 0, 0), (293, .iconst 4, 1, 0, 0, 0, 0), 
  (294, .newarray .int, 2, 1, 0, 0, 0), (296, .putfield 125, 3, 10, 60, 12, 1561), (299, .aload_n 0, 1, 0, 0, 0, 0), (300, .bipush 64, 2, 0, 0, 0, 0), 
  (302, .newarray .int, 2, 1, 0, 0, 0), (304, .putfield 128, 3, 10, 61, 12, 1562), (307, .aload_n 0, 1, 0, 0, 0, 0), (308, .bipush 64, 2, 0, 0, 0, 0), 
  (310, .newarray .int, 2, 1, 0, 0, 0), (312, .putfield 131, 3, 10, 62, 12, 1563), (315, .aload_n 0, 1, 0, 0, 0, 0), (316, .sipush 480, 3, 0, 0, 0, 0), 
  (319, .newarray .int, 2, 1, 0, 0, 0), (321, .putfield 134, 3, 10, 63, 12, 1564), (324, .aload_n 0, 1, 0, 0, 0, 0), (325, .iconst 4, 1, 0, 0, 0, 0), 
  (326, .newarray .int, 2, 1, 0, 0, 0), (328, .putfield 137, 3, 10, 64, 12, 1565), (331, .aload_n 0, 1, 0, 0, 0, 0), (332, .sipush 2000, 3, 0, 0, 0, 0), 
  (335, .newarray .int, 2, 1, 0, 0, 0), (337, .putfield 140, 3, 10, 65, 12, 1566), (340, .aload_n 0, 1, 0, 0, 0, 0), (341, .sipush 300, 3, 0, 0, 0, 0), 
  (344, .newarray .boolean, 2, 4, 0, 0, 0), (346, .putfield 143, 3, 10, 70, 12, 1571), (349, .aload_n 0, 1, 0, 0, 0, 0), (350, .sipush 600, 3, 0, 0, 0, 0), 
  (353, .newarray .boolean, 2, 4, 0, 0, 0), (355, .putfield 146, 3, 10, 71, 12, 1572), (358, .aload_n 0, 1, 0, 0, 0, 0), (359, .sipush 900, 3, 0, 0, 0, 0), 
  (362, .newarray .int, 2, 1, 0, 0, 0), (364, .putfield 149, 3, 10, 74, 12, 1575), (367, .return_, 1, 0, 0, 0, 0)]
/-- DropSwitchModel thrown ()I -/
noncomputable def cd_168 : List (Nat × Ent) := [
  (0, .aload_n 0, 1, 0, 0, 0, 0), (1, .getfield 152, 3, 10, 0, 0, 1501), (4, .ireturn, 1, 0, 0, 0, 0)]
/-- DropSwitchModel inRange (III)Z -/
noncomputable def cd_169 : List (Nat × Ent) := [
  (0, .iload_n 0, 1, 0, 0, 0, 0), (1, .iload_n 1, 1, 0, 0, 0, 0), (2, .if_icmp .lt 12, 3, 0, 0, 0, 0), (5, .iload_n 0, 1, 0, 0, 0, 0), (6, .iload_n 2, 1, 0, 0, 0, 0), 
  (7, .if_icmp .gt 7, 3, 0, 0, 0, 0), (10, .iconst 1, 1, 0, 0, 0, 0), (11, .goto 4, 3, 0, 0, 0, 0), (14, .iconst 0, 1, 0, 0, 0, 0), (15, .ireturn, 1, 0, 0, 1, 0)]
/-- DropSwitchModel isIn (II)Z -/
noncomputable def cd_170 : List (Nat × Ent) := [
  (0, .iload_n 0, 1, 0, 0, 0, 0), (1, .iload_n 1, 1, 0, 0, 0, 0), (2, .ishr, 1, 0, 0, 0, 0), (3, .iconst 1, 1, 0, 0, 0, 0), (4, .iand, 1, 0, 0, 0, 0), (5, .iconst 1, 1, 0, 0, 0, 0), 
  (6, .if_icmp .ne 7, 3, 0, 0, 0, 0), (9, .iconst 1, 1, 0, 0, 0, 0), (10, .goto 4, 3, 0, 0, 0, 0), (13, .iconst 0, 1, 0, 0, 0, 0), (14, .ireturn, 1, 0, 0, 1, 0)]
/-- DropSwitchModel append (IIIII)I -/
noncomputable def cd_171 : List (Nat × Ent) := [
  (0, .aload_n 0, 1, 0, 0, 0, 0), (1, .iconst 0, 1, 0, 0, 0, 0), (2, .putfield 152, 3, 10, 0, 0, 1501), (5, .aload_n 0, 1, 0, 0, 0, 0), (6, .getfield 155, 3, 10, 20, 0, 1521), 
  (9, .bipush 20, 2, 0, 0, 0, 0), (11, .iadd, 1, 0, 0, 0, 0), (12, .sipush 600, 3, 0, 0, 0, 0), (15, .if_icmp .le 5, 3, 0, 0, 0, 0), (18, .iconst (-1), 1, 0, 0, 0, 0), 
  (19, .ireturn, 1, 0, 0, 0, 0), (20, .iconst 0, 1, 0, 0, 0, 0), (21, .istore 6, 2, 0, 0, 0, 0), (23, .iload 6, 2, 0, 0, 0, 0), (25, .bipush 20, 2, 0, 0, 0, 0), 
  (27, .if_icmp .ge 90, 3, 0, 0, 0, 0), (30, .iload 6, 2, 0, 0, 0, 0), (32, .iconst 4, 1, 0, 0, 0, 0), (33, .if_icmp .ge 7, 3, 0, 0, 0, 0), (36, .iload_n 1, 1, 0, 0, 0, 0), 
  (37, .goto 39, 3, 0, 0, 0, 0), (40, .iload 6, 2, 0, 0, 0, 0), (42, .bipush 8, 2, 0, 0, 0, 0), (44, .if_icmp .ge 7, 3, 0, 0, 0, 0), (47, .iload_n 2, 1, 0, 0, 0, 0), 
  (48, .goto 28, 3, 0, 0, 0, 0), (51, .iload 6, 2, 0, 0, 0, 0), (53, .bipush 12, 2, 0, 0, 0, 0), (55, .if_icmp .ge 7, 3, 0, 0, 0, 0), (58, .iload_n 3, 1, 0, 0, 0, 0), 
  (59, .goto 17, 3, 0, 0, 0, 0), (62, .iload 6, 2, 0, 0, 0, 0), (64, .bipush 16, 2, 0, 0, 0, 0), (66, .if_icmp .ge 8, 3, 0, 0, 0, 0), (69, .iload 4, 2, 0, 0, 0, 0), 
  (71, .goto 5, 3, 0, 0, 0, 0), (74, .iload 5, 2, 0, 0, 0, 0), (76, .istore 7, 2, 0, 0, 0, 0), (78, .aload_n 0, 1, 0, 0, 0, 0), (79, .getfield 55, 3, 10, 19, 2, 1520), 
  (82, .aload_n 0, 1, 0, 0, 0, 0), (83, .getfield 155, 3, 10, 20, 0, 1521), (86, .iload 7, 2, 0, 0, 0, 0), (88, .bipush 24, 2, 0, 0, 0, 0), (90, .bipush 8, 2, 0, 0, 0, 0), 
  (92, .iload 6, 2, 0, 0, 0, 0), (94, .iconst 4, 1, 0, 0, 0, 0), (95, .irem, 1, 0, 0, 0, 0), (96, .imul, 1, 0, 0, 0, 0), (97, .isub, 1, 0, 0, 0, 0), (98, .ishr, 1, 0, 0, 0, 0), 
  (99, .i2b, 1, 0, 0, 0, 0), (100, .bastore, 1, 0, 0, 0, 0), (101, .aload_n 0, 1, 0, 0, 0, 0), (102, .dup, 1, 0, 0, 0, 0), (103, .getfield 155, 3, 10, 20, 0, 1521), 
  (106, .iconst 1, 1, 0, 0, 0, 0), (107, .iadd, 1, 0, 0, 0, 0), (108, .putfield 155, 3, 10, 20, 0, 1521), (111, .iinc 6 1, 3, 0, 0, 0, 0), (114, .goto (-91), 3, 0, 0, 0, 0), 
  (117, .aload_n 0, 1, 0, 0, 0, 0), (118, .getfield 155, 3, 10, 20, 0, 1521), (121, .ireturn, 1, 0, 0, 0, 0)]
/-- DropSwitchModel truncate (I)Z -/
noncomputable def cd_172 : List (Nat × Ent) := [
  (0, .aload_n 0, 1, 0, 0, 0, 0), (1, .iconst 0, 1, 0, 0, 0, 0), (2, .putfield 152, 3, 10, 0, 0, 1501), (5, .iload_n 1, 1, 0, 0, 0, 0), (6, .ifCond .lt 11, 3, 0, 0, 0, 0), 
  (9, .iload_n 1, 1, 0, 0, 0, 0), (10, .aload_n 0, 1, 0, 0, 0, 0), (11, .getfield 155, 3, 10, 20, 0, 1521), (14, .if_icmp .le 5, 3, 0, 0, 0, 0), (17, .iconst 0, 1, 0, 0, 0, 0), 
  (18, .ireturn, 1, 0, 0, 1, 0), (19, .aload_n 0, 1, 0, 0, 0, 0), (20, .iload_n 1, 1, 0, 0, 0, 0), (21, .putfield 155, 3, 10, 20, 0, 1521), (24, .iconst 1, 1, 0, 0, 0, 0), 
  (25, .ireturn, 1, 0, 0, 1, 0)]
/-- DropSwitchModel byteAt (I)I -/
noncomputable def cd_173 : List (Nat × Ent) := [
  (0, .iload_n 1, 1, 0, 0, 0, 0), (1, .aload_n 0, 1, 0, 0, 0, 0), (2, .getfield 158, 3, 10, 21, 0, 1522), (5, .if_icmp .ge 16, 3, 0, 0, 0, 0), (8, .aload_n 0, 1, 0, 0, 0, 0), 
  (9, .getfield 55, 3, 10, 19, 2, 1520), (12, .iload_n 1, 1, 0, 0, 0, 0), (13, .baload, 1, 0, 0, 0, 0), (14, .sipush 255, 3, 0, 0, 0, 0), (17, .iand, 1, 0, 0, 0, 0), 
  (18, .goto 4, 3, 0, 0, 0, 0), (21, .iconst (-1), 1, 0, 0, 0, 0), (22, .ireturn, 1, 0, 0, 0, 0)]
/-- DropSwitchModel peek ()I -/
noncomputable def cd_174 : List (Nat × Ent) := [
  (0, .aload_n 0, 1, 0, 0, 0, 0), (1, .aload_n 0, 1, 0, 0, 0, 0), (2, .getfield 161, 3, 10, 22, 0, 1523), (5, .invokevirtual 164, 3, 173, 2, 0, 1758), (8, .bipush 9, 2, 0, 0, 0, 0), 
  (10, .if_icmp .eq 29, 3, 0, 0, 0, 0), (13, .aload_n 0, 1, 0, 0, 0, 0), (14, .aload_n 0, 1, 0, 0, 0, 0), (15, .getfield 161, 3, 10, 22, 0, 1523), 
  (18, .invokevirtual 164, 3, 173, 2, 0, 1758), (21, .bipush 10, 2, 0, 0, 0, 0), (23, .if_icmp .eq 16, 3, 0, 0, 0, 0), (26, .aload_n 0, 1, 0, 0, 0, 0), 
  (27, .aload_n 0, 1, 0, 0, 0, 0), (28, .getfield 161, 3, 10, 22, 0, 1523), (31, .invokevirtual 164, 3, 173, 2, 0, 1758), (34, .bipush 32, 2, 0, 0, 0, 0), 
  (36, .if_icmp .ne 16, 3, 0, 0, 0, 0), (39, .aload_n 0, 1, 0, 0, 0, 0), (40, .dup, 1, 0, 0, 0, 0), (41, .getfield 161, 3, 10, 22, 0, 1523), (44, .iconst 1, 1, 0, 0, 0, 0), 
  (45, .iadd, 1, 0, 0, 0, 0), (46, .putfield 161, 3, 10, 22, 0, 1523), (49, .goto (-49), 3, 0, 0, 0, 0), (52, .aload_n 0, 1, 0, 0, 0, 0), (53, .aload_n 0, 1, 0, 0, 0, 0), 
  (54, .getfield 161, 3, 10, 22, 0, 1523), (57, .invokevirtual 164, 3, 173, 2, 0, 1758), (60, .ireturn, 1, 0, 0, 0, 0)]
/-- DropSwitchModel failed ()Z -/
noncomputable def cd_175 : List (Nat × Ent) := [
  (0, .aload_n 0, 1, 0, 0, 0, 0), (1, .getfield 168, 3, 10, 24, 0, 1525), (4, .ifCond .eq 7, 3, 0, 0, 0, 0), (7, .iconst 1, 1, 0, 0, 0, 0), (8, .goto 4, 3, 0, 0, 0, 0), 
  (11, .iconst 0, 1, 0, 0, 0, 0), (12, .ireturn, 1, 0, 0, 1, 0)]
/-- DropSwitchModel fail (II)V -/
noncomputable def cd_176 : List (Nat × Ent) := [
  (0, .aload_n 0, 1, 0, 0, 0, 0), (1, .getfield 168, 3, 10, 24, 0, 1525), (4, .ifCond .ne 13, 3, 0, 0, 0, 0), (7, .aload_n 0, 1, 0, 0, 0, 0), (8, .iload_n 1, 1, 0, 0, 0, 0), 
  (9, .putfield 168, 3, 10, 24, 0, 1525), (12, .aload_n 0, 1, 0, 0, 0, 0), (13, .iload_n 2, 1, 0, 0, 0, 0), (14, .putfield 59, 3, 10, 23, 0, 1524), (17, .return_, 1, 0, 0, 0, 0)]
/-- DropSwitchModel wordEnd ()I -/
noncomputable def cd_177 : List (Nat × Ent) := [
  (0, .aload_n 0, 1, 0, 0, 0, 0), (1, .invokevirtual 171, 3, 174, 1, 0, 1754), (4, .pop, 1, 0, 0, 0, 0), (5, .aload_n 0, 1, 0, 0, 0, 0), (6, .getfield 161, 3, 10, 22, 0, 1523), 
  (9, .istore_n 1, 1, 0, 0, 0, 0), (10, .aload_n 0, 1, 0, 0, 0, 0), (11, .iload_n 1, 1, 0, 0, 0, 0), (12, .invokevirtual 164, 3, 173, 2, 0, 1758), (15, .bipush 97, 2, 0, 0, 0, 0), 
  (17, .bipush 122, 2, 0, 0, 0, 0), (19, .invokestatic 175, 3, 169, 3, 1, 1775), (22, .ifCond .eq 9, 3, 0, 0, 0, 0), (25, .iinc 1 1, 3, 0, 0, 0, 0), (28, .goto (-18), 3, 0, 0, 0, 0), 
  (31, .iload_n 1, 1, 0, 0, 0, 0), (32, .ireturn, 1, 0, 0, 0, 0)]
/-- DropSwitchModel isWord (Ljava/lang/String;)Z -/
noncomputable def cd_178 : List (Nat × Ent) := [
  (0, .aload_n 0, 1, 0, 0, 0, 0), (1, .invokevirtual 179, 3, 177, 1, 0, 1771), (4, .istore_n 2, 1, 0, 0, 0, 0), (5, .aload_n 0, 1, 0, 0, 0, 0), 
  (6, .invokevirtual 182, 3, 175, 1, 0, 1750), (9, .ifCond .ne 20, 3, 0, 0, 0, 0), (12, .iload_n 2, 1, 0, 0, 0, 0), (13, .aload_n 0, 1, 0, 0, 0, 0), 
  (14, .getfield 161, 3, 10, 22, 0, 1523), (17, .isub, 1, 0, 0, 0, 0), (18, .aload_n 1, 1, 0, 0, 0, 0), (19, .invokevirtual 186, 3, 299, 1, 0, 1778), 
  (22, .if_icmp .ne 7, 3, 0, 0, 0, 0), (25, .iconst 1, 1, 0, 0, 0, 0), (26, .goto 4, 3, 0, 0, 0, 0), (29, .iconst 0, 1, 0, 0, 0, 0), (30, .istore_n 3, 1, 0, 0, 0, 0), 
  (31, .iconst 0, 1, 0, 0, 0, 0), (32, .istore 4, 2, 0, 0, 0, 0), (34, .iload 4, 2, 0, 0, 0, 0), (36, .aload_n 1, 1, 0, 0, 0, 0), (37, .invokevirtual 186, 3, 299, 1, 0, 1778), 
  (40, .if_icmp .ge 39, 3, 0, 0, 0, 0), (43, .iload_n 3, 1, 0, 0, 0, 0), (44, .ifCond .eq 35, 3, 0, 0, 0, 0), (47, .aload_n 0, 1, 0, 0, 0, 0), (48, .aload_n 0, 1, 0, 0, 0, 0), 
  (49, .getfield 161, 3, 10, 22, 0, 1523), (52, .iload 4, 2, 0, 0, 0, 0), (54, .iadd, 1, 0, 0, 0, 0), (55, .invokevirtual 164, 3, 173, 2, 0, 1758), (58, .aload_n 1, 1, 0, 0, 0, 0), 
  (59, .iload 4, 2, 0, 0, 0, 0), (61, .invokevirtual 190, 3, 300, 2, 0, 1779), (64, .if_icmp .ne 7, 3, 0, 0, 0, 0), (67, .iconst 1, 1, 0, 0, 0, 0), (68, .goto 4, 3, 0, 0, 0, 0), 
  (71, .iconst 0, 1, 0, 0, 0, 0), (72, .istore_n 3, 1, 0, 0, 0, 0), (73, .iinc 4 1, 3, 0, 0, 0, 0), (76, .goto (-42), 3, 0, 0, 0, 0), (79, .iload_n 3, 1, 0, 0, 0, 0), 
  (80, .ireturn, 1, 0, 0, 1, 0)]
/-- DropSwitchModel accept (Ljava/lang/String;)Z -/
noncomputable def cd_179 : List (Nat × Ent) := [
  (0, .aload_n 0, 1, 0, 0, 0, 0), (1, .aload_n 1, 1, 0, 0, 0, 0), (2, .invokevirtual 194, 3, 178, 2, 0, 1767), (5, .istore_n 2, 1, 0, 0, 0, 0), (6, .aload_n 0, 1, 0, 0, 0, 0), 
  (7, .dup, 1, 0, 0, 0, 0), (8, .getfield 161, 3, 10, 22, 0, 1523), (11, .iload_n 2, 1, 0, 0, 0, 0), (12, .ifCond .eq 10, 3, 0, 0, 0, 0), (15, .aload_n 1, 1, 0, 0, 0, 0), 
  (16, .invokevirtual 186, 3, 299, 1, 0, 1778), (19, .goto 4, 3, 0, 0, 0, 0), (22, .iconst 0, 1, 0, 0, 0, 0), (23, .iadd, 1, 0, 0, 0, 0), (24, .putfield 161, 3, 10, 22, 0, 1523), 
  (27, .iload_n 2, 1, 0, 0, 0, 0), (28, .ireturn, 1, 0, 0, 1, 0)]
/-- DropSwitchModel number (II)I -/
noncomputable def cd_180 : List (Nat × Ent) := [
  (0, .aload_n 0, 1, 0, 0, 0, 0), (1, .invokevirtual 182, 3, 175, 1, 0, 1750), (4, .ifCond .eq 5, 3, 0, 0, 0, 0), (7, .iload_n 1, 1, 0, 0, 0, 0), (8, .ireturn, 1, 0, 0, 0, 0), 
  (9, .aload_n 0, 1, 0, 0, 0, 0), (10, .invokevirtual 171, 3, 174, 1, 0, 1754), (13, .pop, 1, 0, 0, 0, 0), (14, .aload_n 0, 1, 0, 0, 0, 0), (15, .getfield 161, 3, 10, 22, 0, 1523), 
  (18, .istore_n 3, 1, 0, 0, 0, 0), (19, .iconst 0, 1, 0, 0, 0, 0), (20, .istore 4, 2, 0, 0, 0, 0), (22, .aload_n 0, 1, 0, 0, 0, 0), (23, .aload_n 0, 1, 0, 0, 0, 0), 
  (24, .getfield 161, 3, 10, 22, 0, 1523), (27, .invokevirtual 164, 3, 173, 2, 0, 1758), (30, .bipush 48, 2, 0, 0, 0, 0), (32, .bipush 57, 2, 0, 0, 0, 0), 
  (34, .invokestatic 175, 3, 169, 3, 1, 1775), (37, .ifCond .eq 50, 3, 0, 0, 0, 0), (40, .aload_n 0, 1, 0, 0, 0, 0), (41, .getfield 161, 3, 10, 22, 0, 1523), 
  (44, .iload_n 3, 1, 0, 0, 0, 0), (45, .isub, 1, 0, 0, 0, 0), (46, .iconst 3, 1, 0, 0, 0, 0), (47, .if_icmp .ge 23, 3, 0, 0, 0, 0), (50, .bipush 10, 2, 0, 0, 0, 0), 
  (52, .iload 4, 2, 0, 0, 0, 0), (54, .imul, 1, 0, 0, 0, 0), (55, .aload_n 0, 1, 0, 0, 0, 0), (56, .aload_n 0, 1, 0, 0, 0, 0), (57, .getfield 161, 3, 10, 22, 0, 1523), 
  (60, .invokevirtual 164, 3, 173, 2, 0, 1758), (63, .iadd, 1, 0, 0, 0, 0), (64, .bipush 48, 2, 0, 0, 0, 0), (66, .isub, 1, 0, 0, 0, 0), (67, .goto 5, 3, 0, 0, 0, 0), 
  (70, .iload 4, 2, 0, 0, 0, 0), (72, .istore 4, 2, 0, 0, 0, 0), (74, .aload_n 0, 1, 0, 0, 0, 0), (75, .dup, 1, 0, 0, 0, 0), (76, .getfield 161, 3, 10, 22, 0, 1523), 
  (79, .iconst 1, 1, 0, 0, 0, 0), (80, .iadd, 1, 0, 0, 0, 0), (81, .putfield 161, 3, 10, 22, 0, 1523), (84, .goto (-62), 3, 0, 0, 0, 0), (87, .aload_n 0, 1, 0, 0, 0, 0), 
  (88, .getfield 161, 3, 10, 22, 0, 1523), (91, .iload_n 3, 1, 0, 0, 0, 0), (92, .if_icmp .ne 12, 3, 0, 0, 0, 0), (95, .aload_n 0, 1, 0, 0, 0, 0), (96, .iconst 1, 1, 0, 0, 0, 0), 
  (97, .iload_n 3, 1, 0, 0, 0, 0), (98, .invokevirtual 198, 3, 176, 3, 0, 1782), (101, .goto 29, 3, 0, 0, 0, 0), (104, .aload_n 0, 1, 0, 0, 0, 0), 
  (105, .getfield 161, 3, 10, 22, 0, 1523), (108, .iload_n 3, 1, 0, 0, 0, 0), (109, .isub, 1, 0, 0, 0, 0), (110, .iconst 3, 1, 0, 0, 0, 0), (111, .if_icmp .gt 13, 3, 0, 0, 0, 0), 
  (114, .iload 4, 2, 0, 0, 0, 0), (116, .iload_n 1, 1, 0, 0, 0, 0), (117, .iload_n 2, 1, 0, 0, 0, 0), (118, .invokestatic 175, 3, 169, 3, 1, 1775), 
  (121, .ifCond .ne 9, 3, 0, 0, 0, 0), (124, .aload_n 0, 1, 0, 0, 0, 0), (125, .iconst 2, 1, 0, 0, 0, 0), (126, .iload_n 3, 1, 0, 0, 0, 0), 
  (127, .invokevirtual 198, 3, 176, 3, 0, 1782), (130, .iload 4, 2, 0, 0, 0, 0), (132, .ireturn, 1, 0, 0, 0, 0)]
/-- DropSwitchModel packed ()J -/
noncomputable def cd_181 : List (Nat × Ent) := [
  (0, .aload_n 0, 1, 0, 0, 0, 0), (1, .invokevirtual 179, 3, 177, 1, 0, 1771), (4, .istore_n 1, 1, 0, 0, 0, 0), (5, .aload_n 0, 1, 0, 0, 0, 0), 
  (6, .invokevirtual 182, 3, 175, 1, 0, 1750), (9, .ifCond .ne 31, 3, 0, 0, 0, 0), (12, .iload_n 1, 1, 0, 0, 0, 0), (13, .aload_n 0, 1, 0, 0, 0, 0), 
  (14, .getfield 161, 3, 10, 22, 0, 1523), (17, .if_icmp .eq 14, 3, 0, 0, 0, 0), (20, .iload_n 1, 1, 0, 0, 0, 0), (21, .aload_n 0, 1, 0, 0, 0, 0), 
  (22, .getfield 161, 3, 10, 22, 0, 1523), (25, .isub, 1, 0, 0, 0, 0), (26, .bipush 6, 2, 0, 0, 0, 0), (28, .if_icmp .le 12, 3, 0, 0, 0, 0), (31, .aload_n 0, 1, 0, 0, 0, 0), 
  (32, .iconst 1, 1, 0, 0, 0, 0), (33, .aload_n 0, 1, 0, 0, 0, 0), (34, .getfield 161, 3, 10, 22, 0, 1523), (37, .invokevirtual 198, 3, 176, 3, 0, 1782), 
  (40, .lconst 0, 1, 0, 0, 0, 0), (41, .lstore_n 2, 1, 0, 0, 0, 0), (42, .aload_n 0, 1, 0, 0, 0, 0), (43, .getfield 161, 3, 10, 22, 0, 1523), (46, .istore 4, 2, 0, 0, 0, 0), 
  (48, .iload 4, 2, 0, 0, 0, 0), (50, .iload_n 1, 1, 0, 0, 0, 0), (51, .if_icmp .ge 34, 3, 0, 0, 0, 0), (54, .aload_n 0, 1, 0, 0, 0, 0), (55, .invokevirtual 182, 3, 175, 1, 0, 1750), 
  (58, .ifCond .ne 27, 3, 0, 0, 0, 0), (61, .lload_n 2, 1, 0, 0, 0, 0), (62, .ldc2_w 202, 3, 32, 0, 0, 1798), (65, .lmul, 1, 0, 0, 0, 0), (66, .aload_n 0, 1, 0, 0, 0, 0), 
  (67, .iload 4, 2, 0, 0, 0, 0), (69, .invokevirtual 164, 3, 173, 2, 0, 1758), (72, .i2l, 1, 0, 0, 0, 0), (73, .ladd, 1, 0, 0, 0, 0), (74, .ldc2_w 204, 3, 96, 0, 0, 1799), 
  (77, .lsub, 1, 0, 0, 0, 0), (78, .lstore_n 2, 1, 0, 0, 0, 0), (79, .iinc 4 1, 3, 0, 0, 0, 0), (82, .goto (-34), 3, 0, 0, 0, 0), (85, .lload_n 2, 1, 0, 0, 0, 0), 
  (86, .lreturn, 1, 0, 0, 0, 0)]
/-- DropSwitchModel find (J)I -/
noncomputable def cd_182 : List (Nat × Ent) := [
  (0, .iconst 0, 1, 0, 0, 0, 0), (1, .istore_n 3, 1, 0, 0, 0, 0), (2, .iload_n 3, 1, 0, 0, 0, 0), (3, .aload_n 0, 1, 0, 0, 0, 0), (4, .getfield 206, 3, 10, 25, 0, 1526), 
  (7, .if_icmp .ge 22, 3, 0, 0, 0, 0), (10, .aload_n 0, 1, 0, 0, 0, 0), (11, .getfield 62, 3, 10, 26, 2, 1527), (14, .iload_n 3, 1, 0, 0, 0, 0), (15, .laload, 1, 0, 0, 0, 0), 
  (16, .lload_n 1, 1, 0, 0, 0, 0), (17, .lcmp, 1, 0, 0, 0, 0), (18, .ifCond .ne 5, 3, 0, 0, 0, 0), (21, .iload_n 3, 1, 0, 0, 0, 0), (22, .ireturn, 1, 0, 0, 0, 0), 
  (23, .iinc 3 1, 3, 0, 0, 0, 0), (26, .goto (-24), 3, 0, 0, 0, 0), (29, .iconst (-1), 1, 0, 0, 0, 0), (30, .ireturn, 1, 0, 0, 0, 0)]
/-- DropSwitchModel portLine ()V -/
noncomputable def cd_183 : List (Nat × Ent) := [
  (0, .aload_n 0, 1, 0, 0, 0, 0), (1, .invokevirtual 209, 3, 181, 1, 0, 1794), (4, .lstore_n 1, 1, 0, 0, 0, 0), (5, .aload_n 0, 1, 0, 0, 0, 0), 
  (6, .invokevirtual 182, 3, 175, 1, 0, 1750), (9, .ifCond .ne 21, 3, 0, 0, 0, 0), (12, .aload_n 0, 1, 0, 0, 0, 0), (13, .lload_n 1, 1, 0, 0, 0, 0), 
  (14, .invokevirtual 213, 3, 182, 2, 0, 1800), (17, .iconst (-1), 1, 0, 0, 0, 0), (18, .if_icmp .eq 12, 3, 0, 0, 0, 0), (21, .aload_n 0, 1, 0, 0, 0, 0), 
  (22, .iconst 3, 1, 0, 0, 0, 0), (23, .aload_n 0, 1, 0, 0, 0, 0), (24, .getfield 161, 3, 10, 22, 0, 1523), (27, .invokevirtual 198, 3, 176, 3, 0, 1782), 
  (30, .aload_n 0, 1, 0, 0, 0, 0), (31, .aload_n 0, 1, 0, 0, 0, 0), (32, .invokevirtual 182, 3, 175, 1, 0, 1750), (35, .ifCond .eq 10, 3, 0, 0, 0, 0), (38, .aload_n 0, 1, 0, 0, 0, 0), 
  (39, .getfield 161, 3, 10, 22, 0, 1523), (42, .goto 7, 3, 0, 0, 0, 0), (45, .aload_n 0, 1, 0, 0, 0, 0), (46, .invokevirtual 179, 3, 177, 1, 0, 1771), 
  (49, .putfield 161, 3, 10, 22, 0, 1523), (52, .aload_n 0, 1, 0, 0, 0, 0), (53, .iconst 1, 1, 0, 0, 0, 0), (54, .bipush 99, 2, 0, 0, 0, 0), 
  (56, .invokevirtual 217, 3, 180, 3, 0, 1804), (59, .istore_n 3, 1, 0, 0, 0, 0), (60, .aload_n 0, 1, 0, 0, 0, 0), (61, .iconst 0, 1, 0, 0, 0, 0), (62, .bipush 9, 2, 0, 0, 0, 0), 
  (64, .invokevirtual 217, 3, 180, 3, 0, 1804), (67, .istore 4, 2, 0, 0, 0, 0), (69, .aload_n 0, 1, 0, 0, 0, 0), (70, .invokevirtual 182, 3, 175, 1, 0, 1750), 
  (73, .ifCond .eq 4, 3, 0, 0, 0, 0), (76, .return_, 1, 0, 0, 0, 0), (77, .aload_n 0, 1, 0, 0, 0, 0), (78, .getfield 62, 3, 10, 26, 2, 1527), (81, .aload_n 0, 1, 0, 0, 0, 0), 
  (82, .getfield 206, 3, 10, 25, 0, 1526), (85, .lload_n 1, 1, 0, 0, 0, 0), (86, .lastore, 1, 0, 0, 0, 0), (87, .aload_n 0, 1, 0, 0, 0, 0), (88, .getfield 65, 3, 10, 27, 2, 1528), 
  (91, .aload_n 0, 1, 0, 0, 0, 0), (92, .getfield 206, 3, 10, 25, 0, 1526), (95, .iload_n 3, 1, 0, 0, 0, 0), (96, .iastore, 1, 0, 0, 0, 0), (97, .aload_n 0, 1, 0, 0, 0, 0), 
  (98, .getfield 68, 3, 10, 28, 2, 1529), (101, .aload_n 0, 1, 0, 0, 0, 0), (102, .getfield 206, 3, 10, 25, 0, 1526), (105, .iload 4, 2, 0, 0, 0, 0), (107, .iastore, 1, 0, 0, 0, 0), 
  (108, .aload_n 0, 1, 0, 0, 0, 0), (109, .getfield 71, 3, 10, 29, 2, 1530), (112, .aload_n 0, 1, 0, 0, 0, 0), (113, .getfield 206, 3, 10, 25, 0, 1526), 
  (116, .iconst 0, 1, 0, 0, 0, 0), (117, .iastore, 1, 0, 0, 0, 0), (118, .aload_n 0, 1, 0, 0, 0, 0), (119, .getfield 74, 3, 10, 30, 2, 1531), (122, .aload_n 0, 1, 0, 0, 0, 0), 
  (123, .getfield 206, 3, 10, 25, 0, 1526), (126, .iconst (-1), 1, 0, 0, 0, 0), (127, .iastore, 1, 0, 0, 0, 0), (128, .aload_n 0, 1, 0, 0, 0, 0), (129, .dup, 1, 0, 0, 0, 0), 
  (130, .getfield 206, 3, 10, 25, 0, 1526), (133, .iconst 1, 1, 0, 0, 0, 0), (134, .iadd, 1, 0, 0, 0, 0), (135, .putfield 206, 3, 10, 25, 0, 1526), (138, .return_, 1, 0, 0, 0, 0)]
/-- DropSwitchModel portHere ()I -/
noncomputable def cd_184 : List (Nat × Ent) := [
  (0, .aload_n 0, 1, 0, 0, 0, 0), (1, .aload_n 0, 1, 0, 0, 0, 0), (2, .invokevirtual 209, 3, 181, 1, 0, 1794), (5, .invokevirtual 213, 3, 182, 2, 0, 1800), 
  (8, .istore_n 1, 1, 0, 0, 0, 0), (9, .aload_n 0, 1, 0, 0, 0, 0), (10, .invokevirtual 182, 3, 175, 1, 0, 1750), (13, .ifCond .ne 17, 3, 0, 0, 0, 0), (16, .iload_n 1, 1, 0, 0, 0, 0), 
  (17, .iconst (-1), 1, 0, 0, 0, 0), (18, .if_icmp .ne 12, 3, 0, 0, 0, 0), (21, .aload_n 0, 1, 0, 0, 0, 0), (22, .iconst 3, 1, 0, 0, 0, 0), (23, .aload_n 0, 1, 0, 0, 0, 0), 
  (24, .getfield 161, 3, 10, 22, 0, 1523), (27, .invokevirtual 198, 3, 176, 3, 0, 1782), (30, .aload_n 0, 1, 0, 0, 0, 0), (31, .aload_n 0, 1, 0, 0, 0, 0), 
  (32, .invokevirtual 182, 3, 175, 1, 0, 1750), (35, .ifCond .eq 10, 3, 0, 0, 0, 0), (38, .aload_n 0, 1, 0, 0, 0, 0), (39, .getfield 161, 3, 10, 22, 0, 1523), 
  (42, .goto 7, 3, 0, 0, 0, 0), (45, .aload_n 0, 1, 0, 0, 0, 0), (46, .invokevirtual 179, 3, 177, 1, 0, 1771), (49, .putfield 161, 3, 10, 22, 0, 1523), 
  (52, .aload_n 0, 1, 0, 0, 0, 0), (53, .invokevirtual 182, 3, 175, 1, 0, 1750), (56, .ifCond .eq 7, 3, 0, 0, 0, 0), (59, .iconst 0, 1, 0, 0, 0, 0), (60, .goto 4, 3, 0, 0, 0, 0), 
  (63, .iload_n 1, 1, 0, 0, 0, 0), (64, .ireturn, 1, 0, 0, 0, 0)]
/-- DropSwitchModel policeLine ()V -/
noncomputable def cd_185 : List (Nat × Ent) := [
  (0, .aload_n 0, 1, 0, 0, 0, 0), (1, .invokevirtual 221, 3, 184, 1, 0, 1813), (4, .istore_n 1, 1, 0, 0, 0, 0), (5, .aload_n 0, 1, 0, 0, 0, 0), (6, .iconst 0, 1, 0, 0, 0, 0), 
  (7, .bipush 99, 2, 0, 0, 0, 0), (9, .invokevirtual 217, 3, 180, 3, 0, 1804), (12, .istore_n 2, 1, 0, 0, 0, 0), (13, .aload_n 0, 1, 0, 0, 0, 0), (14, .iconst 0, 1, 0, 0, 0, 0), 
  (15, .bipush 99, 2, 0, 0, 0, 0), (17, .invokevirtual 217, 3, 180, 3, 0, 1804), (20, .istore_n 3, 1, 0, 0, 0, 0), (21, .aload_n 0, 1, 0, 0, 0, 0), 
  (22, .invokevirtual 182, 3, 175, 1, 0, 1750), (25, .ifCond .ne 17, 3, 0, 0, 0, 0), (28, .aload_n 0, 1, 0, 0, 0, 0), (29, .getfield 71, 3, 10, 29, 2, 1530), 
  (32, .iload_n 1, 1, 0, 0, 0, 0), (33, .iload_n 2, 1, 0, 0, 0, 0), (34, .iastore, 1, 0, 0, 0, 0), (35, .aload_n 0, 1, 0, 0, 0, 0), (36, .getfield 74, 3, 10, 30, 2, 1531), 
  (39, .iload_n 1, 1, 0, 0, 0, 0), (40, .iload_n 3, 1, 0, 0, 0, 0), (41, .iastore, 1, 0, 0, 0, 0), (42, .return_, 1, 0, 0, 0, 0)]
/-- DropSwitchModel emit (III)V -/
noncomputable def cd_186 : List (Nat × Ent) := [
  (0, .aload_n 0, 1, 0, 0, 0, 0), (1, .getfield 86, 3, 10, 38, 2, 1539), (4, .iconst 3, 1, 0, 0, 0, 0), (5, .aload_n 0, 1, 0, 0, 0, 0), (6, .getfield 224, 3, 10, 39, 0, 1540), 
  (9, .imul, 1, 0, 0, 0, 0), (10, .iload_n 1, 1, 0, 0, 0, 0), (11, .iastore, 1, 0, 0, 0, 0), (12, .aload_n 0, 1, 0, 0, 0, 0), (13, .getfield 86, 3, 10, 38, 2, 1539), 
  (16, .iconst 3, 1, 0, 0, 0, 0), (17, .aload_n 0, 1, 0, 0, 0, 0), (18, .getfield 224, 3, 10, 39, 0, 1540), (21, .imul, 1, 0, 0, 0, 0), (22, .iconst 1, 1, 0, 0, 0, 0), 
  (23, .iadd, 1, 0, 0, 0, 0), (24, .iload_n 2, 1, 0, 0, 0, 0), (25, .iastore, 1, 0, 0, 0, 0), (26, .aload_n 0, 1, 0, 0, 0, 0), (27, .getfield 86, 3, 10, 38, 2, 1539), 
  (30, .iconst 3, 1, 0, 0, 0, 0), (31, .aload_n 0, 1, 0, 0, 0, 0), (32, .getfield 224, 3, 10, 39, 0, 1540), (35, .imul, 1, 0, 0, 0, 0), (36, .iconst 2, 1, 0, 0, 0, 0), 
  (37, .iadd, 1, 0, 0, 0, 0), (38, .iload_n 3, 1, 0, 0, 0, 0), (39, .iastore, 1, 0, 0, 0, 0), (40, .aload_n 0, 1, 0, 0, 0, 0), (41, .dup, 1, 0, 0, 0, 0), 
  (42, .getfield 224, 3, 10, 39, 0, 1540), (45, .iconst 1, 1, 0, 0, 0, 0), (46, .iadd, 1, 0, 0, 0, 0), (47, .putfield 224, 3, 10, 39, 0, 1540), (50, .return_, 1, 0, 0, 0, 0)]
/-- DropSwitchModel push (I)V -/
noncomputable def cd_187 : List (Nat × Ent) := [
  (0, .aload_n 0, 1, 0, 0, 0, 0), (1, .getfield 89, 3, 10, 40, 2, 1541), (4, .aload_n 0, 1, 0, 0, 0, 0), (5, .getfield 227, 3, 10, 41, 0, 1542), (8, .iload_n 1, 1, 0, 0, 0, 0), 
  (9, .iastore, 1, 0, 0, 0, 0), (10, .aload_n 0, 1, 0, 0, 0, 0), (11, .dup, 1, 0, 0, 0, 0), (12, .getfield 227, 3, 10, 41, 0, 1542), (15, .iconst 1, 1, 0, 0, 0, 0), 
  (16, .iadd, 1, 0, 0, 0, 0), (17, .putfield 227, 3, 10, 41, 0, 1542), (20, .return_, 1, 0, 0, 0, 0)]
/-- DropSwitchModel flush (I)V -/
noncomputable def cd_188 : List (Nat × Ent) := [
  (0, .aload_n 0, 1, 0, 0, 0, 0), (1, .getfield 227, 3, 10, 41, 0, 1542), (4, .ifCond .le 58, 3, 0, 0, 0, 0), (7, .aload_n 0, 1, 0, 0, 0, 0), (8, .getfield 89, 3, 10, 40, 2, 1541), 
  (11, .aload_n 0, 1, 0, 0, 0, 0), (12, .getfield 227, 3, 10, 41, 0, 1542), (15, .iconst 1, 1, 0, 0, 0, 0), (16, .isub, 1, 0, 0, 0, 0), (17, .iaload, 1, 0, 0, 0, 0), 
  (18, .iload_n 1, 1, 0, 0, 0, 0), (19, .if_icmp .ne 43, 3, 0, 0, 0, 0), (22, .aload_n 0, 1, 0, 0, 0, 0), (23, .dup, 1, 0, 0, 0, 0), (24, .getfield 227, 3, 10, 41, 0, 1542), 
  (27, .iconst 1, 1, 0, 0, 0, 0), (28, .isub, 1, 0, 0, 0, 0), (29, .putfield 227, 3, 10, 41, 0, 1542), (32, .aload_n 0, 1, 0, 0, 0, 0), (33, .iload_n 1, 1, 0, 0, 0, 0), 
  (34, .iconst 0, 1, 0, 0, 0, 0), (35, .iconst 0, 1, 0, 0, 0, 0), (36, .invokevirtual 230, 3, 186, 4, 0, 1843), (39, .aload_n 0, 1, 0, 0, 0, 0), (40, .dup, 1, 0, 0, 0, 0), 
  (41, .getfield 234, 3, 10, 42, 0, 1543), (44, .iload_n 1, 1, 0, 0, 0, 0), (45, .bipush 6, 2, 0, 0, 0, 0), (47, .if_icmp .ne 7, 3, 0, 0, 0, 0), (50, .iconst 1, 1, 0, 0, 0, 0), 
  (51, .goto 4, 3, 0, 0, 0, 0), (54, .iconst 0, 1, 0, 0, 0, 0), (55, .isub, 1, 0, 0, 0, 0), (56, .putfield 234, 3, 10, 42, 0, 1543), (59, .goto (-59), 3, 0, 0, 0, 0), 
  (62, .return_, 1, 0, 0, 0, 0)]
/-- DropSwitchModel isOpen ()Z -/
noncomputable def cd_189 : List (Nat × Ent) := [
  (0, .iconst 0, 1, 0, 0, 0, 0), (1, .istore_n 1, 1, 0, 0, 0, 0), (2, .iload_n 1, 1, 0, 0, 0, 0), (3, .aload_n 0, 1, 0, 0, 0, 0), (4, .getfield 227, 3, 10, 41, 0, 1542), 
  (7, .if_icmp .ge 22, 3, 0, 0, 0, 0), (10, .aload_n 0, 1, 0, 0, 0, 0), (11, .getfield 89, 3, 10, 40, 2, 1541), (14, .iload_n 1, 1, 0, 0, 0, 0), (15, .iaload, 1, 0, 0, 0, 0), 
  (16, .bipush 9, 2, 0, 0, 0, 0), (18, .if_icmp .ne 5, 3, 0, 0, 0, 0), (21, .iconst 1, 1, 0, 0, 0, 0), (22, .ireturn, 1, 0, 0, 1, 0), (23, .iinc 1 1, 3, 0, 0, 0, 0), 
  (26, .goto (-24), 3, 0, 0, 0, 0), (29, .iconst 0, 1, 0, 0, 0, 0), (30, .ireturn, 1, 0, 0, 1, 0)]
/-- DropSwitchModel openings ()V -/
noncomputable def cd_190 : List (Nat × Ent) := [
  (0, .iconst 1, 1, 0, 0, 0, 0), (1, .istore_n 1, 1, 0, 0, 0, 0), (2, .iload_n 1, 1, 0, 0, 0, 0), (3, .ifCond .eq 110, 3, 0, 0, 0, 0), (6, .aload_n 0, 1, 0, 0, 0, 0), 
  (7, .invokevirtual 182, 3, 175, 1, 0, 1750), (10, .ifCond .ne 103, 3, 0, 0, 0, 0), (13, .aload_n 0, 1, 0, 0, 0, 0), (14, .ldc 237, 2, 35, 0, 0, 1833), 
  (16, .invokevirtual 194, 3, 178, 2, 0, 1767), (19, .istore_n 2, 1, 0, 0, 0, 0), (20, .iload_n 2, 1, 0, 0, 0, 0), (21, .ifCond .ne 12, 3, 0, 0, 0, 0), 
  (24, .aload_n 0, 1, 0, 0, 0, 0), (25, .invokevirtual 171, 3, 174, 1, 0, 1754), (28, .bipush 40, 2, 0, 0, 0, 0), (30, .if_icmp .ne 7, 3, 0, 0, 0, 0), (33, .iconst 1, 1, 0, 0, 0, 0), 
  (34, .goto 4, 3, 0, 0, 0, 0), (37, .iconst 0, 1, 0, 0, 0, 0), (38, .istore_n 1, 1, 0, 0, 0, 0), (39, .iload_n 1, 1, 0, 0, 0, 0), (40, .ifCond .eq 23, 3, 0, 0, 0, 0), 
  (43, .aload_n 0, 1, 0, 0, 0, 0), (44, .getfield 234, 3, 10, 42, 0, 1543), (47, .iconst 5, 1, 0, 0, 0, 0), (48, .if_icmp .ne 15, 3, 0, 0, 0, 0), (51, .aload_n 0, 1, 0, 0, 0, 0), 
  (52, .iconst 4, 1, 0, 0, 0, 0), (53, .aload_n 0, 1, 0, 0, 0, 0), (54, .getfield 161, 3, 10, 22, 0, 1523), (57, .invokevirtual 198, 3, 176, 3, 0, 1782), 
  (60, .goto 50, 3, 0, 0, 0, 0), (63, .iload_n 1, 1, 0, 0, 0, 0), (64, .ifCond .eq 46, 3, 0, 0, 0, 0), (67, .aload_n 0, 1, 0, 0, 0, 0), (68, .dup, 1, 0, 0, 0, 0), 
  (69, .getfield 234, 3, 10, 42, 0, 1543), (72, .iconst 1, 1, 0, 0, 0, 0), (73, .iadd, 1, 0, 0, 0, 0), (74, .putfield 234, 3, 10, 42, 0, 1543), (77, .aload_n 0, 1, 0, 0, 0, 0), 
  (78, .iload_n 2, 1, 0, 0, 0, 0), (79, .ifCond .eq 8, 3, 0, 0, 0, 0), (82, .bipush 6, 2, 0, 0, 0, 0), (84, .goto 5, 3, 0, 0, 0, 0), (87, .bipush 9, 2, 0, 0, 0, 0), 
  (89, .invokevirtual 239, 3, 187, 2, 0, 1834), (92, .aload_n 0, 1, 0, 0, 0, 0), (93, .dup, 1, 0, 0, 0, 0), (94, .getfield 161, 3, 10, 22, 0, 1523), (97, .iload_n 2, 1, 0, 0, 0, 0), 
  (98, .ifCond .eq 7, 3, 0, 0, 0, 0), (101, .iconst 3, 1, 0, 0, 0, 0), (102, .goto 4, 3, 0, 0, 0, 0), (105, .iconst 1, 1, 0, 0, 0, 0), (106, .iadd, 1, 0, 0, 0, 0), 
  (107, .putfield 161, 3, 10, 22, 0, 1523), (110, .goto (-108), 3, 0, 0, 0, 0), (113, .return_, 1, 0, 0, 0, 0)]
/-- DropSwitchModel factNow ()I -/
noncomputable def cd_191 : List (Nat × Ent) := [
  (0, .aload_n 0, 1, 0, 0, 0, 0), (1, .ldc 243, 2, 38, 0, 0, 1852), (3, .invokevirtual 194, 3, 178, 2, 0, 1767), (6, .ifCond .eq 5, 3, 0, 0, 0, 0), (9, .iconst 0, 1, 0, 0, 0, 0), 
  (10, .ireturn, 1, 0, 0, 0, 0), (11, .aload_n 0, 1, 0, 0, 0, 0), (12, .ldc 245, 2, 39, 0, 0, 1853), (14, .invokevirtual 194, 3, 178, 2, 0, 1767), (17, .ifCond .eq 5, 3, 0, 0, 0, 0), 
  (20, .iconst 1, 1, 0, 0, 0, 0), (21, .ireturn, 1, 0, 0, 0, 0), (22, .aload_n 0, 1, 0, 0, 0, 0), (23, .ldc 247, 2, 40, 0, 0, 1854), (25, .invokevirtual 194, 3, 178, 2, 0, 1767), 
  (28, .ifCond .eq 7, 3, 0, 0, 0, 0), (31, .iconst 2, 1, 0, 0, 0, 0), (32, .goto 17, 3, 0, 0, 0, 0), (35, .aload_n 0, 1, 0, 0, 0, 0), (36, .ldc 249, 2, 41, 0, 0, 1855), 
  (38, .invokevirtual 194, 3, 178, 2, 0, 1767), (41, .ifCond .eq 7, 3, 0, 0, 0, 0), (44, .iconst 3, 1, 0, 0, 0, 0), (45, .goto 4, 3, 0, 0, 0, 0), (48, .iconst (-1), 1, 0, 0, 0, 0), 
  (49, .ireturn, 1, 0, 0, 0, 0)]
/-- DropSwitchModel atom ()V -/
noncomputable def cd_192 : List (Nat × Ent) := [
  (0, .aload_n 0, 1, 0, 0, 0, 0), (1, .ldc 251, 2, 36, 0, 0, 1842), (3, .invokevirtual 252, 3, 179, 2, 0, 1786), (6, .ifCond .eq 16, 3, 0, 0, 0, 0), (9, .aload_n 0, 1, 0, 0, 0, 0), 
  (10, .invokevirtual 221, 3, 184, 1, 0, 1813), (13, .istore_n 1, 1, 0, 0, 0, 0), (14, .aload_n 0, 1, 0, 0, 0, 0), (15, .iconst 4, 1, 0, 0, 0, 0), (16, .iload_n 1, 1, 0, 0, 0, 0), 
  (17, .iconst 0, 1, 0, 0, 0, 0), (18, .invokevirtual 230, 3, 186, 4, 0, 1843), (21, .return_, 1, 0, 0, 0, 0), (22, .aload_n 0, 1, 0, 0, 0, 0), (23, .ldc 255, 2, 37, 0, 0, 1847), 
  (25, .invokevirtual 252, 3, 179, 2, 0, 1786), (28, .ifCond .eq 11, 3, 0, 0, 0, 0), (31, .aload_n 0, 1, 0, 0, 0, 0), (32, .iconst 5, 1, 0, 0, 0, 0), (33, .iconst 0, 1, 0, 0, 0, 0), 
  (34, .iconst 0, 1, 0, 0, 0, 0), (35, .invokevirtual 230, 3, 186, 4, 0, 1843), (38, .return_, 1, 0, 0, 0, 0), (39, .aload_n 0, 1, 0, 0, 0, 0), 
  (40, .invokevirtual 257, 3, 191, 1, 0, 1848), (43, .istore_n 1, 1, 0, 0, 0, 0), (44, .iload_n 1, 1, 0, 0, 0, 0), (45, .iconst (-1), 1, 0, 0, 0, 0), 
  (46, .if_icmp .ne 13, 3, 0, 0, 0, 0), (49, .aload_n 0, 1, 0, 0, 0, 0), (50, .iconst 1, 1, 0, 0, 0, 0), (51, .aload_n 0, 1, 0, 0, 0, 0), (52, .getfield 161, 3, 10, 22, 0, 1523), 
  (55, .invokevirtual 198, 3, 176, 3, 0, 1782), (58, .return_, 1, 0, 0, 0, 0), (59, .aload_n 0, 1, 0, 0, 0, 0), (60, .aload_n 0, 1, 0, 0, 0, 0), 
  (61, .invokevirtual 179, 3, 177, 1, 0, 1771), (64, .putfield 161, 3, 10, 22, 0, 1523), (67, .aload_n 0, 1, 0, 0, 0, 0), (68, .invokevirtual 171, 3, 174, 1, 0, 1754), 
  (71, .istore_n 2, 1, 0, 0, 0, 0), (72, .iload_n 2, 1, 0, 0, 0, 0), (73, .bipush 60, 2, 0, 0, 0, 0), (75, .if_icmp .eq 25, 3, 0, 0, 0, 0), (78, .iload_n 2, 1, 0, 0, 0, 0), 
  (79, .bipush 61, 2, 0, 0, 0, 0), (81, .if_icmp .eq 19, 3, 0, 0, 0, 0), (84, .iload_n 2, 1, 0, 0, 0, 0), (85, .bipush 62, 2, 0, 0, 0, 0), (87, .if_icmp .eq 13, 3, 0, 0, 0, 0), 
  (90, .aload_n 0, 1, 0, 0, 0, 0), (91, .iconst 1, 1, 0, 0, 0, 0), (92, .aload_n 0, 1, 0, 0, 0, 0), (93, .getfield 161, 3, 10, 22, 0, 1523), 
  (96, .invokevirtual 198, 3, 176, 3, 0, 1782), (99, .return_, 1, 0, 0, 0, 0), (100, .aload_n 0, 1, 0, 0, 0, 0), (101, .dup, 1, 0, 0, 0, 0), (102, .getfield 161, 3, 10, 22, 0, 1523), 
  (105, .iconst 1, 1, 0, 0, 0, 0), (106, .iadd, 1, 0, 0, 0, 0), (107, .putfield 161, 3, 10, 22, 0, 1523), (110, .aload_n 0, 1, 0, 0, 0, 0), (111, .iconst 0, 1, 0, 0, 0, 0), 
  (112, .sipush 999, 3, 0, 0, 0, 0), (115, .invokevirtual 217, 3, 180, 3, 0, 1804), (118, .istore_n 3, 1, 0, 0, 0, 0), (119, .aload_n 0, 1, 0, 0, 0, 0), 
  (120, .iload_n 2, 1, 0, 0, 0, 0), (121, .bipush 60, 2, 0, 0, 0, 0), (123, .if_icmp .ne 7, 3, 0, 0, 0, 0), (126, .iconst 1, 1, 0, 0, 0, 0), (127, .goto 14, 3, 0, 0, 0, 0), 
  (130, .iload_n 2, 1, 0, 0, 0, 0), (131, .bipush 61, 2, 0, 0, 0, 0), (133, .if_icmp .ne 7, 3, 0, 0, 0, 0), (136, .iconst 2, 1, 0, 0, 0, 0), (137, .goto 4, 3, 0, 0, 0, 0), 
  (140, .iconst 3, 1, 0, 0, 0, 0), (141, .iload_n 3, 1, 0, 0, 0, 0), (142, .iload_n 1, 1, 0, 0, 0, 0), (143, .invokevirtual 230, 3, 186, 4, 0, 1843), (146, .return_, 1, 0, 0, 0, 0)]
/-- DropSwitchModel closings ()V -/
noncomputable def cd_193 : List (Nat × Ent) := [
  (0, .aload_n 0, 1, 0, 0, 0, 0), (1, .bipush 6, 2, 0, 0, 0, 0), (3, .invokevirtual 260, 3, 188, 2, 0, 1860), (6, .aload_n 0, 1, 0, 0, 0, 0), 
  (7, .invokevirtual 182, 3, 175, 1, 0, 1750), (10, .ifCond .ne 70, 3, 0, 0, 0, 0), (13, .aload_n 0, 1, 0, 0, 0, 0), (14, .invokevirtual 263, 3, 189, 1, 0, 1864), 
  (17, .ifCond .eq 63, 3, 0, 0, 0, 0), (20, .aload_n 0, 1, 0, 0, 0, 0), (21, .invokevirtual 171, 3, 174, 1, 0, 1754), (24, .bipush 41, 2, 0, 0, 0, 0), 
  (26, .if_icmp .ne 54, 3, 0, 0, 0, 0), (29, .aload_n 0, 1, 0, 0, 0, 0), (30, .dup, 1, 0, 0, 0, 0), (31, .getfield 161, 3, 10, 22, 0, 1523), (34, .iconst 1, 1, 0, 0, 0, 0), 
  (35, .iadd, 1, 0, 0, 0, 0), (36, .putfield 161, 3, 10, 22, 0, 1523), (39, .aload_n 0, 1, 0, 0, 0, 0), (40, .bipush 7, 2, 0, 0, 0, 0), (42, .invokevirtual 260, 3, 188, 2, 0, 1860), 
  (45, .aload_n 0, 1, 0, 0, 0, 0), (46, .bipush 8, 2, 0, 0, 0, 0), (48, .invokevirtual 260, 3, 188, 2, 0, 1860), (51, .aload_n 0, 1, 0, 0, 0, 0), (52, .dup, 1, 0, 0, 0, 0), 
  (53, .getfield 227, 3, 10, 41, 0, 1542), (56, .iconst 1, 1, 0, 0, 0, 0), (57, .isub, 1, 0, 0, 0, 0), (58, .putfield 227, 3, 10, 41, 0, 1542), (61, .aload_n 0, 1, 0, 0, 0, 0), 
  (62, .dup, 1, 0, 0, 0, 0), (63, .getfield 234, 3, 10, 42, 0, 1543), (66, .iconst 1, 1, 0, 0, 0, 0), (67, .isub, 1, 0, 0, 0, 0), (68, .putfield 234, 3, 10, 42, 0, 1543), 
  (71, .aload_n 0, 1, 0, 0, 0, 0), (72, .bipush 6, 2, 0, 0, 0, 0), (74, .invokevirtual 260, 3, 188, 2, 0, 1860), (77, .goto (-71), 3, 0, 0, 0, 0), (80, .return_, 1, 0, 0, 0, 0)]
/-- DropSwitchModel condition ()V -/
noncomputable def cd_194 : List (Nat × Ent) := [
  (0, .aload_n 0, 1, 0, 0, 0, 0), (1, .iconst 0, 1, 0, 0, 0, 0), (2, .putfield 227, 3, 10, 41, 0, 1542), (5, .aload_n 0, 1, 0, 0, 0, 0), (6, .iconst 0, 1, 0, 0, 0, 0), 
  (7, .putfield 234, 3, 10, 42, 0, 1543), (10, .iconst 1, 1, 0, 0, 0, 0), (11, .istore_n 1, 1, 0, 0, 0, 0), (12, .iload_n 1, 1, 0, 0, 0, 0), (13, .ifCond .eq 117, 3, 0, 0, 0, 0), 
  (16, .aload_n 0, 1, 0, 0, 0, 0), (17, .invokevirtual 182, 3, 175, 1, 0, 1750), (20, .ifCond .ne 110, 3, 0, 0, 0, 0), (23, .aload_n 0, 1, 0, 0, 0, 0), 
  (24, .invokevirtual 266, 3, 190, 1, 0, 1829), (27, .aload_n 0, 1, 0, 0, 0, 0), (28, .invokevirtual 182, 3, 175, 1, 0, 1750), (31, .ifCond .ne 7, 3, 0, 0, 0, 0), 
  (34, .aload_n 0, 1, 0, 0, 0, 0), (35, .invokevirtual 269, 3, 192, 1, 0, 1838), (38, .aload_n 0, 1, 0, 0, 0, 0), (39, .invokevirtual 182, 3, 175, 1, 0, 1750), 
  (42, .ifCond .eq 4, 3, 0, 0, 0, 0), (45, .return_, 1, 0, 0, 0, 0), (46, .aload_n 0, 1, 0, 0, 0, 0), (47, .invokevirtual 272, 3, 193, 1, 0, 1856), (50, .aload_n 0, 1, 0, 0, 0, 0), 
  (51, .ldc_w 275, 3, 42, 0, 0, 1868), (54, .invokevirtual 252, 3, 179, 2, 0, 1786), (57, .istore_n 2, 1, 0, 0, 0, 0), (58, .iload_n 2, 1, 0, 0, 0, 0), 
  (59, .ifCond .ne 17, 3, 0, 0, 0, 0), (62, .aload_n 0, 1, 0, 0, 0, 0), (63, .ldc_w 277, 3, 43, 0, 0, 1869), (66, .invokevirtual 252, 3, 179, 2, 0, 1786), 
  (69, .ifCond .eq 7, 3, 0, 0, 0, 0), (72, .iconst 1, 1, 0, 0, 0, 0), (73, .goto 4, 3, 0, 0, 0, 0), (76, .iconst 0, 1, 0, 0, 0, 0), (77, .istore_n 3, 1, 0, 0, 0, 0), 
  (78, .iload_n 2, 1, 0, 0, 0, 0), (79, .ifCond .ne 7, 3, 0, 0, 0, 0), (82, .iload_n 3, 1, 0, 0, 0, 0), (83, .ifCond .eq 7, 3, 0, 0, 0, 0), (86, .iconst 1, 1, 0, 0, 0, 0), 
  (87, .goto 4, 3, 0, 0, 0, 0), (90, .iconst 0, 1, 0, 0, 0, 0), (91, .istore_n 1, 1, 0, 0, 0, 0), (92, .iload_n 1, 1, 0, 0, 0, 0), (93, .ifCond .eq 34, 3, 0, 0, 0, 0), 
  (96, .aload_n 0, 1, 0, 0, 0, 0), (97, .bipush 7, 2, 0, 0, 0, 0), (99, .invokevirtual 260, 3, 188, 2, 0, 1860), (102, .iload_n 3, 1, 0, 0, 0, 0), (103, .ifCond .eq 9, 3, 0, 0, 0, 0), 
  (106, .aload_n 0, 1, 0, 0, 0, 0), (107, .bipush 8, 2, 0, 0, 0, 0), (109, .invokevirtual 260, 3, 188, 2, 0, 1860), (112, .aload_n 0, 1, 0, 0, 0, 0), (113, .iload_n 2, 1, 0, 0, 0, 0), 
  (114, .ifCond .eq 8, 3, 0, 0, 0, 0), (117, .bipush 7, 2, 0, 0, 0, 0), (119, .goto 5, 3, 0, 0, 0, 0), (122, .bipush 8, 2, 0, 0, 0, 0), (124, .invokevirtual 239, 3, 187, 2, 0, 1834), 
  (127, .goto (-115), 3, 0, 0, 0, 0), (130, .aload_n 0, 1, 0, 0, 0, 0), (131, .invokevirtual 263, 3, 189, 1, 0, 1864), (134, .ifCond .eq 12, 3, 0, 0, 0, 0), 
  (137, .aload_n 0, 1, 0, 0, 0, 0), (138, .iconst 1, 1, 0, 0, 0, 0), (139, .aload_n 0, 1, 0, 0, 0, 0), (140, .getfield 161, 3, 10, 22, 0, 1523), 
  (143, .invokevirtual 198, 3, 176, 3, 0, 1782), (146, .aload_n 0, 1, 0, 0, 0, 0), (147, .bipush 7, 2, 0, 0, 0, 0), (149, .invokevirtual 260, 3, 188, 2, 0, 1860), 
  (152, .aload_n 0, 1, 0, 0, 0, 0), (153, .bipush 8, 2, 0, 0, 0, 0), (155, .invokevirtual 260, 3, 188, 2, 0, 1860), (158, .return_, 1, 0, 0, 0, 0)]
/-- DropSwitchModel ruleLine (Z)V -/
noncomputable def cd_195 : List (Nat × Ent) := [
  (0, .aload_n 0, 1, 0, 0, 0, 0), (1, .ldc_w 279, 3, 34, 0, 0, 1824), (4, .invokevirtual 252, 3, 179, 2, 0, 1786), (7, .ifCond .ne 13, 3, 0, 0, 0, 0), (10, .aload_n 0, 1, 0, 0, 0, 0), 
  (11, .iconst 1, 1, 0, 0, 0, 0), (12, .aload_n 0, 1, 0, 0, 0, 0), (13, .getfield 161, 3, 10, 22, 0, 1523), (16, .invokevirtual 198, 3, 176, 3, 0, 1782), 
  (19, .return_, 1, 0, 0, 0, 0), (20, .aload_n 0, 1, 0, 0, 0, 0), (21, .getfield 77, 3, 10, 35, 2, 1536), (24, .aload_n 0, 1, 0, 0, 0, 0), (25, .getfield 281, 3, 10, 34, 0, 1535), 
  (28, .iload_n 1, 1, 0, 0, 0, 0), (29, .bastore, 1, 0, 0, 0, 0), (30, .aload_n 0, 1, 0, 0, 0, 0), (31, .getfield 80, 3, 10, 36, 2, 1537), (34, .aload_n 0, 1, 0, 0, 0, 0), 
  (35, .getfield 281, 3, 10, 34, 0, 1535), (38, .aload_n 0, 1, 0, 0, 0, 0), (39, .getfield 224, 3, 10, 39, 0, 1540), (42, .iastore, 1, 0, 0, 0, 0), (43, .aload_n 0, 1, 0, 0, 0, 0), 
  (44, .invokevirtual 284, 3, 194, 1, 0, 1825), (47, .aload_n 0, 1, 0, 0, 0, 0), (48, .getfield 83, 3, 10, 37, 2, 1538), (51, .aload_n 0, 1, 0, 0, 0, 0), 
  (52, .getfield 281, 3, 10, 34, 0, 1535), (55, .aload_n 0, 1, 0, 0, 0, 0), (56, .getfield 224, 3, 10, 39, 0, 1540), (59, .iastore, 1, 0, 0, 0, 0), (60, .aload_n 0, 1, 0, 0, 0, 0), 
  (61, .dup, 1, 0, 0, 0, 0), (62, .getfield 281, 3, 10, 34, 0, 1535), (65, .aload_n 0, 1, 0, 0, 0, 0), (66, .invokevirtual 182, 3, 175, 1, 0, 1750), 
  (69, .ifCond .eq 7, 3, 0, 0, 0, 0), (72, .iconst 0, 1, 0, 0, 0, 0), (73, .goto 4, 3, 0, 0, 0, 0), (76, .iconst 1, 1, 0, 0, 0, 0), (77, .iadd, 1, 0, 0, 0, 0), 
  (78, .putfield 281, 3, 10, 34, 0, 1535), (81, .return_, 1, 0, 0, 0, 0)]
/-- DropSwitchModel line ()V -/
noncomputable def cd_196 : List (Nat × Ent) := [
  (0, .aload_n 0, 1, 0, 0, 0, 0), (1, .invokevirtual 171, 3, 174, 1, 0, 1754), (4, .pop, 1, 0, 0, 0, 0), (5, .aload_n 0, 1, 0, 0, 0, 0), (6, .ldc_w 287, 3, 27, 0, 0, 1766), 
  (9, .invokevirtual 194, 3, 178, 2, 0, 1767), (12, .ifCond .ne 13, 3, 0, 0, 0, 0), (15, .aload_n 0, 1, 0, 0, 0, 0), (16, .ldc_w 289, 3, 28, 0, 0, 1780), 
  (19, .invokevirtual 194, 3, 178, 2, 0, 1767), (22, .ifCond .eq 7, 3, 0, 0, 0, 0), (25, .iconst 1, 1, 0, 0, 0, 0), (26, .goto 4, 3, 0, 0, 0, 0), (29, .iconst 0, 1, 0, 0, 0, 0), 
  (30, .istore_n 1, 1, 0, 0, 0, 0), (31, .aload_n 0, 1, 0, 0, 0, 0), (32, .ldc_w 290, 3, 29, 0, 0, 1781), (35, .invokevirtual 194, 3, 178, 2, 0, 1767), 
  (38, .ifCond .eq 11, 3, 0, 0, 0, 0), (41, .aload_n 0, 1, 0, 0, 0, 0), (42, .getfield 206, 3, 10, 25, 0, 1526), (45, .iconst 4, 1, 0, 0, 0, 0), (46, .if_icmp .eq 16, 3, 0, 0, 0, 0), 
  (49, .iload_n 1, 1, 0, 0, 0, 0), (50, .ifCond .eq 24, 3, 0, 0, 0, 0), (53, .aload_n 0, 1, 0, 0, 0, 0), (54, .getfield 281, 3, 10, 34, 0, 1535), (57, .bipush 8, 2, 0, 0, 0, 0), 
  (59, .if_icmp .ne 15, 3, 0, 0, 0, 0), (62, .aload_n 0, 1, 0, 0, 0, 0), (63, .iconst 4, 1, 0, 0, 0, 0), (64, .aload_n 0, 1, 0, 0, 0, 0), (65, .getfield 161, 3, 10, 22, 0, 1523), 
  (68, .invokevirtual 198, 3, 176, 3, 0, 1782), (71, .goto 156, 3, 0, 0, 0, 0), (74, .aload_n 0, 1, 0, 0, 0, 0), (75, .ldc_w 290, 3, 29, 0, 0, 1781), 
  (78, .invokevirtual 252, 3, 179, 2, 0, 1786), (81, .ifCond .eq 10, 3, 0, 0, 0, 0), (84, .aload_n 0, 1, 0, 0, 0, 0), (85, .invokevirtual 292, 3, 183, 1, 0, 1790), 
  (88, .goto 139, 3, 0, 0, 0, 0), (91, .aload_n 0, 1, 0, 0, 0, 0), (92, .ldc_w 295, 3, 30, 0, 0, 1808), (95, .invokevirtual 252, 3, 179, 2, 0, 1786), 
  (98, .ifCond .eq 10, 3, 0, 0, 0, 0), (101, .aload_n 0, 1, 0, 0, 0, 0), (102, .invokevirtual 297, 3, 185, 1, 0, 1809), (105, .goto 122, 3, 0, 0, 0, 0), 
  (108, .aload_n 0, 1, 0, 0, 0, 0), (109, .ldc_w 300, 3, 31, 0, 0, 1817), (112, .invokevirtual 252, 3, 179, 2, 0, 1786), (115, .ifCond .eq 18, 3, 0, 0, 0, 0), 
  (118, .aload_n 0, 1, 0, 0, 0, 0), (119, .aload_n 0, 1, 0, 0, 0, 0), (120, .iconst 1, 1, 0, 0, 0, 0), (121, .sipush 400, 3, 0, 0, 0, 0), 
  (124, .invokevirtual 217, 3, 180, 3, 0, 1804), (127, .putfield 301, 3, 10, 31, 0, 1532), (130, .goto 97, 3, 0, 0, 0, 0), (133, .aload_n 0, 1, 0, 0, 0, 0), 
  (134, .ldc_w 304, 3, 32, 0, 0, 1818), (137, .invokevirtual 252, 3, 179, 2, 0, 1786), (140, .ifCond .eq 18, 3, 0, 0, 0, 0), (143, .aload_n 0, 1, 0, 0, 0, 0), 
  (144, .aload_n 0, 1, 0, 0, 0, 0), (145, .iconst 0, 1, 0, 0, 0, 0), (146, .sipush 999, 3, 0, 0, 0, 0), (149, .invokevirtual 217, 3, 180, 3, 0, 1804), 
  (152, .putfield 306, 3, 10, 32, 0, 1533), (155, .goto 72, 3, 0, 0, 0, 0), (158, .aload_n 0, 1, 0, 0, 0, 0), (159, .ldc_w 309, 3, 33, 0, 0, 1819), 
  (162, .invokevirtual 252, 3, 179, 2, 0, 1786), (165, .ifCond .eq 17, 3, 0, 0, 0, 0), (168, .aload_n 0, 1, 0, 0, 0, 0), (169, .aload_n 0, 1, 0, 0, 0, 0), 
  (170, .iconst 1, 1, 0, 0, 0, 0), (171, .bipush 99, 2, 0, 0, 0, 0), (173, .invokevirtual 217, 3, 180, 3, 0, 1804), (176, .putfield 311, 3, 10, 33, 0, 1534), 
  (179, .goto 48, 3, 0, 0, 0, 0), (182, .aload_n 0, 1, 0, 0, 0, 0), (183, .ldc_w 287, 3, 27, 0, 0, 1766), (186, .invokevirtual 252, 3, 179, 2, 0, 1786), 
  (189, .ifCond .eq 11, 3, 0, 0, 0, 0), (192, .aload_n 0, 1, 0, 0, 0, 0), (193, .iconst 0, 1, 0, 0, 0, 0), (194, .invokevirtual 314, 3, 195, 2, 0, 1820), 
  (197, .goto 30, 3, 0, 0, 0, 0), (200, .aload_n 0, 1, 0, 0, 0, 0), (201, .ldc_w 289, 3, 28, 0, 0, 1780), (204, .invokevirtual 252, 3, 179, 2, 0, 1786), 
  (207, .ifCond .eq 11, 3, 0, 0, 0, 0), (210, .aload_n 0, 1, 0, 0, 0, 0), (211, .iconst 1, 1, 0, 0, 0, 0), (212, .invokevirtual 314, 3, 195, 2, 0, 1820), 
  (215, .goto 12, 3, 0, 0, 0, 0), (218, .aload_n 0, 1, 0, 0, 0, 0), (219, .iconst 1, 1, 0, 0, 0, 0), (220, .aload_n 0, 1, 0, 0, 0, 0), (221, .getfield 161, 3, 10, 22, 0, 1523), 
  (224, .invokevirtual 198, 3, 176, 3, 0, 1782), (227, .return_, 1, 0, 0, 0, 0)]
/-- DropSwitchModel parse ()V -/
noncomputable def cd_197 : List (Nat × Ent) := [
  (0, .aload_n 0, 1, 0, 0, 0, 0), (1, .aload_n 0, 1, 0, 0, 0, 0), (2, .getfield 155, 3, 10, 20, 0, 1521), (5, .putfield 158, 3, 10, 21, 0, 1522), (8, .aload_n 0, 1, 0, 0, 0, 0), 
  (9, .iconst 0, 1, 0, 0, 0, 0), (10, .putfield 155, 3, 10, 20, 0, 1521), (13, .aload_n 0, 1, 0, 0, 0, 0), (14, .iconst 0, 1, 0, 0, 0, 0), (15, .putfield 161, 3, 10, 22, 0, 1523), 
  (18, .aload_n 0, 1, 0, 0, 0, 0), (19, .iconst (-1), 1, 0, 0, 0, 0), (20, .putfield 59, 3, 10, 23, 0, 1524), (23, .aload_n 0, 1, 0, 0, 0, 0), (24, .iconst 0, 1, 0, 0, 0, 0), 
  (25, .putfield 168, 3, 10, 24, 0, 1525), (28, .aload_n 0, 1, 0, 0, 0, 0), (29, .iconst 0, 1, 0, 0, 0, 0), (30, .putfield 206, 3, 10, 25, 0, 1526), (33, .aload_n 0, 1, 0, 0, 0, 0), 
  (34, .iconst 0, 1, 0, 0, 0, 0), (35, .putfield 281, 3, 10, 34, 0, 1535), (38, .aload_n 0, 1, 0, 0, 0, 0), (39, .iconst 0, 1, 0, 0, 0, 0), (40, .putfield 224, 3, 10, 39, 0, 1540), 
  (43, .aload_n 0, 1, 0, 0, 0, 0), (44, .sipush 400, 3, 0, 0, 0, 0), (47, .putfield 301, 3, 10, 31, 0, 1532), (50, .aload_n 0, 1, 0, 0, 0, 0), (51, .bipush 100, 2, 0, 0, 0, 0), 
  (53, .putfield 306, 3, 10, 32, 0, 1533), (56, .aload_n 0, 1, 0, 0, 0, 0), (57, .bipush 99, 2, 0, 0, 0, 0), (59, .putfield 311, 3, 10, 33, 0, 1534), (62, .aload_n 0, 1, 0, 0, 0, 0), 
  (63, .invokevirtual 182, 3, 175, 1, 0, 1750), (66, .ifCond .ne 53, 3, 0, 0, 0, 0), (69, .aload_n 0, 1, 0, 0, 0, 0), (70, .invokevirtual 171, 3, 174, 1, 0, 1754), 
  (73, .iconst (-1), 1, 0, 0, 0, 0), (74, .if_icmp .eq 45, 3, 0, 0, 0, 0), (77, .aload_n 0, 1, 0, 0, 0, 0), (78, .invokevirtual 318, 3, 196, 1, 0, 1762), 
  (81, .aload_n 0, 1, 0, 0, 0, 0), (82, .invokevirtual 182, 3, 175, 1, 0, 1750), (85, .ifCond .ne 21, 3, 0, 0, 0, 0), (88, .aload_n 0, 1, 0, 0, 0, 0), 
  (89, .invokevirtual 171, 3, 174, 1, 0, 1754), (92, .bipush 59, 2, 0, 0, 0, 0), (94, .if_icmp .eq 12, 3, 0, 0, 0, 0), (97, .aload_n 0, 1, 0, 0, 0, 0), (98, .iconst 1, 1, 0, 0, 0, 0), 
  (99, .aload_n 0, 1, 0, 0, 0, 0), (100, .getfield 161, 3, 10, 22, 0, 1523), (103, .invokevirtual 198, 3, 176, 3, 0, 1782), (106, .aload_n 0, 1, 0, 0, 0, 0), 
  (107, .dup, 1, 0, 0, 0, 0), (108, .getfield 161, 3, 10, 22, 0, 1523), (111, .iconst 1, 1, 0, 0, 0, 0), (112, .iadd, 1, 0, 0, 0, 0), (113, .putfield 161, 3, 10, 22, 0, 1523), 
  (116, .goto (-54), 3, 0, 0, 0, 0), (119, .return_, 1, 0, 0, 0, 0)]
/-- DropSwitchModel load ()I -/
noncomputable def cd_198 : List (Nat × Ent) := [
  (0, .aload_n 0, 1, 0, 0, 0, 0), (1, .iconst 0, 1, 0, 0, 0, 0), (2, .putfield 152, 3, 10, 0, 0, 1501), (5, .aload_n 0, 1, 0, 0, 0, 0), (6, .invokevirtual 321, 3, 197, 1, 0, 1746), 
  (9, .aload_n 0, 1, 0, 0, 0, 0), (10, .invokevirtual 182, 3, 175, 1, 0, 1750), (13, .ifCond .eq 10, 3, 0, 0, 0, 0), (16, .aload_n 0, 1, 0, 0, 0, 0), (17, .iconst 1, 1, 0, 0, 0, 0), 
  (18, .putfield 152, 3, 10, 0, 0, 1501), (21, .iconst 0, 1, 0, 0, 0, 0), (22, .ireturn, 1, 0, 0, 0, 0), (23, .aload_n 0, 1, 0, 0, 0, 0), (24, .aload_n 0, 1, 0, 0, 0, 0), 
  (25, .getfield 206, 3, 10, 25, 0, 1526), (28, .putfield 324, 3, 10, 1, 0, 1502), (31, .aload_n 0, 1, 0, 0, 0, 0), (32, .aload_n 0, 1, 0, 0, 0, 0), 
  (33, .getfield 281, 3, 10, 34, 0, 1535), (36, .putfield 327, 3, 10, 10, 0, 1511), (39, .aload_n 0, 1, 0, 0, 0, 0), (40, .aload_n 0, 1, 0, 0, 0, 0), 
  (41, .getfield 301, 3, 10, 31, 0, 1532), (44, .putfield 26, 3, 10, 7, 0, 1508), (47, .aload_n 0, 1, 0, 0, 0, 0), (48, .aload_n 0, 1, 0, 0, 0, 0), 
  (49, .getfield 306, 3, 10, 32, 0, 1533), (52, .putfield 30, 3, 10, 8, 0, 1509), (55, .aload_n 0, 1, 0, 0, 0, 0), (56, .aload_n 0, 1, 0, 0, 0, 0), 
  (57, .getfield 311, 3, 10, 33, 0, 1534), (60, .putfield 33, 3, 10, 9, 0, 1510), (63, .iconst 0, 1, 0, 0, 0, 0), (64, .istore_n 1, 1, 0, 0, 0, 0), (65, .iload_n 1, 1, 0, 0, 0, 0), 
  (66, .iconst 4, 1, 0, 0, 0, 0), (67, .if_icmp .ge 69, 3, 0, 0, 0, 0), (70, .aload_n 0, 1, 0, 0, 0, 0), (71, .getfield 7, 3, 10, 2, 2, 1503), (74, .iload_n 1, 1, 0, 0, 0, 0), 
  (75, .aload_n 0, 1, 0, 0, 0, 0), (76, .getfield 62, 3, 10, 26, 2, 1527), (79, .iload_n 1, 1, 0, 0, 0, 0), (80, .laload, 1, 0, 0, 0, 0), (81, .lastore, 1, 0, 0, 0, 0), 
  (82, .aload_n 0, 1, 0, 0, 0, 0), (83, .getfield 13, 3, 10, 3, 2, 1504), (86, .iload_n 1, 1, 0, 0, 0, 0), (87, .aload_n 0, 1, 0, 0, 0, 0), (88, .getfield 65, 3, 10, 27, 2, 1528), 
  (91, .iload_n 1, 1, 0, 0, 0, 0), (92, .iaload, 1, 0, 0, 0, 0), (93, .iastore, 1, 0, 0, 0, 0), (94, .aload_n 0, 1, 0, 0, 0, 0), (95, .getfield 17, 3, 10, 4, 2, 1505), 
  (98, .iload_n 1, 1, 0, 0, 0, 0), (99, .aload_n 0, 1, 0, 0, 0, 0), (100, .getfield 68, 3, 10, 28, 2, 1529), (103, .iload_n 1, 1, 0, 0, 0, 0), (104, .iaload, 1, 0, 0, 0, 0), 
  (105, .iastore, 1, 0, 0, 0, 0), (106, .aload_n 0, 1, 0, 0, 0, 0), (107, .getfield 20, 3, 10, 5, 2, 1506), (110, .iload_n 1, 1, 0, 0, 0, 0), (111, .aload_n 0, 1, 0, 0, 0, 0), 
  (112, .getfield 71, 3, 10, 29, 2, 1530), (115, .iload_n 1, 1, 0, 0, 0, 0), (116, .iaload, 1, 0, 0, 0, 0), (117, .iastore, 1, 0, 0, 0, 0), (118, .aload_n 0, 1, 0, 0, 0, 0), 
  (119, .getfield 23, 3, 10, 6, 2, 1507), (122, .iload_n 1, 1, 0, 0, 0, 0), (123, .aload_n 0, 1, 0, 0, 0, 0), (124, .getfield 74, 3, 10, 30, 2, 1531), 
  (127, .iload_n 1, 1, 0, 0, 0, 0), (128, .iaload, 1, 0, 0, 0, 0), (129, .iastore, 1, 0, 0, 0, 0), (130, .iinc 1 1, 3, 0, 0, 0, 0), (133, .goto (-68), 3, 0, 0, 0, 0), 
  (136, .iconst 0, 1, 0, 0, 0, 0), (137, .istore_n 1, 1, 0, 0, 0, 0), (138, .iload_n 1, 1, 0, 0, 0, 0), (139, .bipush 8, 2, 0, 0, 0, 0), (141, .if_icmp .ge 45, 3, 0, 0, 0, 0), 
  (144, .aload_n 0, 1, 0, 0, 0, 0), (145, .getfield 36, 3, 10, 11, 2, 1512), (148, .iload_n 1, 1, 0, 0, 0, 0), (149, .aload_n 0, 1, 0, 0, 0, 0), 
  (150, .getfield 77, 3, 10, 35, 2, 1536), (153, .iload_n 1, 1, 0, 0, 0, 0), (154, .baload, 1, 0, 0, 0, 0), (155, .bastore, 1, 0, 0, 0, 0), (156, .aload_n 0, 1, 0, 0, 0, 0), 
  (157, .getfield 40, 3, 10, 12, 2, 1513), (160, .iload_n 1, 1, 0, 0, 0, 0), (161, .aload_n 0, 1, 0, 0, 0, 0), (162, .getfield 80, 3, 10, 36, 2, 1537), 
  (165, .iload_n 1, 1, 0, 0, 0, 0), (166, .iaload, 1, 0, 0, 0, 0), (167, .iastore, 1, 0, 0, 0, 0), (168, .aload_n 0, 1, 0, 0, 0, 0), (169, .getfield 43, 3, 10, 13, 2, 1514), 
  (172, .iload_n 1, 1, 0, 0, 0, 0), (173, .aload_n 0, 1, 0, 0, 0, 0), (174, .getfield 83, 3, 10, 37, 2, 1538), (177, .iload_n 1, 1, 0, 0, 0, 0), (178, .iaload, 1, 0, 0, 0, 0), 
  (179, .iastore, 1, 0, 0, 0, 0), (180, .iinc 1 1, 3, 0, 0, 0, 0), (183, .goto (-45), 3, 0, 0, 0, 0), (186, .iconst 0, 1, 0, 0, 0, 0), (187, .istore_n 1, 1, 0, 0, 0, 0), 
  (188, .iload_n 1, 1, 0, 0, 0, 0), (189, .iconst 3, 1, 0, 0, 0, 0), (190, .aload_n 0, 1, 0, 0, 0, 0), (191, .getfield 224, 3, 10, 39, 0, 1540), (194, .imul, 1, 0, 0, 0, 0), 
  (195, .if_icmp .ge 21, 3, 0, 0, 0, 0), (198, .aload_n 0, 1, 0, 0, 0, 0), (199, .getfield 46, 3, 10, 14, 2, 1515), (202, .iload_n 1, 1, 0, 0, 0, 0), (203, .aload_n 0, 1, 0, 0, 0, 0), 
  (204, .getfield 86, 3, 10, 38, 2, 1539), (207, .iload_n 1, 1, 0, 0, 0, 0), (208, .iaload, 1, 0, 0, 0, 0), (209, .iastore, 1, 0, 0, 0, 0), (210, .iinc 1 1, 3, 0, 0, 0, 0), 
  (213, .goto (-25), 3, 0, 0, 0, 0), (216, .aload_n 0, 1, 0, 0, 0, 0), (217, .iconst 0, 1, 0, 0, 0, 0), (218, .putfield 330, 3, 10, 15, 0, 1516), (221, .aload_n 0, 1, 0, 0, 0, 0), 
  (222, .iconst 0, 1, 0, 0, 0, 0), (223, .putfield 333, 3, 10, 16, 0, 1517), (226, .aload_n 0, 1, 0, 0, 0, 0), (227, .invokevirtual 336, 3, 201, 1, 0, 1870), 
  (230, .aload_n 0, 1, 0, 0, 0, 0), (231, .getfield 324, 3, 10, 1, 0, 1502), (234, .ireturn, 1, 0, 0, 0, 0)]
/-- DropSwitchModel errorOffset ()I -/
noncomputable def cd_199 : List (Nat × Ent) := [
  (0, .aload_n 0, 1, 0, 0, 0, 0), (1, .iconst 0, 1, 0, 0, 0, 0), (2, .putfield 152, 3, 10, 0, 0, 1501), (5, .aload_n 0, 1, 0, 0, 0, 0), (6, .getfield 59, 3, 10, 23, 0, 1524), 
  (9, .ireturn, 1, 0, 0, 0, 0)]
/-- DropSwitchModel errorKind ()I -/
noncomputable def cd_200 : List (Nat × Ent) := [
  (0, .aload_n 0, 1, 0, 0, 0, 0), (1, .iconst 0, 1, 0, 0, 0, 0), (2, .putfield 152, 3, 10, 0, 0, 1501), (5, .aload_n 0, 1, 0, 0, 0, 0), (6, .getfield 168, 3, 10, 24, 0, 1525), 
  (9, .ireturn, 1, 0, 0, 0, 0)]
/-- DropSwitchModel endsSuppositions ()V -/
noncomputable def cd_201 : List (Nat × Ent) := [
  (0, .iconst 0, 1, 0, 0, 0, 0), (1, .istore_n 1, 1, 0, 0, 0, 0), (2, .iload_n 1, 1, 0, 0, 0, 0), (3, .iconst 4, 1, 0, 0, 0, 0), (4, .if_icmp .ge 16, 3, 0, 0, 0, 0), 
  (7, .aload_n 0, 1, 0, 0, 0, 0), (8, .getfield 92, 3, 10, 43, 2, 1544), (11, .iload_n 1, 1, 0, 0, 0, 0), (12, .iconst (-1), 1, 0, 0, 0, 0), (13, .iastore, 1, 0, 0, 0, 0), 
  (14, .iinc 1 1, 3, 0, 0, 0, 0), (17, .goto (-15), 3, 0, 0, 0, 0), (20, .aload_n 0, 1, 0, 0, 0, 0), (21, .iconst (-1), 1, 0, 0, 0, 0), (22, .putfield 95, 3, 10, 44, 0, 1545), 
  (25, .aload_n 0, 1, 0, 0, 0, 0), (26, .iconst (-1), 1, 0, 0, 0, 0), (27, .putfield 98, 3, 10, 45, 0, 1546), (30, .aload_n 0, 1, 0, 0, 0, 0), (31, .iconst (-1), 1, 0, 0, 0, 0), 
  (32, .putfield 101, 3, 10, 46, 0, 1547), (35, .aload_n 0, 1, 0, 0, 0, 0), (36, .iconst 0, 1, 0, 0, 0, 0), (37, .putfield 339, 3, 10, 47, 0, 1548), (40, .iconst 0, 1, 0, 0, 0, 0), 
  (41, .istore_n 1, 1, 0, 0, 0, 0), (42, .iload_n 1, 1, 0, 0, 0, 0), (43, .bipush 120, 2, 0, 0, 0, 0), (45, .if_icmp .ge 16, 3, 0, 0, 0, 0), (48, .aload_n 0, 1, 0, 0, 0, 0), 
  (49, .getfield 104, 3, 10, 48, 2, 1549), (52, .iload_n 1, 1, 0, 0, 0, 0), (53, .iconst 0, 1, 0, 0, 0, 0), (54, .bastore, 1, 0, 0, 0, 0), (55, .iinc 1 1, 3, 0, 0, 0, 0), 
  (58, .goto (-16), 3, 0, 0, 0, 0), (61, .return_, 1, 0, 0, 0, 0)]
/-- DropSwitchModel plain ()V -/
noncomputable def cd_202 : List (Nat × Ent) := [
  (0, .iconst 0, 1, 0, 0, 0, 0), (1, .istore_n 1, 1, 0, 0, 0, 0), (2, .iload_n 1, 1, 0, 0, 0, 0), (3, .iconst 4, 1, 0, 0, 0, 0), (4, .if_icmp .ge 21, 3, 0, 0, 0, 0), 
  (7, .aload_n 0, 1, 0, 0, 0, 0), (8, .getfield 107, 3, 10, 49, 2, 1550), (11, .iload_n 1, 1, 0, 0, 0, 0), (12, .aload_n 0, 1, 0, 0, 0, 0), (13, .getfield 13, 3, 10, 3, 2, 1504), 
  (16, .iload_n 1, 1, 0, 0, 0, 0), (17, .iaload, 1, 0, 0, 0, 0), (18, .iastore, 1, 0, 0, 0, 0), (19, .iinc 1 1, 3, 0, 0, 0, 0), (22, .goto (-20), 3, 0, 0, 0, 0), 
  (25, .aload_n 0, 1, 0, 0, 0, 0), (26, .aload_n 0, 1, 0, 0, 0, 0), (27, .getfield 26, 3, 10, 7, 0, 1508), (30, .putfield 342, 3, 10, 50, 0, 1551), (33, .aload_n 0, 1, 0, 0, 0, 0), 
  (34, .aload_n 0, 1, 0, 0, 0, 0), (35, .getfield 33, 3, 10, 9, 0, 1510), (38, .putfield 345, 3, 10, 51, 0, 1552), (41, .aload_n 0, 1, 0, 0, 0, 0), (42, .aload_n 0, 1, 0, 0, 0, 0), 
  (43, .getfield 30, 3, 10, 8, 0, 1509), (46, .putfield 348, 3, 10, 52, 0, 1553), (49, .aload_n 0, 1, 0, 0, 0, 0), (50, .iconst 0, 1, 0, 0, 0, 0), 
  (51, .putfield 351, 3, 10, 53, 0, 1554), (54, .iconst 0, 1, 0, 0, 0, 0), (55, .istore_n 1, 1, 0, 0, 0, 0), (56, .iload_n 1, 1, 0, 0, 0, 0), (57, .bipush 120, 2, 0, 0, 0, 0), 
  (59, .if_icmp .ge 16, 3, 0, 0, 0, 0), (62, .aload_n 0, 1, 0, 0, 0, 0), (63, .getfield 110, 3, 10, 54, 2, 1555), (66, .iload_n 1, 1, 0, 0, 0, 0), (67, .iconst 0, 1, 0, 0, 0, 0), 
  (68, .bastore, 1, 0, 0, 0, 0), (69, .iinc 1 1, 3, 0, 0, 0, 0), (72, .goto (-16), 3, 0, 0, 0, 0), (75, .return_, 1, 0, 0, 0, 0)]
/-- DropSwitchModel supposed ()V -/
noncomputable def cd_203 : List (Nat × Ent) := [
  (0, .aload_n 0, 1, 0, 0, 0, 0), (1, .invokevirtual 354, 3, 202, 1, 0, 1901), (4, .iconst 0, 1, 0, 0, 0, 0), (5, .istore_n 1, 1, 0, 0, 0, 0), (6, .iload_n 1, 1, 0, 0, 0, 0), 
  (7, .iconst 4, 1, 0, 0, 0, 0), (8, .if_icmp .ge 40, 3, 0, 0, 0, 0), (11, .aload_n 0, 1, 0, 0, 0, 0), (12, .getfield 107, 3, 10, 49, 2, 1550), (15, .iload_n 1, 1, 0, 0, 0, 0), 
  (16, .aload_n 0, 1, 0, 0, 0, 0), (17, .getfield 92, 3, 10, 43, 2, 1544), (20, .iload_n 1, 1, 0, 0, 0, 0), (21, .iaload, 1, 0, 0, 0, 0), (22, .iconst (-1), 1, 0, 0, 0, 0), 
  (23, .if_icmp .ne 12, 3, 0, 0, 0, 0), (26, .aload_n 0, 1, 0, 0, 0, 0), (27, .getfield 13, 3, 10, 3, 2, 1504), (30, .iload_n 1, 1, 0, 0, 0, 0), (31, .iaload, 1, 0, 0, 0, 0), 
  (32, .goto 9, 3, 0, 0, 0, 0), (35, .aload_n 0, 1, 0, 0, 0, 0), (36, .getfield 92, 3, 10, 43, 2, 1544), (39, .iload_n 1, 1, 0, 0, 0, 0), (40, .iaload, 1, 0, 0, 0, 0), 
  (41, .iastore, 1, 0, 0, 0, 0), (42, .iinc 1 1, 3, 0, 0, 0, 0), (45, .goto (-39), 3, 0, 0, 0, 0), (48, .aload_n 0, 1, 0, 0, 0, 0), (49, .aload_n 0, 1, 0, 0, 0, 0), 
  (50, .getfield 95, 3, 10, 44, 0, 1545), (53, .iconst (-1), 1, 0, 0, 0, 0), (54, .if_icmp .ne 10, 3, 0, 0, 0, 0), (57, .aload_n 0, 1, 0, 0, 0, 0), 
  (58, .getfield 26, 3, 10, 7, 0, 1508), (61, .goto 7, 3, 0, 0, 0, 0), (64, .aload_n 0, 1, 0, 0, 0, 0), (65, .getfield 95, 3, 10, 44, 0, 1545), 
  (68, .putfield 342, 3, 10, 50, 0, 1551), (71, .aload_n 0, 1, 0, 0, 0, 0), (72, .aload_n 0, 1, 0, 0, 0, 0), (73, .getfield 98, 3, 10, 45, 0, 1546), (76, .iconst (-1), 1, 0, 0, 0, 0), 
  (77, .if_icmp .ne 10, 3, 0, 0, 0, 0), (80, .aload_n 0, 1, 0, 0, 0, 0), (81, .getfield 33, 3, 10, 9, 0, 1510), (84, .goto 7, 3, 0, 0, 0, 0), (87, .aload_n 0, 1, 0, 0, 0, 0), 
  (88, .getfield 98, 3, 10, 45, 0, 1546), (91, .putfield 345, 3, 10, 51, 0, 1552), (94, .aload_n 0, 1, 0, 0, 0, 0), (95, .aload_n 0, 1, 0, 0, 0, 0), 
  (96, .getfield 101, 3, 10, 46, 0, 1547), (99, .iconst (-1), 1, 0, 0, 0, 0), (100, .if_icmp .ne 10, 3, 0, 0, 0, 0), (103, .aload_n 0, 1, 0, 0, 0, 0), 
  (104, .getfield 30, 3, 10, 8, 0, 1509), (107, .goto 7, 3, 0, 0, 0, 0), (110, .aload_n 0, 1, 0, 0, 0, 0), (111, .getfield 101, 3, 10, 46, 0, 1547), 
  (114, .putfield 348, 3, 10, 52, 0, 1553), (117, .aload_n 0, 1, 0, 0, 0, 0), (118, .aload_n 0, 1, 0, 0, 0, 0), (119, .getfield 339, 3, 10, 47, 0, 1548), 
  (122, .putfield 351, 3, 10, 53, 0, 1554), (125, .iconst 0, 1, 0, 0, 0, 0), (126, .istore_n 1, 1, 0, 0, 0, 0), (127, .iload_n 1, 1, 0, 0, 0, 0), (128, .bipush 120, 2, 0, 0, 0, 0), 
  (130, .if_icmp .ge 21, 3, 0, 0, 0, 0), (133, .aload_n 0, 1, 0, 0, 0, 0), (134, .getfield 110, 3, 10, 54, 2, 1555), (137, .iload_n 1, 1, 0, 0, 0, 0), 
  (138, .aload_n 0, 1, 0, 0, 0, 0), (139, .getfield 104, 3, 10, 48, 2, 1549), (142, .iload_n 1, 1, 0, 0, 0, 0), (143, .baload, 1, 0, 0, 0, 0), (144, .bastore, 1, 0, 0, 0, 0), 
  (145, .iinc 1 1, 3, 0, 0, 0, 0), (148, .goto (-21), 3, 0, 0, 0, 0), (151, .return_, 1, 0, 0, 0, 0)]
/-- DropSwitchModel field ([IIII)I -/
noncomputable def cd_204 : List (Nat × Ent) := [
  (0, .aload_n 0, 1, 0, 0, 0, 0), (1, .iload_n 1, 1, 0, 0, 0, 0), (2, .iload_n 2, 1, 0, 0, 0, 0), (3, .imul, 1, 0, 0, 0, 0), (4, .iload_n 3, 1, 0, 0, 0, 0), (5, .iadd, 1, 0, 0, 0, 0), 
  (6, .iaload, 1, 0, 0, 0, 0), (7, .ireturn, 1, 0, 0, 0, 0)]
/-- DropSwitchModel ofEvent (II)I -/
noncomputable def cd_205 : List (Nat × Ent) := [
  (0, .aload_n 0, 1, 0, 0, 0, 0), (1, .getfield 49, 3, 10, 17, 2, 1518), (4, .bipush 7, 2, 0, 0, 0, 0), (6, .iload_n 1, 1, 0, 0, 0, 0), (7, .imul, 1, 0, 0, 0, 0), 
  (8, .iload_n 2, 1, 0, 0, 0, 0), (9, .iadd, 1, 0, 0, 0, 0), (10, .iaload, 1, 0, 0, 0, 0), (11, .ireturn, 1, 0, 0, 0, 0)]
/-- DropSwitchModel ofPacket (II)I -/
noncomputable def cd_206 : List (Nat × Ent) := [
  (0, .aload_n 0, 1, 0, 0, 0, 0), (1, .aload_n 0, 1, 0, 0, 0, 0), (2, .getfield 52, 3, 10, 18, 2, 1519), (5, .iload_n 1, 1, 0, 0, 0, 0), (6, .iaload, 1, 0, 0, 0, 0), 
  (7, .iload_n 2, 1, 0, 0, 0, 0), (8, .invokevirtual 357, 3, 205, 3, 0, 1917), (11, .ireturn, 1, 0, 0, 0, 0)]
/-- DropSwitchModel sizeOf (I)I -/
noncomputable def cd_207 : List (Nat × Ent) := [
  (0, .aload_n 0, 1, 0, 0, 0, 0), (1, .iload_n 1, 1, 0, 0, 0, 0), (2, .iconst 4, 1, 0, 0, 0, 0), (3, .invokevirtual 360, 3, 206, 3, 0, 1944), (6, .ireturn, 1, 0, 0, 0, 0)]
/-- DropSwitchModel classOf (I)I -/
noncomputable def cd_208 : List (Nat × Ent) := [
  (0, .aload_n 0, 1, 0, 0, 0, 0), (1, .iload_n 1, 1, 0, 0, 0, 0), (2, .iconst 5, 1, 0, 0, 0, 0), (3, .invokevirtual 360, 3, 206, 3, 0, 1944), (6, .ireturn, 1, 0, 0, 0, 0)]
/-- DropSwitchModel fillOf (I)I -/
noncomputable def cd_209 : List (Nat × Ent) := [
  (0, .iconst 0, 1, 0, 0, 0, 0), (1, .istore_n 2, 1, 0, 0, 0, 0), (2, .iconst 0, 1, 0, 0, 0, 0), (3, .istore_n 3, 1, 0, 0, 0, 0), (4, .iload_n 3, 1, 0, 0, 0, 0), 
  (5, .aload_n 0, 1, 0, 0, 0, 0), (6, .getfield 122, 3, 10, 59, 2, 1560), (9, .iload_n 1, 1, 0, 0, 0, 0), (10, .iaload, 1, 0, 0, 0, 0), (11, .if_icmp .ge 27, 3, 0, 0, 0, 0), 
  (14, .iload_n 2, 1, 0, 0, 0, 0), (15, .aload_n 0, 1, 0, 0, 0, 0), (16, .aload_n 0, 1, 0, 0, 0, 0), (17, .getfield 116, 3, 10, 57, 2, 1558), (20, .bipush 100, 2, 0, 0, 0, 0), 
  (22, .iload_n 1, 1, 0, 0, 0, 0), (23, .imul, 1, 0, 0, 0, 0), (24, .iload_n 3, 1, 0, 0, 0, 0), (25, .iadd, 1, 0, 0, 0, 0), (26, .iaload, 1, 0, 0, 0, 0), 
  (27, .invokevirtual 363, 3, 207, 2, 0, 1948), (30, .iadd, 1, 0, 0, 0, 0), (31, .istore_n 2, 1, 0, 0, 0, 0), (32, .iinc 3 1, 3, 0, 0, 0, 0), (35, .goto (-31), 3, 0, 0, 0, 0), 
  (38, .iload_n 2, 1, 0, 0, 0, 0), (39, .ireturn, 1, 0, 0, 0, 0)]
/-- DropSwitchModel fillOfAll ()I -/
noncomputable def cd_210 : List (Nat × Ent) := [
  (0, .iconst 0, 1, 0, 0, 0, 0), (1, .istore_n 1, 1, 0, 0, 0, 0), (2, .iconst 0, 1, 0, 0, 0, 0), (3, .istore_n 2, 1, 0, 0, 0, 0), (4, .iload_n 2, 1, 0, 0, 0, 0), 
  (5, .aload_n 0, 1, 0, 0, 0, 0), (6, .getfield 324, 3, 10, 1, 0, 1502), (9, .if_icmp .ge 17, 3, 0, 0, 0, 0), (12, .iload_n 1, 1, 0, 0, 0, 0), (13, .aload_n 0, 1, 0, 0, 0, 0), 
  (14, .iload_n 2, 1, 0, 0, 0, 0), (15, .invokevirtual 366, 3, 209, 2, 0, 1968), (18, .iadd, 1, 0, 0, 0, 0), (19, .istore_n 1, 1, 0, 0, 0, 0), (20, .iinc 2 1, 3, 0, 0, 0, 0), 
  (23, .goto (-19), 3, 0, 0, 0, 0), (26, .iload_n 1, 1, 0, 0, 0, 0), (27, .ireturn, 1, 0, 0, 0, 0)]
/-- DropSwitchModel drops (IIII)V -/
noncomputable def cd_211 : List (Nat × Ent) := [
  (0, .iconst 5, 1, 0, 0, 0, 0), (1, .aload_n 0, 1, 0, 0, 0, 0), (2, .getfield 369, 3, 10, 66, 0, 1567), (5, .imul, 1, 0, 0, 0, 0), (6, .istore 5, 2, 0, 0, 0, 0), 
  (8, .aload_n 0, 1, 0, 0, 0, 0), (9, .getfield 140, 3, 10, 65, 2, 1566), (12, .iload 5, 2, 0, 0, 0, 0), (14, .aload_n 0, 1, 0, 0, 0, 0), (15, .getfield 372, 3, 10, 67, 0, 1568), 
  (18, .iastore, 1, 0, 0, 0, 0), (19, .aload_n 0, 1, 0, 0, 0, 0), (20, .getfield 140, 3, 10, 65, 2, 1566), (23, .iload 5, 2, 0, 0, 0, 0), (25, .iconst 1, 1, 0, 0, 0, 0), 
  (26, .iadd, 1, 0, 0, 0, 0), (27, .iload_n 1, 1, 0, 0, 0, 0), (28, .iastore, 1, 0, 0, 0, 0), (29, .aload_n 0, 1, 0, 0, 0, 0), (30, .getfield 140, 3, 10, 65, 2, 1566), 
  (33, .iload 5, 2, 0, 0, 0, 0), (35, .iconst 2, 1, 0, 0, 0, 0), (36, .iadd, 1, 0, 0, 0, 0), (37, .iload_n 2, 1, 0, 0, 0, 0), (38, .iastore, 1, 0, 0, 0, 0), 
  (39, .aload_n 0, 1, 0, 0, 0, 0), (40, .getfield 140, 3, 10, 65, 2, 1566), (43, .iload 5, 2, 0, 0, 0, 0), (45, .iconst 3, 1, 0, 0, 0, 0), (46, .iadd, 1, 0, 0, 0, 0), 
  (47, .iload_n 3, 1, 0, 0, 0, 0), (48, .iastore, 1, 0, 0, 0, 0), (49, .aload_n 0, 1, 0, 0, 0, 0), (50, .getfield 140, 3, 10, 65, 2, 1566), (53, .iload 5, 2, 0, 0, 0, 0), 
  (55, .iconst 4, 1, 0, 0, 0, 0), (56, .iadd, 1, 0, 0, 0, 0), (57, .iload 4, 2, 0, 0, 0, 0), (59, .iastore, 1, 0, 0, 0, 0), (60, .aload_n 0, 1, 0, 0, 0, 0), (61, .dup, 1, 0, 0, 0, 0), 
  (62, .getfield 369, 3, 10, 66, 0, 1567), (65, .iconst 1, 1, 0, 0, 0, 0), (66, .iadd, 1, 0, 0, 0, 0), (67, .putfield 369, 3, 10, 66, 0, 1567), (70, .iload_n 2, 1, 0, 0, 0, 0), 
  (71, .iconst (-1), 1, 0, 0, 0, 0), (72, .if_icmp .eq 14, 3, 0, 0, 0, 0), (75, .aload_n 0, 1, 0, 0, 0, 0), (76, .getfield 134, 3, 10, 63, 2, 1564), (79, .iconst 4, 1, 0, 0, 0, 0), 
  (80, .iload_n 1, 1, 0, 0, 0, 0), (81, .imul, 1, 0, 0, 0, 0), (82, .iload_n 2, 1, 0, 0, 0, 0), (83, .iadd, 1, 0, 0, 0, 0), (84, .iconst 3, 1, 0, 0, 0, 0), 
  (85, .iastore, 1, 0, 0, 0, 0), (86, .return_, 1, 0, 0, 0, 0)]
/-- DropSwitchModel takesOut (II)I -/
noncomputable def cd_212 : List (Nat × Ent) := [
  (0, .aload_n 0, 1, 0, 0, 0, 0), (1, .getfield 116, 3, 10, 57, 2, 1558), (4, .bipush 100, 2, 0, 0, 0, 0), (6, .iload_n 1, 1, 0, 0, 0, 0), (7, .imul, 1, 0, 0, 0, 0), 
  (8, .iload_n 2, 1, 0, 0, 0, 0), (9, .iadd, 1, 0, 0, 0, 0), (10, .iaload, 1, 0, 0, 0, 0), (11, .istore_n 3, 1, 0, 0, 0, 0), (12, .iload_n 2, 1, 0, 0, 0, 0), 
  (13, .istore 4, 2, 0, 0, 0, 0), (15, .iload 4, 2, 0, 0, 0, 0), (17, .iconst 1, 1, 0, 0, 0, 0), (18, .iadd, 1, 0, 0, 0, 0), (19, .aload_n 0, 1, 0, 0, 0, 0), 
  (20, .getfield 122, 3, 10, 59, 2, 1560), (23, .iload_n 1, 1, 0, 0, 0, 0), (24, .iaload, 1, 0, 0, 0, 0), (25, .if_icmp .ge 61, 3, 0, 0, 0, 0), (28, .aload_n 0, 1, 0, 0, 0, 0), 
  (29, .getfield 116, 3, 10, 57, 2, 1558), (32, .bipush 100, 2, 0, 0, 0, 0), (34, .iload_n 1, 1, 0, 0, 0, 0), (35, .imul, 1, 0, 0, 0, 0), (36, .iload 4, 2, 0, 0, 0, 0), 
  (38, .iadd, 1, 0, 0, 0, 0), (39, .aload_n 0, 1, 0, 0, 0, 0), (40, .getfield 116, 3, 10, 57, 2, 1558), (43, .bipush 100, 2, 0, 0, 0, 0), (45, .iload_n 1, 1, 0, 0, 0, 0), 
  (46, .imul, 1, 0, 0, 0, 0), (47, .iload 4, 2, 0, 0, 0, 0), (49, .iadd, 1, 0, 0, 0, 0), (50, .iconst 1, 1, 0, 0, 0, 0), (51, .iadd, 1, 0, 0, 0, 0), (52, .iaload, 1, 0, 0, 0, 0), 
  (53, .iastore, 1, 0, 0, 0, 0), (54, .aload_n 0, 1, 0, 0, 0, 0), (55, .getfield 119, 3, 10, 58, 2, 1559), (58, .bipush 100, 2, 0, 0, 0, 0), (60, .iload_n 1, 1, 0, 0, 0, 0), 
  (61, .imul, 1, 0, 0, 0, 0), (62, .iload 4, 2, 0, 0, 0, 0), (64, .iadd, 1, 0, 0, 0, 0), (65, .aload_n 0, 1, 0, 0, 0, 0), (66, .getfield 119, 3, 10, 58, 2, 1559), 
  (69, .bipush 100, 2, 0, 0, 0, 0), (71, .iload_n 1, 1, 0, 0, 0, 0), (72, .imul, 1, 0, 0, 0, 0), (73, .iload 4, 2, 0, 0, 0, 0), (75, .iadd, 1, 0, 0, 0, 0), 
  (76, .iconst 1, 1, 0, 0, 0, 0), (77, .iadd, 1, 0, 0, 0, 0), (78, .iaload, 1, 0, 0, 0, 0), (79, .iastore, 1, 0, 0, 0, 0), (80, .iinc 4 1, 3, 0, 0, 0, 0), 
  (83, .goto (-68), 3, 0, 0, 0, 0), (86, .aload_n 0, 1, 0, 0, 0, 0), (87, .getfield 122, 3, 10, 59, 2, 1560), (90, .iload_n 1, 1, 0, 0, 0, 0), (91, .dup2, 1, 0, 0, 0, 0), 
  (92, .iaload, 1, 0, 0, 0, 0), (93, .iconst 1, 1, 0, 0, 0, 0), (94, .isub, 1, 0, 0, 0, 0), (95, .iastore, 1, 0, 0, 0, 0), (96, .iload_n 3, 1, 0, 0, 0, 0), 
  (97, .ireturn, 1, 0, 0, 0, 0)]
/-- DropSwitchModel begins ()V -/
noncomputable def cd_213 : List (Nat × Ent) := [
  (0, .aload_n 0, 1, 0, 0, 0, 0), (1, .iconst 0, 1, 0, 0, 0, 0), (2, .putfield 375, 3, 10, 55, 0, 1556), (5, .aload_n 0, 1, 0, 0, 0, 0), (6, .iconst 0, 1, 0, 0, 0, 0), 
  (7, .putfield 369, 3, 10, 66, 0, 1567), (10, .iconst 0, 1, 0, 0, 0, 0), (11, .istore_n 1, 1, 0, 0, 0, 0), (12, .iload_n 1, 1, 0, 0, 0, 0), (13, .iconst 4, 1, 0, 0, 0, 0), 
  (14, .if_icmp .ge 42, 3, 0, 0, 0, 0), (17, .aload_n 0, 1, 0, 0, 0, 0), (18, .getfield 113, 3, 10, 56, 2, 1557), (21, .iload_n 1, 1, 0, 0, 0, 0), (22, .iconst 1, 1, 0, 0, 0, 0), 
  (23, .bastore, 1, 0, 0, 0, 0), (24, .aload_n 0, 1, 0, 0, 0, 0), (25, .getfield 122, 3, 10, 59, 2, 1560), (28, .iload_n 1, 1, 0, 0, 0, 0), (29, .iconst 0, 1, 0, 0, 0, 0), 
  (30, .iastore, 1, 0, 0, 0, 0), (31, .aload_n 0, 1, 0, 0, 0, 0), (32, .getfield 125, 3, 10, 60, 2, 1561), (35, .iload_n 1, 1, 0, 0, 0, 0), (36, .aload_n 0, 1, 0, 0, 0, 0), 
  (37, .getfield 23, 3, 10, 6, 2, 1507), (40, .iload_n 1, 1, 0, 0, 0, 0), (41, .iaload, 1, 0, 0, 0, 0), (42, .iastore, 1, 0, 0, 0, 0), (43, .aload_n 0, 1, 0, 0, 0, 0), 
  (44, .getfield 137, 3, 10, 64, 2, 1565), (47, .iload_n 1, 1, 0, 0, 0, 0), (48, .iconst 0, 1, 0, 0, 0, 0), (49, .iastore, 1, 0, 0, 0, 0), (50, .iinc 1 1, 3, 0, 0, 0, 0), 
  (53, .goto (-41), 3, 0, 0, 0, 0), (56, .iconst 0, 1, 0, 0, 0, 0), (57, .istore_n 1, 1, 0, 0, 0, 0), (58, .iload_n 1, 1, 0, 0, 0, 0), (59, .bipush 64, 2, 0, 0, 0, 0), 
  (61, .if_icmp .ge 16, 3, 0, 0, 0, 0), (64, .aload_n 0, 1, 0, 0, 0, 0), (65, .getfield 128, 3, 10, 61, 2, 1562), (68, .iload_n 1, 1, 0, 0, 0, 0), (69, .iconst (-1), 1, 0, 0, 0, 0), 
  (70, .iastore, 1, 0, 0, 0, 0), (71, .iinc 1 1, 3, 0, 0, 0, 0), (74, .goto (-16), 3, 0, 0, 0, 0), (77, .iconst 0, 1, 0, 0, 0, 0), (78, .istore_n 1, 1, 0, 0, 0, 0), 
  (79, .iload_n 1, 1, 0, 0, 0, 0), (80, .sipush 480, 3, 0, 0, 0, 0), (83, .if_icmp .ge 16, 3, 0, 0, 0, 0), (86, .aload_n 0, 1, 0, 0, 0, 0), (87, .getfield 134, 3, 10, 63, 2, 1564), 
  (90, .iload_n 1, 1, 0, 0, 0, 0), (91, .iconst 0, 1, 0, 0, 0, 0), (92, .iastore, 1, 0, 0, 0, 0), (93, .iinc 1 1, 3, 0, 0, 0, 0), (96, .goto (-17), 3, 0, 0, 0, 0), 
  (99, .return_, 1, 0, 0, 0, 0)]
/-- DropSwitchModel runsTo (I)V -/
noncomputable def cd_214 : List (Nat × Ent) := [
  (0, .aload_n 0, 1, 0, 0, 0, 0), (1, .invokevirtual 378, 3, 213, 1, 0, 1909), (4, .iconst 0, 1, 0, 0, 0, 0), (5, .istore_n 2, 1, 0, 0, 0, 0), (6, .iload_n 2, 1, 0, 0, 0, 0), 
  (7, .iload_n 1, 1, 0, 0, 0, 0), (8, .if_icmp .ge 38, 3, 0, 0, 0, 0), (11, .aload_n 0, 1, 0, 0, 0, 0), (12, .iload_n 2, 1, 0, 0, 0, 0), (13, .putfield 372, 3, 10, 67, 0, 1568), 
  (16, .aload_n 0, 1, 0, 0, 0, 0), (17, .iconst 0, 1, 0, 0, 0, 0), (18, .putfield 381, 3, 10, 68, 0, 1569), (21, .aload_n 0, 1, 0, 0, 0, 0), (22, .iconst 0, 1, 0, 0, 0, 0), 
  (23, .putfield 384, 3, 10, 69, 0, 1570), (26, .aload_n 0, 1, 0, 0, 0, 0), (27, .getfield 110, 3, 10, 54, 2, 1555), (30, .iload_n 2, 1, 0, 0, 0, 0), (31, .baload, 1, 0, 0, 0, 0), 
  (32, .ifCond .ne 8, 3, 0, 0, 0, 0), (35, .aload_n 0, 1, 0, 0, 0, 0), (36, .iload_n 2, 1, 0, 0, 0, 0), (37, .invokevirtual 387, 3, 216, 2, 0, 1913), (40, .iinc 2 1, 3, 0, 0, 0, 0), 
  (43, .goto (-37), 3, 0, 0, 0, 0), (46, .return_, 1, 0, 0, 0, 0)]
/-- DropSwitchModel now ()V -/
noncomputable def cd_215 : List (Nat × Ent) := [
  (0, .aload_n 0, 1, 0, 0, 0, 0), (1, .invokevirtual 354, 3, 202, 1, 0, 1901), (4, .aload_n 0, 1, 0, 0, 0, 0), (5, .aload_n 0, 1, 0, 0, 0, 0), (6, .getfield 330, 3, 10, 15, 0, 1516), 
  (9, .invokevirtual 390, 3, 214, 2, 0, 1905), (12, .return_, 1, 0, 0, 0, 0)]
/-- DropSwitchModel happens (I)V -/
noncomputable def cd_216 : List (Nat × Ent) := [
  (0, .aload_n 0, 1, 0, 0, 0, 0), (1, .iload_n 1, 1, 0, 0, 0, 0), (2, .iconst 1, 1, 0, 0, 0, 0), (3, .invokevirtual 357, 3, 205, 3, 0, 1917), (6, .istore_n 2, 1, 0, 0, 0, 0), 
  (7, .aload_n 0, 1, 0, 0, 0, 0), (8, .iload_n 1, 1, 0, 0, 0, 0), (9, .iconst 0, 1, 0, 0, 0, 0), (10, .invokevirtual 357, 3, 205, 3, 0, 1917), 
  (13, .tableswitch 59 0 2 #[27, 42, 49], 27, 0, 0, 0, 0), (40, .aload_n 0, 1, 0, 0, 0, 0), (41, .iload_n 2, 1, 0, 0, 0, 0), (42, .aload_n 0, 1, 0, 0, 0, 0), 
  (43, .iload_n 1, 1, 0, 0, 0, 0), (44, .bipush 6, 2, 0, 0, 0, 0), (46, .invokevirtual 357, 3, 205, 3, 0, 1917), (49, .invokevirtual 393, 3, 222, 3, 0, 1921), 
  (52, .goto 25, 3, 0, 0, 0, 0), (55, .aload_n 0, 1, 0, 0, 0, 0), (56, .invokevirtual 396, 3, 227, 1, 0, 1984), (59, .goto 18, 3, 0, 0, 0, 0), (62, .aload_n 0, 1, 0, 0, 0, 0), 
  (63, .getfield 113, 3, 10, 56, 2, 1557), (66, .iload_n 2, 1, 0, 0, 0, 0), (67, .iconst 1, 1, 0, 0, 0, 0), (68, .bastore, 1, 0, 0, 0, 0), (69, .goto 8, 3, 0, 0, 0, 0), 
  (72, .aload_n 0, 1, 0, 0, 0, 0), (73, .iload_n 2, 1, 0, 0, 0, 0), (74, .invokevirtual 399, 3, 217, 2, 0, 1992), (77, .return_, 1, 0, 0, 0, 0)]
/-- DropSwitchModel goesDown (I)V -/
noncomputable def cd_217 : List (Nat × Ent) := [
  (0, .aload_n 0, 1, 0, 0, 0, 0), (1, .getfield 113, 3, 10, 56, 2, 1557), (4, .iload_n 1, 1, 0, 0, 0, 0), (5, .iconst 0, 1, 0, 0, 0, 0), (6, .bastore, 1, 0, 0, 0, 0), 
  (7, .aload_n 0, 1, 0, 0, 0, 0), (8, .getfield 122, 3, 10, 59, 2, 1560), (11, .iload_n 1, 1, 0, 0, 0, 0), (12, .iaload, 1, 0, 0, 0, 0), (13, .ifCond .le 20, 3, 0, 0, 0, 0), 
  (16, .aload_n 0, 1, 0, 0, 0, 0), (17, .aload_n 0, 1, 0, 0, 0, 0), (18, .iload_n 1, 1, 0, 0, 0, 0), (19, .iconst 0, 1, 0, 0, 0, 0), (20, .invokevirtual 402, 3, 212, 3, 0, 1980), 
  (23, .iload_n 1, 1, 0, 0, 0, 0), (24, .bipush 10, 2, 0, 0, 0, 0), (26, .iconst (-1), 1, 0, 0, 0, 0), (27, .invokevirtual 405, 3, 211, 5, 0, 1925), (30, .goto (-23), 3, 0, 0, 0, 0), 
  (33, .iconst 0, 1, 0, 0, 0, 0), (34, .istore_n 2, 1, 0, 0, 0, 0), (35, .iload_n 2, 1, 0, 0, 0, 0), (36, .bipush 64, 2, 0, 0, 0, 0), (38, .if_icmp .ge 35, 3, 0, 0, 0, 0), 
  (41, .aload_n 0, 1, 0, 0, 0, 0), (42, .getfield 128, 3, 10, 61, 2, 1562), (45, .iload_n 2, 1, 0, 0, 0, 0), (46, .aload_n 0, 1, 0, 0, 0, 0), (47, .getfield 128, 3, 10, 61, 2, 1562), 
  (50, .iload_n 2, 1, 0, 0, 0, 0), (51, .iaload, 1, 0, 0, 0, 0), (52, .iload_n 1, 1, 0, 0, 0, 0), (53, .if_icmp .ne 7, 3, 0, 0, 0, 0), (56, .iconst (-1), 1, 0, 0, 0, 0), 
  (57, .goto 9, 3, 0, 0, 0, 0), (60, .aload_n 0, 1, 0, 0, 0, 0), (61, .getfield 128, 3, 10, 61, 2, 1562), (64, .iload_n 2, 1, 0, 0, 0, 0), (65, .iaload, 1, 0, 0, 0, 0), 
  (66, .iastore, 1, 0, 0, 0, 0), (67, .iinc 2 1, 3, 0, 0, 0, 0), (70, .goto (-35), 3, 0, 0, 0, 0), (73, .return_, 1, 0, 0, 0, 0)]
/-- DropSwitchModel tells (II)Z -/
noncomputable def cd_218 : List (Nat × Ent) := [
  (0, .aload_n 0, 1, 0, 0, 0, 0), (1, .getfield 46, 3, 10, 14, 2, 1515), (4, .iconst 3, 1, 0, 0, 0, 0), (5, .iload_n 1, 1, 0, 0, 0, 0), (6, .imul, 1, 0, 0, 0, 0), 
  (7, .iconst 1, 1, 0, 0, 0, 0), (8, .iadd, 1, 0, 0, 0, 0), (9, .iaload, 1, 0, 0, 0, 0), (10, .istore_n 3, 1, 0, 0, 0, 0), (11, .aload_n 0, 1, 0, 0, 0, 0), 
  (12, .iload_n 2, 1, 0, 0, 0, 0), (13, .iconst 2, 1, 0, 0, 0, 0), (14, .aload_n 0, 1, 0, 0, 0, 0), (15, .getfield 46, 3, 10, 14, 2, 1515), (18, .iconst 3, 1, 0, 0, 0, 0), 
  (19, .iload_n 1, 1, 0, 0, 0, 0), (20, .imul, 1, 0, 0, 0, 0), (21, .iconst 2, 1, 0, 0, 0, 0), (22, .iadd, 1, 0, 0, 0, 0), (23, .iaload, 1, 0, 0, 0, 0), (24, .iadd, 1, 0, 0, 0, 0), 
  (25, .invokevirtual 360, 3, 206, 3, 0, 1944), (28, .istore 4, 2, 0, 0, 0, 0), (30, .aload_n 0, 1, 0, 0, 0, 0), (31, .getfield 46, 3, 10, 14, 2, 1515), 
  (34, .iconst 3, 1, 0, 0, 0, 0), (35, .iload_n 1, 1, 0, 0, 0, 0), (36, .imul, 1, 0, 0, 0, 0), (37, .iaload, 1, 0, 0, 0, 0), 
  (38, .tableswitch 82 1 4 #[30, 42, 54, 66], 30, 0, 0, 0, 0), (68, .iload 4, 2, 0, 0, 0, 0), (70, .iload_n 3, 1, 0, 0, 0, 0), (71, .if_icmp .ge 7, 3, 0, 0, 0, 0), 
  (74, .iconst 1, 1, 0, 0, 0, 0), (75, .goto 4, 3, 0, 0, 0, 0), (78, .iconst 0, 1, 0, 0, 0, 0), (79, .ireturn, 1, 0, 0, 1, 0), (80, .iload 4, 2, 0, 0, 0, 0), 
  (82, .iload_n 3, 1, 0, 0, 0, 0), (83, .if_icmp .ne 7, 3, 0, 0, 0, 0), (86, .iconst 1, 1, 0, 0, 0, 0), (87, .goto 4, 3, 0, 0, 0, 0), (90, .iconst 0, 1, 0, 0, 0, 0), 
  (91, .ireturn, 1, 0, 0, 1, 0), (92, .iload 4, 2, 0, 0, 0, 0), (94, .iload_n 3, 1, 0, 0, 0, 0), (95, .if_icmp .le 7, 3, 0, 0, 0, 0), (98, .iconst 1, 1, 0, 0, 0, 0), 
  (99, .goto 4, 3, 0, 0, 0, 0), (102, .iconst 0, 1, 0, 0, 0, 0), (103, .ireturn, 1, 0, 0, 1, 0), (104, .aload_n 0, 1, 0, 0, 0, 0), (105, .iload_n 2, 1, 0, 0, 0, 0), 
  (106, .iconst 1, 1, 0, 0, 0, 0), (107, .invokevirtual 360, 3, 206, 3, 0, 1944), (110, .iload_n 3, 1, 0, 0, 0, 0), (111, .if_icmp .ne 7, 3, 0, 0, 0, 0), 
  (114, .iconst 1, 1, 0, 0, 0, 0), (115, .goto 4, 3, 0, 0, 0, 0), (118, .iconst 0, 1, 0, 0, 0, 0), (119, .ireturn, 1, 0, 0, 1, 0), (120, .iconst 1, 1, 0, 0, 0, 0), 
  (121, .ireturn, 1, 0, 0, 1, 0)]
/-- DropSwitchModel holds (II)Z -/
noncomputable def cd_219 : List (Nat × Ent) := [
  (0, .iconst 0, 1, 0, 0, 0, 0), (1, .istore_n 3, 1, 0, 0, 0, 0), (2, .aload_n 0, 1, 0, 0, 0, 0), (3, .getfield 40, 3, 10, 12, 2, 1513), (6, .iload_n 1, 1, 0, 0, 0, 0), 
  (7, .iaload, 1, 0, 0, 0, 0), (8, .istore 4, 2, 0, 0, 0, 0), (10, .iload 4, 2, 0, 0, 0, 0), (12, .aload_n 0, 1, 0, 0, 0, 0), (13, .getfield 43, 3, 10, 13, 2, 1514), 
  (16, .iload_n 1, 1, 0, 0, 0, 0), (17, .iaload, 1, 0, 0, 0, 0), (18, .if_icmp .ge 158, 3, 0, 0, 0, 0), (21, .aload_n 0, 1, 0, 0, 0, 0), (22, .getfield 46, 3, 10, 14, 2, 1515), 
  (25, .iconst 3, 1, 0, 0, 0, 0), (26, .iload 4, 2, 0, 0, 0, 0), (28, .imul, 1, 0, 0, 0, 0), (29, .iaload, 1, 0, 0, 0, 0), (30, .istore 5, 2, 0, 0, 0, 0), 
  (32, .iload 5, 2, 0, 0, 0, 0), (34, .bipush 6, 2, 0, 0, 0, 0), (36, .if_icmp .ne 30, 3, 0, 0, 0, 0), (39, .aload_n 0, 1, 0, 0, 0, 0), (40, .getfield 143, 3, 10, 70, 2, 1571), 
  (43, .iload_n 3, 1, 0, 0, 0, 0), (44, .iconst 1, 1, 0, 0, 0, 0), (45, .isub, 1, 0, 0, 0, 0), (46, .aload_n 0, 1, 0, 0, 0, 0), (47, .getfield 143, 3, 10, 70, 2, 1571), 
  (50, .iload_n 3, 1, 0, 0, 0, 0), (51, .iconst 1, 1, 0, 0, 0, 0), (52, .isub, 1, 0, 0, 0, 0), (53, .baload, 1, 0, 0, 0, 0), (54, .ifCond .ne 7, 3, 0, 0, 0, 0), 
  (57, .iconst 1, 1, 0, 0, 0, 0), (58, .goto 4, 3, 0, 0, 0, 0), (61, .iconst 0, 1, 0, 0, 0, 0), (62, .bastore, 1, 0, 0, 0, 0), (63, .goto 107, 3, 0, 0, 0, 0), 
  (66, .iload 5, 2, 0, 0, 0, 0), (68, .bipush 7, 2, 0, 0, 0, 0), (70, .if_icmp .eq 10, 3, 0, 0, 0, 0), (73, .iload 5, 2, 0, 0, 0, 0), (75, .bipush 8, 2, 0, 0, 0, 0), 
  (77, .if_icmp .ne 77, 3, 0, 0, 0, 0), (80, .iinc 3 (-1), 3, 0, 0, 0, 0), (83, .aload_n 0, 1, 0, 0, 0, 0), (84, .getfield 143, 3, 10, 70, 2, 1571), (87, .iload_n 3, 1, 0, 0, 0, 0), 
  (88, .iconst 1, 1, 0, 0, 0, 0), (89, .isub, 1, 0, 0, 0, 0), (90, .iload 5, 2, 0, 0, 0, 0), (92, .bipush 7, 2, 0, 0, 0, 0), (94, .if_icmp .ne 31, 3, 0, 0, 0, 0), 
  (97, .aload_n 0, 1, 0, 0, 0, 0), (98, .getfield 143, 3, 10, 70, 2, 1571), (101, .iload_n 3, 1, 0, 0, 0, 0), (102, .iconst 1, 1, 0, 0, 0, 0), (103, .isub, 1, 0, 0, 0, 0), 
  (104, .baload, 1, 0, 0, 0, 0), (105, .ifCond .eq 16, 3, 0, 0, 0, 0), (108, .aload_n 0, 1, 0, 0, 0, 0), (109, .getfield 143, 3, 10, 70, 2, 1571), (112, .iload_n 3, 1, 0, 0, 0, 0), 
  (113, .baload, 1, 0, 0, 0, 0), (114, .ifCond .eq 7, 3, 0, 0, 0, 0), (117, .iconst 1, 1, 0, 0, 0, 0), (118, .goto 32, 3, 0, 0, 0, 0), (121, .iconst 0, 1, 0, 0, 0, 0), 
  (122, .goto 28, 3, 0, 0, 0, 0), (125, .aload_n 0, 1, 0, 0, 0, 0), (126, .getfield 143, 3, 10, 70, 2, 1571), (129, .iload_n 3, 1, 0, 0, 0, 0), (130, .iconst 1, 1, 0, 0, 0, 0), 
  (131, .isub, 1, 0, 0, 0, 0), (132, .baload, 1, 0, 0, 0, 0), (133, .ifCond .ne 12, 3, 0, 0, 0, 0), (136, .aload_n 0, 1, 0, 0, 0, 0), (137, .getfield 143, 3, 10, 70, 2, 1571), 
  (140, .iload_n 3, 1, 0, 0, 0, 0), (141, .baload, 1, 0, 0, 0, 0), (142, .ifCond .eq 7, 3, 0, 0, 0, 0), (145, .iconst 1, 1, 0, 0, 0, 0), (146, .goto 4, 3, 0, 0, 0, 0), 
  (149, .iconst 0, 1, 0, 0, 0, 0), (150, .bastore, 1, 0, 0, 0, 0), (151, .goto 19, 3, 0, 0, 0, 0), (154, .aload_n 0, 1, 0, 0, 0, 0), (155, .getfield 143, 3, 10, 70, 2, 1571), 
  (158, .iload_n 3, 1, 0, 0, 0, 0), (159, .aload_n 0, 1, 0, 0, 0, 0), (160, .iload 4, 2, 0, 0, 0, 0), (162, .iload_n 2, 1, 0, 0, 0, 0), (163, .invokevirtual 408, 3, 218, 3, 0, 1940), 
  (166, .bastore, 1, 0, 0, 0, 0), (167, .iinc 3 1, 3, 0, 0, 0, 0), (170, .iinc 4 1, 3, 0, 0, 0, 0), (173, .goto (-163), 3, 0, 0, 0, 0), (176, .aload_n 0, 1, 0, 0, 0, 0), 
  (177, .getfield 143, 3, 10, 70, 2, 1571), (180, .iconst 0, 1, 0, 0, 0, 0), (181, .baload, 1, 0, 0, 0, 0), (182, .ireturn, 1, 0, 0, 1, 0)]
/-- DropSwitchModel ruleAgainst (I)I -/
noncomputable def cd_220 : List (Nat × Ent) := [
  (0, .iconst 0, 1, 0, 0, 0, 0), (1, .istore_n 2, 1, 0, 0, 0, 0), (2, .iload_n 2, 1, 0, 0, 0, 0), (3, .aload_n 0, 1, 0, 0, 0, 0), (4, .getfield 327, 3, 10, 10, 0, 1511), 
  (7, .if_icmp .ge 44, 3, 0, 0, 0, 0), (10, .aload_n 0, 1, 0, 0, 0, 0), (11, .getfield 351, 3, 10, 53, 0, 1554), (14, .iload_n 2, 1, 0, 0, 0, 0), 
  (15, .invokestatic 412, 3, 170, 2, 1, 1933), (18, .ifCond .ne 27, 3, 0, 0, 0, 0), (21, .aload_n 0, 1, 0, 0, 0, 0), (22, .iload_n 2, 1, 0, 0, 0, 0), (23, .iload_n 1, 1, 0, 0, 0, 0), 
  (24, .invokevirtual 415, 3, 219, 3, 0, 1936), (27, .ifCond .eq 18, 3, 0, 0, 0, 0), (30, .aload_n 0, 1, 0, 0, 0, 0), (31, .getfield 36, 3, 10, 11, 2, 1512), 
  (34, .iload_n 2, 1, 0, 0, 0, 0), (35, .baload, 1, 0, 0, 0, 0), (36, .ifCond .eq 7, 3, 0, 0, 0, 0), (39, .iload_n 2, 1, 0, 0, 0, 0), (40, .goto 4, 3, 0, 0, 0, 0), 
  (43, .iconst (-1), 1, 0, 0, 0, 0), (44, .ireturn, 1, 0, 0, 0, 0), (45, .iinc 2 1, 3, 0, 0, 0, 0), (48, .goto (-46), 3, 0, 0, 0, 0), (51, .iconst (-1), 1, 0, 0, 0, 0), 
  (52, .ireturn, 1, 0, 0, 0, 0)]
/-- DropSwitchModel isValid (I)Z -/
noncomputable def cd_221 : List (Nat × Ent) := [
  (0, .aload_n 0, 1, 0, 0, 0, 0), (1, .getfield 128, 3, 10, 61, 2, 1562), (4, .iload_n 1, 1, 0, 0, 0, 0), (5, .iaload, 1, 0, 0, 0, 0), (6, .iconst (-1), 1, 0, 0, 0, 0), 
  (7, .if_icmp .eq 25, 3, 0, 0, 0, 0), (10, .aload_n 0, 1, 0, 0, 0, 0), (11, .getfield 375, 3, 10, 55, 0, 1556), (14, .aload_n 0, 1, 0, 0, 0, 0), 
  (15, .getfield 131, 3, 10, 62, 2, 1563), (18, .iload_n 1, 1, 0, 0, 0, 0), (19, .iaload, 1, 0, 0, 0, 0), (20, .isub, 1, 0, 0, 0, 0), (21, .aload_n 0, 1, 0, 0, 0, 0), 
  (22, .getfield 348, 3, 10, 52, 0, 1553), (25, .if_icmp .gt 7, 3, 0, 0, 0, 0), (28, .iconst 1, 1, 0, 0, 0, 0), (29, .goto 4, 3, 0, 0, 0, 0), (32, .iconst 0, 1, 0, 0, 0, 0), 
  (33, .ireturn, 1, 0, 0, 1, 0)]
/-- DropSwitchModel arrives (II)V -/
noncomputable def cd_222 : List (Nat × Ent) := [
  (0, .aload_n 0, 1, 0, 0, 0, 0), (1, .getfield 113, 3, 10, 56, 2, 1557), (4, .iload_n 1, 1, 0, 0, 0, 0), (5, .baload, 1, 0, 0, 0, 0), (6, .ifCond .ne 12, 3, 0, 0, 0, 0), 
  (9, .aload_n 0, 1, 0, 0, 0, 0), (10, .iload_n 2, 1, 0, 0, 0, 0), (11, .iconst (-1), 1, 0, 0, 0, 0), (12, .iconst 1, 1, 0, 0, 0, 0), (13, .iconst (-1), 1, 0, 0, 0, 0), 
  (14, .invokevirtual 405, 3, 211, 5, 0, 1925), (17, .return_, 1, 0, 0, 0, 0), (18, .aload_n 0, 1, 0, 0, 0, 0), (19, .iload_n 2, 1, 0, 0, 0, 0), 
  (20, .invokevirtual 418, 3, 220, 2, 0, 1929), (23, .istore_n 3, 1, 0, 0, 0, 0), (24, .iload_n 3, 1, 0, 0, 0, 0), (25, .iconst (-1), 1, 0, 0, 0, 0), 
  (26, .if_icmp .eq 12, 3, 0, 0, 0, 0), (29, .aload_n 0, 1, 0, 0, 0, 0), (30, .iload_n 2, 1, 0, 0, 0, 0), (31, .iconst (-1), 1, 0, 0, 0, 0), (32, .iconst 2, 1, 0, 0, 0, 0), 
  (33, .iload_n 3, 1, 0, 0, 0, 0), (34, .invokevirtual 405, 3, 211, 5, 0, 1925), (37, .return_, 1, 0, 0, 0, 0), (38, .aload_n 0, 1, 0, 0, 0, 0), (39, .getfield 23, 3, 10, 6, 2, 1507), 
  (42, .iload_n 1, 1, 0, 0, 0, 0), (43, .iaload, 1, 0, 0, 0, 0), (44, .iconst (-1), 1, 0, 0, 0, 0), (45, .if_icmp .eq 26, 3, 0, 0, 0, 0), (48, .aload_n 0, 1, 0, 0, 0, 0), 
  (49, .getfield 125, 3, 10, 60, 2, 1561), (52, .iload_n 1, 1, 0, 0, 0, 0), (53, .iaload, 1, 0, 0, 0, 0), (54, .aload_n 0, 1, 0, 0, 0, 0), (55, .iload_n 2, 1, 0, 0, 0, 0), 
  (56, .invokevirtual 363, 3, 207, 2, 0, 1948), (59, .if_icmp .ge 12, 3, 0, 0, 0, 0), (62, .aload_n 0, 1, 0, 0, 0, 0), (63, .iload_n 2, 1, 0, 0, 0, 0), 
  (64, .iconst (-1), 1, 0, 0, 0, 0), (65, .iconst 3, 1, 0, 0, 0, 0), (66, .iconst (-1), 1, 0, 0, 0, 0), (67, .invokevirtual 405, 3, 211, 5, 0, 1925), (70, .return_, 1, 0, 0, 0, 0), 
  (71, .aload_n 0, 1, 0, 0, 0, 0), (72, .getfield 125, 3, 10, 60, 2, 1561), (75, .iload_n 1, 1, 0, 0, 0, 0), (76, .dup2, 1, 0, 0, 0, 0), (77, .iaload, 1, 0, 0, 0, 0), 
  (78, .aload_n 0, 1, 0, 0, 0, 0), (79, .getfield 23, 3, 10, 6, 2, 1507), (82, .iload_n 1, 1, 0, 0, 0, 0), (83, .iaload, 1, 0, 0, 0, 0), (84, .iconst (-1), 1, 0, 0, 0, 0), 
  (85, .if_icmp .ne 7, 3, 0, 0, 0, 0), (88, .iconst 0, 1, 0, 0, 0, 0), (89, .goto 8, 3, 0, 0, 0, 0), (92, .aload_n 0, 1, 0, 0, 0, 0), (93, .iload_n 2, 1, 0, 0, 0, 0), 
  (94, .invokevirtual 363, 3, 207, 2, 0, 1948), (97, .isub, 1, 0, 0, 0, 0), (98, .iastore, 1, 0, 0, 0, 0), (99, .aload_n 0, 1, 0, 0, 0, 0), (100, .iload_n 2, 1, 0, 0, 0, 0), 
  (101, .iconst 2, 1, 0, 0, 0, 0), (102, .invokevirtual 360, 3, 206, 3, 0, 1944), (105, .istore 4, 2, 0, 0, 0, 0), (107, .aload_n 0, 1, 0, 0, 0, 0), (108, .iload_n 2, 1, 0, 0, 0, 0), 
  (109, .iconst 3, 1, 0, 0, 0, 0), (110, .invokevirtual 360, 3, 206, 3, 0, 1944), (113, .istore 5, 2, 0, 0, 0, 0), (115, .aload_n 0, 1, 0, 0, 0, 0), 
  (116, .getfield 128, 3, 10, 61, 2, 1562), (119, .iload 4, 2, 0, 0, 0, 0), (121, .iload_n 1, 1, 0, 0, 0, 0), (122, .iastore, 1, 0, 0, 0, 0), (123, .aload_n 0, 1, 0, 0, 0, 0), 
  (124, .getfield 131, 3, 10, 62, 2, 1563), (127, .iload 4, 2, 0, 0, 0, 0), (129, .aload_n 0, 1, 0, 0, 0, 0), (130, .getfield 375, 3, 10, 55, 0, 1556), (133, .iastore, 1, 0, 0, 0, 0), 
  (134, .aload_n 0, 1, 0, 0, 0, 0), (135, .iload 5, 2, 0, 0, 0, 0), (137, .invokevirtual 421, 3, 221, 2, 0, 1952), (140, .ifCond .eq 23, 3, 0, 0, 0, 0), 
  (143, .aload_n 0, 1, 0, 0, 0, 0), (144, .getfield 128, 3, 10, 61, 2, 1562), (147, .iload 5, 2, 0, 0, 0, 0), (149, .iaload, 1, 0, 0, 0, 0), (150, .iload_n 1, 1, 0, 0, 0, 0), 
  (151, .if_icmp .ne 12, 3, 0, 0, 0, 0), (154, .aload_n 0, 1, 0, 0, 0, 0), (155, .iload_n 2, 1, 0, 0, 0, 0), (156, .iconst (-1), 1, 0, 0, 0, 0), (157, .iconst 4, 1, 0, 0, 0, 0), 
  (158, .iconst (-1), 1, 0, 0, 0, 0), (159, .invokevirtual 405, 3, 211, 5, 0, 1925), (162, .return_, 1, 0, 0, 0, 0), (163, .iconst 0, 1, 0, 0, 0, 0), (164, .istore 6, 2, 0, 0, 0, 0), 
  (166, .iconst 0, 1, 0, 0, 0, 0), (167, .istore 7, 2, 0, 0, 0, 0), (169, .iload 7, 2, 0, 0, 0, 0), (171, .aload_n 0, 1, 0, 0, 0, 0), (172, .getfield 324, 3, 10, 1, 0, 1502), 
  (175, .if_icmp .ge 76, 3, 0, 0, 0, 0), (178, .aload_n 0, 1, 0, 0, 0, 0), (179, .iload 5, 2, 0, 0, 0, 0), (181, .invokevirtual 421, 3, 221, 2, 0, 1952), 
  (184, .ifCond .eq 23, 3, 0, 0, 0, 0), (187, .aload_n 0, 1, 0, 0, 0, 0), (188, .getfield 128, 3, 10, 61, 2, 1562), (191, .iload 5, 2, 0, 0, 0, 0), (193, .iaload, 1, 0, 0, 0, 0), 
  (194, .iload 7, 2, 0, 0, 0, 0), (196, .if_icmp .ne 7, 3, 0, 0, 0, 0), (199, .iconst 1, 1, 0, 0, 0, 0), (200, .goto 28, 3, 0, 0, 0, 0), (203, .iconst 0, 1, 0, 0, 0, 0), 
  (204, .goto 24, 3, 0, 0, 0, 0), (207, .iload 7, 2, 0, 0, 0, 0), (209, .iload_n 1, 1, 0, 0, 0, 0), (210, .if_icmp .eq 17, 3, 0, 0, 0, 0), (213, .aload_n 0, 1, 0, 0, 0, 0), 
  (214, .getfield 113, 3, 10, 56, 2, 1557), (217, .iload 7, 2, 0, 0, 0, 0), (219, .baload, 1, 0, 0, 0, 0), (220, .ifCond .eq 7, 3, 0, 0, 0, 0), (223, .iconst 1, 1, 0, 0, 0, 0), 
  (224, .goto 4, 3, 0, 0, 0, 0), (227, .iconst 0, 1, 0, 0, 0, 0), (228, .istore 8, 2, 0, 0, 0, 0), (230, .iload 8, 2, 0, 0, 0, 0), (232, .ifCond .eq 13, 3, 0, 0, 0, 0), 
  (235, .iinc 6 1, 3, 0, 0, 0, 0), (238, .aload_n 0, 1, 0, 0, 0, 0), (239, .iload 7, 2, 0, 0, 0, 0), (241, .iload_n 2, 1, 0, 0, 0, 0), (242, .invokevirtual 425, 3, 225, 3, 0, 1956), 
  (245, .iinc 7 1, 3, 0, 0, 0, 0), (248, .goto (-79), 3, 0, 0, 0, 0), (251, .iload 6, 2, 0, 0, 0, 0), (253, .ifCond .ne 11, 3, 0, 0, 0, 0), (256, .aload_n 0, 1, 0, 0, 0, 0), 
  (257, .iload_n 2, 1, 0, 0, 0, 0), (258, .iconst (-1), 1, 0, 0, 0, 0), (259, .iconst 5, 1, 0, 0, 0, 0), (260, .iconst (-1), 1, 0, 0, 0, 0), 
  (261, .invokevirtual 405, 3, 211, 5, 0, 1925), (264, .return_, 1, 0, 0, 0, 0)]
/-- DropSwitchModel lowestBelow (II)I -/
noncomputable def cd_223 : List (Nat × Ent) := [
  (0, .iconst (-1), 1, 0, 0, 0, 0), (1, .istore_n 3, 1, 0, 0, 0, 0), (2, .aload_n 0, 1, 0, 0, 0, 0), (3, .getfield 122, 3, 10, 59, 2, 1560), (6, .iload_n 1, 1, 0, 0, 0, 0), 
  (7, .iaload, 1, 0, 0, 0, 0), (8, .iconst 1, 1, 0, 0, 0, 0), (9, .isub, 1, 0, 0, 0, 0), (10, .istore 4, 2, 0, 0, 0, 0), (12, .iload 4, 2, 0, 0, 0, 0), 
  (14, .ifCond .lt 61, 3, 0, 0, 0, 0), (17, .aload_n 0, 1, 0, 0, 0, 0), (18, .aload_n 0, 1, 0, 0, 0, 0), (19, .getfield 116, 3, 10, 57, 2, 1558), (22, .bipush 100, 2, 0, 0, 0, 0), 
  (24, .iload_n 1, 1, 0, 0, 0, 0), (25, .imul, 1, 0, 0, 0, 0), (26, .iload 4, 2, 0, 0, 0, 0), (28, .iadd, 1, 0, 0, 0, 0), (29, .iaload, 1, 0, 0, 0, 0), 
  (30, .invokevirtual 428, 3, 208, 2, 0, 1960), (33, .istore 5, 2, 0, 0, 0, 0), (35, .iload 5, 2, 0, 0, 0, 0), (37, .iload_n 2, 1, 0, 0, 0, 0), (38, .if_icmp .ge 31, 3, 0, 0, 0, 0), 
  (41, .iload_n 3, 1, 0, 0, 0, 0), (42, .iconst (-1), 1, 0, 0, 0, 0), (43, .if_icmp .eq 23, 3, 0, 0, 0, 0), (46, .iload 5, 2, 0, 0, 0, 0), (48, .aload_n 0, 1, 0, 0, 0, 0), 
  (49, .aload_n 0, 1, 0, 0, 0, 0), (50, .getfield 116, 3, 10, 57, 2, 1558), (53, .bipush 100, 2, 0, 0, 0, 0), (55, .iload_n 1, 1, 0, 0, 0, 0), (56, .imul, 1, 0, 0, 0, 0), 
  (57, .iload_n 3, 1, 0, 0, 0, 0), (58, .iadd, 1, 0, 0, 0, 0), (59, .iaload, 1, 0, 0, 0, 0), (60, .invokevirtual 428, 3, 208, 2, 0, 1960), (63, .if_icmp .ge 6, 3, 0, 0, 0, 0), 
  (66, .iload 4, 2, 0, 0, 0, 0), (68, .istore_n 3, 1, 0, 0, 0, 0), (69, .iinc 4 (-1), 3, 0, 0, 0, 0), (72, .goto (-60), 3, 0, 0, 0, 0), (75, .iload_n 3, 1, 0, 0, 0, 0), 
  (76, .ireturn, 1, 0, 0, 0, 0)]
/-- DropSwitchModel sizesBelow (II)I -/
noncomputable def cd_224 : List (Nat × Ent) := [
  (0, .iconst 0, 1, 0, 0, 0, 0), (1, .istore_n 3, 1, 0, 0, 0, 0), (2, .iconst 0, 1, 0, 0, 0, 0), (3, .istore 4, 2, 0, 0, 0, 0), (5, .iload 4, 2, 0, 0, 0, 0), 
  (7, .aload_n 0, 1, 0, 0, 0, 0), (8, .getfield 122, 3, 10, 59, 2, 1560), (11, .iload_n 1, 1, 0, 0, 0, 0), (12, .iaload, 1, 0, 0, 0, 0), (13, .if_icmp .ge 46, 3, 0, 0, 0, 0), 
  (16, .aload_n 0, 1, 0, 0, 0, 0), (17, .getfield 116, 3, 10, 57, 2, 1558), (20, .bipush 100, 2, 0, 0, 0, 0), (22, .iload_n 1, 1, 0, 0, 0, 0), (23, .imul, 1, 0, 0, 0, 0), 
  (24, .iload 4, 2, 0, 0, 0, 0), (26, .iadd, 1, 0, 0, 0, 0), (27, .iaload, 1, 0, 0, 0, 0), (28, .istore 5, 2, 0, 0, 0, 0), (30, .iload_n 3, 1, 0, 0, 0, 0), 
  (31, .aload_n 0, 1, 0, 0, 0, 0), (32, .iload 5, 2, 0, 0, 0, 0), (34, .invokevirtual 428, 3, 208, 2, 0, 1960), (37, .iload_n 2, 1, 0, 0, 0, 0), (38, .if_icmp .ge 12, 3, 0, 0, 0, 0), 
  (41, .aload_n 0, 1, 0, 0, 0, 0), (42, .iload 5, 2, 0, 0, 0, 0), (44, .invokevirtual 363, 3, 207, 2, 0, 1948), (47, .goto 4, 3, 0, 0, 0, 0), (50, .iconst 0, 1, 0, 0, 0, 0), 
  (51, .iadd, 1, 0, 0, 0, 0), (52, .istore_n 3, 1, 0, 0, 0, 0), (53, .iinc 4 1, 3, 0, 0, 0, 0), (56, .goto (-51), 3, 0, 0, 0, 0), (59, .iload_n 3, 1, 0, 0, 0, 0), 
  (60, .ireturn, 1, 0, 0, 0, 0)]
/-- DropSwitchModel puts (II)V -/
noncomputable def cd_225 : List (Nat × Ent) := [
  (0, .aload_n 0, 1, 0, 0, 0, 0), (1, .iload_n 2, 1, 0, 0, 0, 0), (2, .invokevirtual 363, 3, 207, 2, 0, 1948), (5, .istore_n 3, 1, 0, 0, 0, 0), (6, .aload_n 0, 1, 0, 0, 0, 0), 
  (7, .iload_n 2, 1, 0, 0, 0, 0), (8, .invokevirtual 428, 3, 208, 2, 0, 1960), (11, .istore 4, 2, 0, 0, 0, 0), (13, .aload_n 0, 1, 0, 0, 0, 0), 
  (14, .invokevirtual 431, 3, 210, 1, 0, 1964), (17, .iload_n 3, 1, 0, 0, 0, 0), (18, .iadd, 1, 0, 0, 0, 0), (19, .aload_n 0, 1, 0, 0, 0, 0), (20, .getfield 342, 3, 10, 50, 0, 1551), 
  (23, .if_icmp .le 13, 3, 0, 0, 0, 0), (26, .aload_n 0, 1, 0, 0, 0, 0), (27, .iload_n 2, 1, 0, 0, 0, 0), (28, .iload_n 1, 1, 0, 0, 0, 0), (29, .bipush 6, 2, 0, 0, 0, 0), 
  (31, .iconst (-1), 1, 0, 0, 0, 0), (32, .invokevirtual 405, 3, 211, 5, 0, 1925), (35, .return_, 1, 0, 0, 0, 0), (36, .aload_n 0, 1, 0, 0, 0, 0), (37, .iload_n 1, 1, 0, 0, 0, 0), 
  (38, .invokevirtual 366, 3, 209, 2, 0, 1968), (41, .iload_n 3, 1, 0, 0, 0, 0), (42, .iadd, 1, 0, 0, 0, 0), (43, .aload_n 0, 1, 0, 0, 0, 0), (44, .iload_n 1, 1, 0, 0, 0, 0), 
  (45, .iload 4, 2, 0, 0, 0, 0), (47, .invokevirtual 434, 3, 224, 3, 0, 1972), (50, .isub, 1, 0, 0, 0, 0), (51, .aload_n 0, 1, 0, 0, 0, 0), (52, .getfield 107, 3, 10, 49, 2, 1550), 
  (55, .iload_n 1, 1, 0, 0, 0, 0), (56, .iaload, 1, 0, 0, 0, 0), (57, .if_icmp .le 13, 3, 0, 0, 0, 0), (60, .aload_n 0, 1, 0, 0, 0, 0), (61, .iload_n 2, 1, 0, 0, 0, 0), 
  (62, .iload_n 1, 1, 0, 0, 0, 0), (63, .bipush 7, 2, 0, 0, 0, 0), (65, .iconst (-1), 1, 0, 0, 0, 0), (66, .invokevirtual 405, 3, 211, 5, 0, 1925), (69, .return_, 1, 0, 0, 0, 0), 
  (70, .aload_n 0, 1, 0, 0, 0, 0), (71, .iload_n 1, 1, 0, 0, 0, 0), (72, .invokevirtual 366, 3, 209, 2, 0, 1968), (75, .iload_n 3, 1, 0, 0, 0, 0), (76, .iadd, 1, 0, 0, 0, 0), 
  (77, .aload_n 0, 1, 0, 0, 0, 0), (78, .getfield 107, 3, 10, 49, 2, 1550), (81, .iload_n 1, 1, 0, 0, 0, 0), (82, .iaload, 1, 0, 0, 0, 0), (83, .if_icmp .le 26, 3, 0, 0, 0, 0), 
  (86, .aload_n 0, 1, 0, 0, 0, 0), (87, .aload_n 0, 1, 0, 0, 0, 0), (88, .iload_n 1, 1, 0, 0, 0, 0), (89, .aload_n 0, 1, 0, 0, 0, 0), (90, .iload_n 1, 1, 0, 0, 0, 0), 
  (91, .iload 4, 2, 0, 0, 0, 0), (93, .invokevirtual 437, 3, 223, 3, 0, 1976), (96, .invokevirtual 402, 3, 212, 3, 0, 1980), (99, .iload_n 1, 1, 0, 0, 0, 0), 
  (100, .bipush 8, 2, 0, 0, 0, 0), (102, .iload_n 2, 1, 0, 0, 0, 0), (103, .invokevirtual 405, 3, 211, 5, 0, 1925), (106, .goto (-36), 3, 0, 0, 0, 0), 
  (109, .aload_n 0, 1, 0, 0, 0, 0), (110, .getfield 116, 3, 10, 57, 2, 1558), (113, .bipush 100, 2, 0, 0, 0, 0), (115, .iload_n 1, 1, 0, 0, 0, 0), (116, .imul, 1, 0, 0, 0, 0), 
  (117, .aload_n 0, 1, 0, 0, 0, 0), (118, .getfield 122, 3, 10, 59, 2, 1560), (121, .iload_n 1, 1, 0, 0, 0, 0), (122, .iaload, 1, 0, 0, 0, 0), (123, .iadd, 1, 0, 0, 0, 0), 
  (124, .iload_n 2, 1, 0, 0, 0, 0), (125, .iastore, 1, 0, 0, 0, 0), (126, .aload_n 0, 1, 0, 0, 0, 0), (127, .getfield 119, 3, 10, 58, 2, 1559), (130, .bipush 100, 2, 0, 0, 0, 0), 
  (132, .iload_n 1, 1, 0, 0, 0, 0), (133, .imul, 1, 0, 0, 0, 0), (134, .aload_n 0, 1, 0, 0, 0, 0), (135, .getfield 122, 3, 10, 59, 2, 1560), (138, .iload_n 1, 1, 0, 0, 0, 0), 
  (139, .iaload, 1, 0, 0, 0, 0), (140, .iadd, 1, 0, 0, 0, 0), (141, .aload_n 0, 1, 0, 0, 0, 0), (142, .getfield 375, 3, 10, 55, 0, 1556), (145, .iastore, 1, 0, 0, 0, 0), 
  (146, .aload_n 0, 1, 0, 0, 0, 0), (147, .getfield 122, 3, 10, 59, 2, 1560), (150, .iload_n 1, 1, 0, 0, 0, 0), (151, .dup2, 1, 0, 0, 0, 0), (152, .iaload, 1, 0, 0, 0, 0), 
  (153, .iconst 1, 1, 0, 0, 0, 0), (154, .iadd, 1, 0, 0, 0, 0), (155, .iastore, 1, 0, 0, 0, 0), (156, .aload_n 0, 1, 0, 0, 0, 0), (157, .getfield 134, 3, 10, 63, 2, 1564), 
  (160, .iconst 4, 1, 0, 0, 0, 0), (161, .iload_n 2, 1, 0, 0, 0, 0), (162, .imul, 1, 0, 0, 0, 0), (163, .iload_n 1, 1, 0, 0, 0, 0), (164, .iadd, 1, 0, 0, 0, 0), 
  (165, .iconst 1, 1, 0, 0, 0, 0), (166, .iastore, 1, 0, 0, 0, 0), (167, .aload_n 0, 1, 0, 0, 0, 0), (168, .dup, 1, 0, 0, 0, 0), (169, .getfield 381, 3, 10, 68, 0, 1569), 
  (172, .iconst 1, 1, 0, 0, 0, 0), (173, .iadd, 1, 0, 0, 0, 0), (174, .putfield 381, 3, 10, 68, 0, 1569), (177, .return_, 1, 0, 0, 0, 0)]
/-- DropSwitchModel highest (I)I -/
noncomputable def cd_226 : List (Nat × Ent) := [
  (0, .iconst 0, 1, 0, 0, 0, 0), (1, .istore_n 2, 1, 0, 0, 0, 0), (2, .iconst 1, 1, 0, 0, 0, 0), (3, .istore_n 3, 1, 0, 0, 0, 0), (4, .iload_n 3, 1, 0, 0, 0, 0), 
  (5, .aload_n 0, 1, 0, 0, 0, 0), (6, .getfield 122, 3, 10, 59, 2, 1560), (9, .iload_n 1, 1, 0, 0, 0, 0), (10, .iaload, 1, 0, 0, 0, 0), (11, .if_icmp .ge 44, 3, 0, 0, 0, 0), 
  (14, .aload_n 0, 1, 0, 0, 0, 0), (15, .aload_n 0, 1, 0, 0, 0, 0), (16, .getfield 116, 3, 10, 57, 2, 1558), (19, .bipush 100, 2, 0, 0, 0, 0), (21, .iload_n 1, 1, 0, 0, 0, 0), 
  (22, .imul, 1, 0, 0, 0, 0), (23, .iload_n 3, 1, 0, 0, 0, 0), (24, .iadd, 1, 0, 0, 0, 0), (25, .iaload, 1, 0, 0, 0, 0), (26, .invokevirtual 428, 3, 208, 2, 0, 1960), 
  (29, .aload_n 0, 1, 0, 0, 0, 0), (30, .aload_n 0, 1, 0, 0, 0, 0), (31, .getfield 116, 3, 10, 57, 2, 1558), (34, .bipush 100, 2, 0, 0, 0, 0), (36, .iload_n 1, 1, 0, 0, 0, 0), 
  (37, .imul, 1, 0, 0, 0, 0), (38, .iload_n 2, 1, 0, 0, 0, 0), (39, .iadd, 1, 0, 0, 0, 0), (40, .iaload, 1, 0, 0, 0, 0), (41, .invokevirtual 428, 3, 208, 2, 0, 1960), 
  (44, .if_icmp .le 5, 3, 0, 0, 0, 0), (47, .iload_n 3, 1, 0, 0, 0, 0), (48, .istore_n 2, 1, 0, 0, 0, 0), (49, .iinc 3 1, 3, 0, 0, 0, 0), (52, .goto (-48), 3, 0, 0, 0, 0), 
  (55, .iload_n 2, 1, 0, 0, 0, 0), (56, .ireturn, 1, 0, 0, 0, 0)]
/-- DropSwitchModel ticks ()V -/
noncomputable def cd_227 : List (Nat × Ent) := [
  (0, .iconst 0, 1, 0, 0, 0, 0), (1, .istore_n 1, 1, 0, 0, 0, 0), (2, .iload_n 1, 1, 0, 0, 0, 0), (3, .aload_n 0, 1, 0, 0, 0, 0), (4, .getfield 324, 3, 10, 1, 0, 1502), 
  (7, .if_icmp .ge 85, 3, 0, 0, 0, 0), (10, .iconst 0, 1, 0, 0, 0, 0), (11, .istore_n 2, 1, 0, 0, 0, 0), (12, .iload_n 2, 1, 0, 0, 0, 0), (13, .aload_n 0, 1, 0, 0, 0, 0), 
  (14, .getfield 17, 3, 10, 4, 2, 1505), (17, .iload_n 1, 1, 0, 0, 0, 0), (18, .iaload, 1, 0, 0, 0, 0), (19, .if_icmp .ge 67, 3, 0, 0, 0, 0), (22, .aload_n 0, 1, 0, 0, 0, 0), 
  (23, .getfield 113, 3, 10, 56, 2, 1557), (26, .iload_n 1, 1, 0, 0, 0, 0), (27, .baload, 1, 0, 0, 0, 0), (28, .ifCond .eq 58, 3, 0, 0, 0, 0), (31, .aload_n 0, 1, 0, 0, 0, 0), 
  (32, .getfield 122, 3, 10, 59, 2, 1560), (35, .iload_n 1, 1, 0, 0, 0, 0), (36, .iaload, 1, 0, 0, 0, 0), (37, .ifCond .le 49, 3, 0, 0, 0, 0), (40, .aload_n 0, 1, 0, 0, 0, 0), 
  (41, .getfield 134, 3, 10, 63, 2, 1564), (44, .iconst 4, 1, 0, 0, 0, 0), (45, .aload_n 0, 1, 0, 0, 0, 0), (46, .iload_n 1, 1, 0, 0, 0, 0), (47, .aload_n 0, 1, 0, 0, 0, 0), 
  (48, .iload_n 1, 1, 0, 0, 0, 0), (49, .invokevirtual 440, 3, 226, 2, 0, 1988), (52, .invokevirtual 402, 3, 212, 3, 0, 1980), (55, .imul, 1, 0, 0, 0, 0), 
  (56, .iload_n 1, 1, 0, 0, 0, 0), (57, .iadd, 1, 0, 0, 0, 0), (58, .iconst 2, 1, 0, 0, 0, 0), (59, .iastore, 1, 0, 0, 0, 0), (60, .aload_n 0, 1, 0, 0, 0, 0), 
  (61, .getfield 137, 3, 10, 64, 2, 1565), (64, .iload_n 1, 1, 0, 0, 0, 0), (65, .dup2, 1, 0, 0, 0, 0), (66, .iaload, 1, 0, 0, 0, 0), (67, .iconst 1, 1, 0, 0, 0, 0), 
  (68, .iadd, 1, 0, 0, 0, 0), (69, .iastore, 1, 0, 0, 0, 0), (70, .aload_n 0, 1, 0, 0, 0, 0), (71, .dup, 1, 0, 0, 0, 0), (72, .getfield 384, 3, 10, 69, 0, 1570), 
  (75, .iconst 1, 1, 0, 0, 0, 0), (76, .iadd, 1, 0, 0, 0, 0), (77, .putfield 384, 3, 10, 69, 0, 1570), (80, .iinc 2 1, 3, 0, 0, 0, 0), (83, .goto (-71), 3, 0, 0, 0, 0), 
  (86, .iinc 1 1, 3, 0, 0, 0, 0), (89, .goto (-87), 3, 0, 0, 0, 0), (92, .iconst 0, 1, 0, 0, 0, 0), (93, .istore_n 1, 1, 0, 0, 0, 0), (94, .iload_n 1, 1, 0, 0, 0, 0), 
  (95, .aload_n 0, 1, 0, 0, 0, 0), (96, .getfield 324, 3, 10, 1, 0, 1502), (99, .if_icmp .ge 67, 3, 0, 0, 0, 0), (102, .iconst 0, 1, 0, 0, 0, 0), (103, .istore_n 2, 1, 0, 0, 0, 0), 
  (104, .iload_n 2, 1, 0, 0, 0, 0), (105, .aload_n 0, 1, 0, 0, 0, 0), (106, .getfield 122, 3, 10, 59, 2, 1560), (109, .iload_n 1, 1, 0, 0, 0, 0), (110, .iaload, 1, 0, 0, 0, 0), 
  (111, .if_icmp .ge 49, 3, 0, 0, 0, 0), (114, .aload_n 0, 1, 0, 0, 0, 0), (115, .getfield 375, 3, 10, 55, 0, 1556), (118, .aload_n 0, 1, 0, 0, 0, 0), 
  (119, .getfield 119, 3, 10, 58, 2, 1559), (122, .bipush 100, 2, 0, 0, 0, 0), (124, .iload_n 1, 1, 0, 0, 0, 0), (125, .imul, 1, 0, 0, 0, 0), (126, .iload_n 2, 1, 0, 0, 0, 0), 
  (127, .iadd, 1, 0, 0, 0, 0), (128, .iaload, 1, 0, 0, 0, 0), (129, .isub, 1, 0, 0, 0, 0), (130, .aload_n 0, 1, 0, 0, 0, 0), (131, .getfield 345, 3, 10, 51, 0, 1552), 
  (134, .if_icmp .lt 20, 3, 0, 0, 0, 0), (137, .aload_n 0, 1, 0, 0, 0, 0), (138, .aload_n 0, 1, 0, 0, 0, 0), (139, .iload_n 1, 1, 0, 0, 0, 0), (140, .iload_n 2, 1, 0, 0, 0, 0), 
  (141, .invokevirtual 402, 3, 212, 3, 0, 1980), (144, .iload_n 1, 1, 0, 0, 0, 0), (145, .bipush 9, 2, 0, 0, 0, 0), (147, .iconst (-1), 1, 0, 0, 0, 0), 
  (148, .invokevirtual 405, 3, 211, 5, 0, 1925), (151, .goto (-47), 3, 0, 0, 0, 0), (154, .iinc 2 1, 3, 0, 0, 0, 0), (157, .goto (-53), 3, 0, 0, 0, 0), 
  (160, .iinc 1 1, 3, 0, 0, 0, 0), (163, .goto (-69), 3, 0, 0, 0, 0), (166, .iconst 0, 1, 0, 0, 0, 0), (167, .istore_n 1, 1, 0, 0, 0, 0), (168, .iload_n 1, 1, 0, 0, 0, 0), 
  (169, .aload_n 0, 1, 0, 0, 0, 0), (170, .getfield 324, 3, 10, 1, 0, 1502), (173, .if_icmp .ge 63, 3, 0, 0, 0, 0), (176, .aload_n 0, 1, 0, 0, 0, 0), 
  (177, .getfield 125, 3, 10, 60, 2, 1561), (180, .iload_n 1, 1, 0, 0, 0, 0), (181, .iaload, 1, 0, 0, 0, 0), (182, .aload_n 0, 1, 0, 0, 0, 0), (183, .getfield 20, 3, 10, 5, 2, 1506), 
  (186, .iload_n 1, 1, 0, 0, 0, 0), (187, .iaload, 1, 0, 0, 0, 0), (188, .iadd, 1, 0, 0, 0, 0), (189, .istore_n 2, 1, 0, 0, 0, 0), (190, .aload_n 0, 1, 0, 0, 0, 0), 
  (191, .getfield 125, 3, 10, 60, 2, 1561), (194, .iload_n 1, 1, 0, 0, 0, 0), (195, .aload_n 0, 1, 0, 0, 0, 0), (196, .getfield 23, 3, 10, 6, 2, 1507), 
  (199, .iload_n 1, 1, 0, 0, 0, 0), (200, .iaload, 1, 0, 0, 0, 0), (201, .iconst (-1), 1, 0, 0, 0, 0), (202, .if_icmp .ne 7, 3, 0, 0, 0, 0), (205, .iconst (-1), 1, 0, 0, 0, 0), 
  (206, .goto 23, 3, 0, 0, 0, 0), (209, .iload_n 2, 1, 0, 0, 0, 0), (210, .aload_n 0, 1, 0, 0, 0, 0), (211, .getfield 23, 3, 10, 6, 2, 1507), (214, .iload_n 1, 1, 0, 0, 0, 0), 
  (215, .iaload, 1, 0, 0, 0, 0), (216, .if_icmp .le 12, 3, 0, 0, 0, 0), (219, .aload_n 0, 1, 0, 0, 0, 0), (220, .getfield 23, 3, 10, 6, 2, 1507), (223, .iload_n 1, 1, 0, 0, 0, 0), 
  (224, .iaload, 1, 0, 0, 0, 0), (225, .goto 4, 3, 0, 0, 0, 0), (228, .iload_n 2, 1, 0, 0, 0, 0), (229, .iastore, 1, 0, 0, 0, 0), (230, .iinc 1 1, 3, 0, 0, 0, 0), 
  (233, .goto (-65), 3, 0, 0, 0, 0), (236, .aload_n 0, 1, 0, 0, 0, 0), (237, .dup, 1, 0, 0, 0, 0), (238, .getfield 375, 3, 10, 55, 0, 1556), (241, .iconst 1, 1, 0, 0, 0, 0), 
  (242, .iadd, 1, 0, 0, 0, 0), (243, .putfield 375, 3, 10, 55, 0, 1556), (246, .return_, 1, 0, 0, 0, 0)]
/-- DropSwitchModel isPort (I)Z -/
noncomputable def cd_228 : List (Nat × Ent) := [
  (0, .iload_n 1, 1, 0, 0, 0, 0), (1, .iconst 0, 1, 0, 0, 0, 0), (2, .aload_n 0, 1, 0, 0, 0, 0), (3, .getfield 324, 3, 10, 1, 0, 1502), (6, .iconst 1, 1, 0, 0, 0, 0), 
  (7, .isub, 1, 0, 0, 0, 0), (8, .invokestatic 175, 3, 169, 3, 1, 1775), (11, .ireturn, 1, 0, 0, 1, 0)]
/-- DropSwitchModel isRule (I)Z -/
noncomputable def cd_229 : List (Nat × Ent) := [
  (0, .iload_n 1, 1, 0, 0, 0, 0), (1, .iconst 0, 1, 0, 0, 0, 0), (2, .aload_n 0, 1, 0, 0, 0, 0), (3, .getfield 327, 3, 10, 10, 0, 1511), (6, .iconst 1, 1, 0, 0, 0, 0), 
  (7, .isub, 1, 0, 0, 0, 0), (8, .invokestatic 175, 3, 169, 3, 1, 1775), (11, .ireturn, 1, 0, 0, 1, 0)]
/-- DropSwitchModel isPacket (I)Z -/
noncomputable def cd_230 : List (Nat × Ent) := [
  (0, .iload_n 1, 1, 0, 0, 0, 0), (1, .iconst 0, 1, 0, 0, 0, 0), (2, .aload_n 0, 1, 0, 0, 0, 0), (3, .getfield 333, 3, 10, 16, 0, 1517), (6, .iconst 1, 1, 0, 0, 0, 0), 
  (7, .isub, 1, 0, 0, 0, 0), (8, .invokestatic 175, 3, 169, 3, 1, 1775), (11, .ireturn, 1, 0, 0, 1, 0)]
/-- DropSwitchModel isEvent (I)Z -/
noncomputable def cd_231 : List (Nat × Ent) := [
  (0, .iload_n 1, 1, 0, 0, 0, 0), (1, .iconst 0, 1, 0, 0, 0, 0), (2, .aload_n 0, 1, 0, 0, 0, 0), (3, .getfield 330, 3, 10, 15, 0, 1516), (6, .iconst 1, 1, 0, 0, 0, 0), 
  (7, .isub, 1, 0, 0, 0, 0), (8, .invokestatic 175, 3, 169, 3, 1, 1775), (11, .ireturn, 1, 0, 0, 1, 0)]
/-- DropSwitchModel adds (IIIIII)V -/
noncomputable def cd_232 : List (Nat × Ent) := [
  (0, .bipush 7, 2, 0, 0, 0, 0), (2, .aload_n 0, 1, 0, 0, 0, 0), (3, .getfield 330, 3, 10, 15, 0, 1516), (6, .imul, 1, 0, 0, 0, 0), (7, .istore 7, 2, 0, 0, 0, 0), 
  (9, .aload_n 0, 1, 0, 0, 0, 0), (10, .getfield 49, 3, 10, 17, 2, 1518), (13, .iload 7, 2, 0, 0, 0, 0), (15, .iload_n 1, 1, 0, 0, 0, 0), (16, .iastore, 1, 0, 0, 0, 0), 
  (17, .aload_n 0, 1, 0, 0, 0, 0), (18, .getfield 49, 3, 10, 17, 2, 1518), (21, .iload 7, 2, 0, 0, 0, 0), (23, .iconst 1, 1, 0, 0, 0, 0), (24, .iadd, 1, 0, 0, 0, 0), 
  (25, .iload_n 2, 1, 0, 0, 0, 0), (26, .iastore, 1, 0, 0, 0, 0), (27, .aload_n 0, 1, 0, 0, 0, 0), (28, .getfield 49, 3, 10, 17, 2, 1518), (31, .iload 7, 2, 0, 0, 0, 0), 
  (33, .iconst 2, 1, 0, 0, 0, 0), (34, .iadd, 1, 0, 0, 0, 0), (35, .iload_n 3, 1, 0, 0, 0, 0), (36, .iastore, 1, 0, 0, 0, 0), (37, .aload_n 0, 1, 0, 0, 0, 0), 
  (38, .getfield 49, 3, 10, 17, 2, 1518), (41, .iload 7, 2, 0, 0, 0, 0), (43, .iconst 3, 1, 0, 0, 0, 0), (44, .iadd, 1, 0, 0, 0, 0), (45, .iload 4, 2, 0, 0, 0, 0), 
  (47, .iastore, 1, 0, 0, 0, 0), (48, .aload_n 0, 1, 0, 0, 0, 0), (49, .getfield 49, 3, 10, 17, 2, 1518), (52, .iload 7, 2, 0, 0, 0, 0), (54, .iconst 4, 1, 0, 0, 0, 0), 
  (55, .iadd, 1, 0, 0, 0, 0), (56, .iload 5, 2, 0, 0, 0, 0), (58, .iastore, 1, 0, 0, 0, 0), (59, .aload_n 0, 1, 0, 0, 0, 0), (60, .getfield 49, 3, 10, 17, 2, 1518), 
  (63, .iload 7, 2, 0, 0, 0, 0), (65, .iconst 5, 1, 0, 0, 0, 0), (66, .iadd, 1, 0, 0, 0, 0), (67, .iload 6, 2, 0, 0, 0, 0), (69, .iastore, 1, 0, 0, 0, 0), 
  (70, .aload_n 0, 1, 0, 0, 0, 0), (71, .getfield 49, 3, 10, 17, 2, 1518), (74, .iload 7, 2, 0, 0, 0, 0), (76, .bipush 6, 2, 0, 0, 0, 0), (78, .iadd, 1, 0, 0, 0, 0), 
  (79, .iload_n 1, 1, 0, 0, 0, 0), (80, .ifCond .ne 10, 3, 0, 0, 0, 0), (83, .aload_n 0, 1, 0, 0, 0, 0), (84, .getfield 333, 3, 10, 16, 0, 1517), (87, .goto 4, 3, 0, 0, 0, 0), 
  (90, .iconst (-1), 1, 0, 0, 0, 0), (91, .iastore, 1, 0, 0, 0, 0), (92, .iload_n 1, 1, 0, 0, 0, 0), (93, .ifCond .ne 26, 3, 0, 0, 0, 0), (96, .aload_n 0, 1, 0, 0, 0, 0), 
  (97, .getfield 52, 3, 10, 18, 2, 1519), (100, .aload_n 0, 1, 0, 0, 0, 0), (101, .getfield 333, 3, 10, 16, 0, 1517), (104, .aload_n 0, 1, 0, 0, 0, 0), 
  (105, .getfield 330, 3, 10, 15, 0, 1516), (108, .iastore, 1, 0, 0, 0, 0), (109, .aload_n 0, 1, 0, 0, 0, 0), (110, .dup, 1, 0, 0, 0, 0), (111, .getfield 333, 3, 10, 16, 0, 1517), 
  (114, .iconst 1, 1, 0, 0, 0, 0), (115, .iadd, 1, 0, 0, 0, 0), (116, .putfield 333, 3, 10, 16, 0, 1517), (119, .aload_n 0, 1, 0, 0, 0, 0), (120, .dup, 1, 0, 0, 0, 0), 
  (121, .getfield 330, 3, 10, 15, 0, 1516), (124, .iconst 1, 1, 0, 0, 0, 0), (125, .iadd, 1, 0, 0, 0, 0), (126, .putfield 330, 3, 10, 15, 0, 1516), (129, .aload_n 0, 1, 0, 0, 0, 0), 
  (130, .invokevirtual 443, 3, 215, 1, 0, 1897), (133, .return_, 1, 0, 0, 0, 0)]
/-- DropSwitchModel isAddress (I)Z -/
noncomputable def cd_233 : List (Nat × Ent) := [
  (0, .iload_n 0, 1, 0, 0, 0, 0), (1, .iconst 0, 1, 0, 0, 0, 0), (2, .bipush 63, 2, 0, 0, 0, 0), (4, .invokestatic 175, 3, 169, 3, 1, 1775), (7, .ireturn, 1, 0, 0, 1, 0)]
/-- DropSwitchModel arrive (IIIII)I -/
noncomputable def cd_234 : List (Nat × Ent) := [
  (0, .iload_n 2, 1, 0, 0, 0, 0), (1, .invokestatic 446, 3, 233, 1, 1, 1886), (4, .ifCond .eq 35, 3, 0, 0, 0, 0), (7, .iload_n 3, 1, 0, 0, 0, 0), 
  (8, .invokestatic 446, 3, 233, 1, 1, 1886), (11, .ifCond .eq 28, 3, 0, 0, 0, 0), (14, .iload 4, 2, 0, 0, 0, 0), (16, .iconst 1, 1, 0, 0, 0, 0), (17, .bipush 9, 2, 0, 0, 0, 0), 
  (19, .invokestatic 175, 3, 169, 3, 1, 1775), (22, .ifCond .eq 17, 3, 0, 0, 0, 0), (25, .iload 5, 2, 0, 0, 0, 0), (27, .iconst 0, 1, 0, 0, 0, 0), (28, .iconst 3, 1, 0, 0, 0, 0), 
  (29, .invokestatic 175, 3, 169, 3, 1, 1775), (32, .ifCond .eq 7, 3, 0, 0, 0, 0), (35, .iconst 1, 1, 0, 0, 0, 0), (36, .goto 4, 3, 0, 0, 0, 0), (39, .iconst 0, 1, 0, 0, 0, 0), 
  (40, .istore 6, 2, 0, 0, 0, 0), (42, .aload_n 0, 1, 0, 0, 0, 0), (43, .aload_n 0, 1, 0, 0, 0, 0), (44, .iload_n 1, 1, 0, 0, 0, 0), (45, .invokevirtual 449, 3, 228, 2, 0, 1889), 
  (48, .ifCond .ne 7, 3, 0, 0, 0, 0), (51, .iconst 1, 1, 0, 0, 0, 0), (52, .goto 26, 3, 0, 0, 0, 0), (55, .iload 6, 2, 0, 0, 0, 0), (57, .ifCond .ne 7, 3, 0, 0, 0, 0), 
  (60, .iconst 2, 1, 0, 0, 0, 0), (61, .goto 17, 3, 0, 0, 0, 0), (64, .aload_n 0, 1, 0, 0, 0, 0), (65, .getfield 330, 3, 10, 15, 0, 1516), (68, .bipush 120, 2, 0, 0, 0, 0), 
  (70, .if_icmp .ne 7, 3, 0, 0, 0, 0), (73, .iconst 3, 1, 0, 0, 0, 0), (74, .goto 4, 3, 0, 0, 0, 0), (77, .iconst 0, 1, 0, 0, 0, 0), (78, .putfield 152, 3, 10, 0, 0, 1501), 
  (81, .aload_n 0, 1, 0, 0, 0, 0), (82, .getfield 152, 3, 10, 0, 0, 1501), (85, .ifCond .le 5, 3, 0, 0, 0, 0), (88, .iconst 0, 1, 0, 0, 0, 0), (89, .ireturn, 1, 0, 0, 0, 0), 
  (90, .aload_n 0, 1, 0, 0, 0, 0), (91, .iconst 0, 1, 0, 0, 0, 0), (92, .iload_n 1, 1, 0, 0, 0, 0), (93, .iload_n 2, 1, 0, 0, 0, 0), (94, .iload_n 3, 1, 0, 0, 0, 0), 
  (95, .iload 4, 2, 0, 0, 0, 0), (97, .iload 5, 2, 0, 0, 0, 0), (99, .invokevirtual 452, 3, 232, 7, 0, 1893), (102, .aload_n 0, 1, 0, 0, 0, 0), 
  (103, .getfield 381, 3, 10, 68, 0, 1569), (106, .ireturn, 1, 0, 0, 0, 0)]
/-- DropSwitchModel tick ()I -/
noncomputable def cd_235 : List (Nat × Ent) := [
  (0, .aload_n 0, 1, 0, 0, 0, 0), (1, .aload_n 0, 1, 0, 0, 0, 0), (2, .getfield 330, 3, 10, 15, 0, 1516), (5, .bipush 120, 2, 0, 0, 0, 0), (7, .if_icmp .ne 7, 3, 0, 0, 0, 0), 
  (10, .iconst 1, 1, 0, 0, 0, 0), (11, .goto 4, 3, 0, 0, 0, 0), (14, .iconst 0, 1, 0, 0, 0, 0), (15, .putfield 152, 3, 10, 0, 0, 1501), (18, .aload_n 0, 1, 0, 0, 0, 0), 
  (19, .getfield 152, 3, 10, 0, 0, 1501), (22, .ifCond .le 5, 3, 0, 0, 0, 0), (25, .iconst 0, 1, 0, 0, 0, 0), (26, .ireturn, 1, 0, 0, 0, 0), (27, .aload_n 0, 1, 0, 0, 0, 0), 
  (28, .iconst 1, 1, 0, 0, 0, 0), (29, .iconst 0, 1, 0, 0, 0, 0), (30, .iconst 0, 1, 0, 0, 0, 0), (31, .iconst 0, 1, 0, 0, 0, 0), (32, .iconst 0, 1, 0, 0, 0, 0), 
  (33, .iconst 0, 1, 0, 0, 0, 0), (34, .invokevirtual 452, 3, 232, 7, 0, 1893), (37, .aload_n 0, 1, 0, 0, 0, 0), (38, .getfield 384, 3, 10, 69, 0, 1570), 
  (41, .ireturn, 1, 0, 0, 0, 0)]
/-- DropSwitchModel link (IZ)I -/
noncomputable def cd_236 : List (Nat × Ent) := [
  (0, .aload_n 0, 1, 0, 0, 0, 0), (1, .aload_n 0, 1, 0, 0, 0, 0), (2, .iload_n 1, 1, 0, 0, 0, 0), (3, .invokevirtual 449, 3, 228, 2, 0, 1889), (6, .ifCond .ne 7, 3, 0, 0, 0, 0), 
  (9, .iconst 1, 1, 0, 0, 0, 0), (10, .goto 17, 3, 0, 0, 0, 0), (13, .aload_n 0, 1, 0, 0, 0, 0), (14, .getfield 330, 3, 10, 15, 0, 1516), (17, .bipush 120, 2, 0, 0, 0, 0), 
  (19, .if_icmp .ne 7, 3, 0, 0, 0, 0), (22, .iconst 2, 1, 0, 0, 0, 0), (23, .goto 4, 3, 0, 0, 0, 0), (26, .iconst 0, 1, 0, 0, 0, 0), (27, .putfield 152, 3, 10, 0, 0, 1501), 
  (30, .aload_n 0, 1, 0, 0, 0, 0), (31, .getfield 152, 3, 10, 0, 0, 1501), (34, .ifCond .le 5, 3, 0, 0, 0, 0), (37, .iconst 0, 1, 0, 0, 0, 0), (38, .ireturn, 1, 0, 0, 0, 0), 
  (39, .aload_n 0, 1, 0, 0, 0, 0), (40, .invokevirtual 443, 3, 215, 1, 0, 1897), (43, .aload_n 0, 1, 0, 0, 0, 0), (44, .getfield 369, 3, 10, 66, 0, 1567), 
  (47, .istore_n 3, 1, 0, 0, 0, 0), (48, .aload_n 0, 1, 0, 0, 0, 0), (49, .iload_n 2, 1, 0, 0, 0, 0), (50, .ifCond .eq 7, 3, 0, 0, 0, 0), (53, .iconst 2, 1, 0, 0, 0, 0), 
  (54, .goto 4, 3, 0, 0, 0, 0), (57, .iconst 3, 1, 0, 0, 0, 0), (58, .iload_n 1, 1, 0, 0, 0, 0), (59, .iconst 0, 1, 0, 0, 0, 0), (60, .iconst 0, 1, 0, 0, 0, 0), 
  (61, .iconst 0, 1, 0, 0, 0, 0), (62, .iconst 0, 1, 0, 0, 0, 0), (63, .invokevirtual 452, 3, 232, 7, 0, 1893), (66, .aload_n 0, 1, 0, 0, 0, 0), 
  (67, .getfield 369, 3, 10, 66, 0, 1567), (70, .iload_n 3, 1, 0, 0, 0, 0), (71, .isub, 1, 0, 0, 0, 0), (72, .ireturn, 1, 0, 0, 0, 0)]
/-- DropSwitchModel rewind (I)I -/
noncomputable def cd_237 : List (Nat × Ent) := [
  (0, .aload_n 0, 1, 0, 0, 0, 0), (1, .iload_n 1, 1, 0, 0, 0, 0), (2, .iconst 0, 1, 0, 0, 0, 0), (3, .aload_n 0, 1, 0, 0, 0, 0), (4, .getfield 330, 3, 10, 15, 0, 1516), 
  (7, .invokestatic 175, 3, 169, 3, 1, 1775), (10, .ifCond .eq 7, 3, 0, 0, 0, 0), (13, .iconst 0, 1, 0, 0, 0, 0), (14, .goto 4, 3, 0, 0, 0, 0), (17, .iconst 1, 1, 0, 0, 0, 0), 
  (18, .putfield 152, 3, 10, 0, 0, 1501), (21, .aload_n 0, 1, 0, 0, 0, 0), (22, .getfield 152, 3, 10, 0, 0, 1501), (25, .ifCond .le 5, 3, 0, 0, 0, 0), (28, .iconst 0, 1, 0, 0, 0, 0), 
  (29, .ireturn, 1, 0, 0, 0, 0), (30, .aload_n 0, 1, 0, 0, 0, 0), (31, .iload_n 1, 1, 0, 0, 0, 0), (32, .putfield 330, 3, 10, 15, 0, 1516), (35, .aload_n 0, 1, 0, 0, 0, 0), 
  (36, .iconst 0, 1, 0, 0, 0, 0), (37, .putfield 333, 3, 10, 16, 0, 1517), (40, .iconst 0, 1, 0, 0, 0, 0), (41, .istore_n 2, 1, 0, 0, 0, 0), (42, .iload_n 2, 1, 0, 0, 0, 0), 
  (43, .aload_n 0, 1, 0, 0, 0, 0), (44, .getfield 330, 3, 10, 15, 0, 1516), (47, .if_icmp .ge 32, 3, 0, 0, 0, 0), (50, .aload_n 0, 1, 0, 0, 0, 0), (51, .dup, 1, 0, 0, 0, 0), 
  (52, .getfield 333, 3, 10, 16, 0, 1517), (55, .aload_n 0, 1, 0, 0, 0, 0), (56, .iload_n 2, 1, 0, 0, 0, 0), (57, .iconst 0, 1, 0, 0, 0, 0), 
  (58, .invokevirtual 357, 3, 205, 3, 0, 1917), (61, .ifCond .ne 7, 3, 0, 0, 0, 0), (64, .iconst 1, 1, 0, 0, 0, 0), (65, .goto 4, 3, 0, 0, 0, 0), (68, .iconst 0, 1, 0, 0, 0, 0), 
  (69, .iadd, 1, 0, 0, 0, 0), (70, .putfield 333, 3, 10, 16, 0, 1517), (73, .iinc 2 1, 3, 0, 0, 0, 0), (76, .goto (-34), 3, 0, 0, 0, 0), (79, .aload_n 0, 1, 0, 0, 0, 0), 
  (80, .invokevirtual 336, 3, 201, 1, 0, 1870), (83, .aload_n 0, 1, 0, 0, 0, 0), (84, .invokevirtual 443, 3, 215, 1, 0, 1897), (87, .aload_n 0, 1, 0, 0, 0, 0), 
  (88, .getfield 369, 3, 10, 66, 0, 1567), (91, .ireturn, 1, 0, 0, 0, 0)]
/-- DropSwitchModel count (I)I -/
noncomputable def cd_238 : List (Nat × Ent) := [
  (0, .aload_n 0, 1, 0, 0, 0, 0), (1, .iload_n 1, 1, 0, 0, 0, 0), (2, .iconst 0, 1, 0, 0, 0, 0), (3, .iconst 5, 1, 0, 0, 0, 0), (4, .invokestatic 175, 3, 169, 3, 1, 1775), 
  (7, .ifCond .eq 7, 3, 0, 0, 0, 0), (10, .iconst 0, 1, 0, 0, 0, 0), (11, .goto 4, 3, 0, 0, 0, 0), (14, .iconst 1, 1, 0, 0, 0, 0), (15, .putfield 152, 3, 10, 0, 0, 1501), 
  (18, .aload_n 0, 1, 0, 0, 0, 0), (19, .getfield 152, 3, 10, 0, 0, 1501), (22, .ifCond .le 5, 3, 0, 0, 0, 0), (25, .iconst 0, 1, 0, 0, 0, 0), (26, .ireturn, 1, 0, 0, 0, 0), 
  (27, .aload_n 0, 1, 0, 0, 0, 0), (28, .invokevirtual 443, 3, 215, 1, 0, 1897), (31, .iload_n 1, 1, 0, 0, 0, 0), (32, .ifCond .ne 10, 3, 0, 0, 0, 0), (35, .aload_n 0, 1, 0, 0, 0, 0), 
  (36, .getfield 324, 3, 10, 1, 0, 1502), (39, .goto 55, 3, 0, 0, 0, 0), (42, .iload_n 1, 1, 0, 0, 0, 0), (43, .iconst 1, 1, 0, 0, 0, 0), (44, .if_icmp .ne 10, 3, 0, 0, 0, 0), 
  (47, .aload_n 0, 1, 0, 0, 0, 0), (48, .getfield 327, 3, 10, 10, 0, 1511), (51, .goto 43, 3, 0, 0, 0, 0), (54, .iload_n 1, 1, 0, 0, 0, 0), (55, .iconst 2, 1, 0, 0, 0, 0), 
  (56, .if_icmp .ne 10, 3, 0, 0, 0, 0), (59, .aload_n 0, 1, 0, 0, 0, 0), (60, .getfield 330, 3, 10, 15, 0, 1516), (63, .goto 31, 3, 0, 0, 0, 0), (66, .iload_n 1, 1, 0, 0, 0, 0), 
  (67, .iconst 3, 1, 0, 0, 0, 0), (68, .if_icmp .ne 10, 3, 0, 0, 0, 0), (71, .aload_n 0, 1, 0, 0, 0, 0), (72, .getfield 333, 3, 10, 16, 0, 1517), (75, .goto 19, 3, 0, 0, 0, 0), 
  (78, .iload_n 1, 1, 0, 0, 0, 0), (79, .iconst 4, 1, 0, 0, 0, 0), (80, .if_icmp .ne 10, 3, 0, 0, 0, 0), (83, .aload_n 0, 1, 0, 0, 0, 0), (84, .getfield 369, 3, 10, 66, 0, 1567), 
  (87, .goto 7, 3, 0, 0, 0, 0), (90, .aload_n 0, 1, 0, 0, 0, 0), (91, .getfield 375, 3, 10, 55, 0, 1556), (94, .ireturn, 1, 0, 0, 0, 0)]
/-- DropSwitchModel eventKind (I)I -/
noncomputable def cd_239 : List (Nat × Ent) := [
  (0, .aload_n 0, 1, 0, 0, 0, 0), (1, .aload_n 0, 1, 0, 0, 0, 0), (2, .iload_n 1, 1, 0, 0, 0, 0), (3, .invokevirtual 456, 3, 231, 2, 0, 2016), (6, .ifCond .eq 7, 3, 0, 0, 0, 0), 
  (9, .iconst 0, 1, 0, 0, 0, 0), (10, .goto 4, 3, 0, 0, 0, 0), (13, .iconst 1, 1, 0, 0, 0, 0), (14, .putfield 152, 3, 10, 0, 0, 1501), (17, .aload_n 0, 1, 0, 0, 0, 0), 
  (18, .getfield 152, 3, 10, 0, 0, 1501), (21, .ifCond .le 7, 3, 0, 0, 0, 0), (24, .iconst 0, 1, 0, 0, 0, 0), (25, .goto 9, 3, 0, 0, 0, 0), (28, .aload_n 0, 1, 0, 0, 0, 0), 
  (29, .iload_n 1, 1, 0, 0, 0, 0), (30, .iconst 0, 1, 0, 0, 0, 0), (31, .invokevirtual 357, 3, 205, 3, 0, 1917), (34, .ireturn, 1, 0, 0, 0, 0)]
/-- DropSwitchModel packetOf (I)I -/
noncomputable def cd_240 : List (Nat × Ent) := [
  (0, .aload_n 0, 1, 0, 0, 0, 0), (1, .aload_n 0, 1, 0, 0, 0, 0), (2, .iload_n 1, 1, 0, 0, 0, 0), (3, .invokevirtual 456, 3, 231, 2, 0, 2016), (6, .ifCond .eq 7, 3, 0, 0, 0, 0), 
  (9, .iconst 0, 1, 0, 0, 0, 0), (10, .goto 4, 3, 0, 0, 0, 0), (13, .iconst 1, 1, 0, 0, 0, 0), (14, .putfield 152, 3, 10, 0, 0, 1501), (17, .aload_n 0, 1, 0, 0, 0, 0), 
  (18, .getfield 152, 3, 10, 0, 0, 1501), (21, .ifCond .le 7, 3, 0, 0, 0, 0), (24, .iconst 0, 1, 0, 0, 0, 0), (25, .goto 10, 3, 0, 0, 0, 0), (28, .aload_n 0, 1, 0, 0, 0, 0), 
  (29, .iload_n 1, 1, 0, 0, 0, 0), (30, .bipush 6, 2, 0, 0, 0, 0), (32, .invokevirtual 357, 3, 205, 3, 0, 1917), (35, .ireturn, 1, 0, 0, 0, 0)]
/-- DropSwitchModel arrivalOf (I)I -/
noncomputable def cd_241 : List (Nat × Ent) := [
  (0, .aload_n 0, 1, 0, 0, 0, 0), (1, .aload_n 0, 1, 0, 0, 0, 0), (2, .iload_n 1, 1, 0, 0, 0, 0), (3, .invokevirtual 459, 3, 230, 2, 0, 2028), (6, .ifCond .eq 7, 3, 0, 0, 0, 0), 
  (9, .iconst 0, 1, 0, 0, 0, 0), (10, .goto 4, 3, 0, 0, 0, 0), (13, .iconst 1, 1, 0, 0, 0, 0), (14, .putfield 152, 3, 10, 0, 0, 1501), (17, .aload_n 0, 1, 0, 0, 0, 0), 
  (18, .getfield 152, 3, 10, 0, 0, 1501), (21, .ifCond .le 7, 3, 0, 0, 0, 0), (24, .iconst 0, 1, 0, 0, 0, 0), (25, .goto 9, 3, 0, 0, 0, 0), (28, .aload_n 0, 1, 0, 0, 0, 0), 
  (29, .getfield 52, 3, 10, 18, 2, 1519), (32, .iload_n 1, 1, 0, 0, 0, 0), (33, .iaload, 1, 0, 0, 0, 0), (34, .ireturn, 1, 0, 0, 0, 0)]
/-- DropSwitchModel isGood (I)Z -/
noncomputable def cd_242 : List (Nat × Ent) := [
  (0, .aload_n 0, 1, 0, 0, 0, 0), (1, .aload_n 0, 1, 0, 0, 0, 0), (2, .iload_n 1, 1, 0, 0, 0, 0), (3, .invokevirtual 449, 3, 228, 2, 0, 1889), (6, .ifCond .eq 7, 3, 0, 0, 0, 0), 
  (9, .iconst 0, 1, 0, 0, 0, 0), (10, .goto 4, 3, 0, 0, 0, 0), (13, .iconst 1, 1, 0, 0, 0, 0), (14, .putfield 152, 3, 10, 0, 0, 1501), (17, .aload_n 0, 1, 0, 0, 0, 0), 
  (18, .getfield 152, 3, 10, 0, 0, 1501), (21, .ifCond .ne 7, 3, 0, 0, 0, 0), (24, .aload_n 0, 1, 0, 0, 0, 0), (25, .invokevirtual 443, 3, 215, 1, 0, 1897), 
  (28, .aload_n 0, 1, 0, 0, 0, 0), (29, .getfield 152, 3, 10, 0, 0, 1501), (32, .ifCond .ne 7, 3, 0, 0, 0, 0), (35, .iconst 1, 1, 0, 0, 0, 0), (36, .goto 4, 3, 0, 0, 0, 0), 
  (39, .iconst 0, 1, 0, 0, 0, 0), (40, .ireturn, 1, 0, 0, 1, 0)]
/-- DropSwitchModel fill (I)I -/
noncomputable def cd_243 : List (Nat × Ent) := [
  (0, .aload_n 0, 1, 0, 0, 0, 0), (1, .iload_n 1, 1, 0, 0, 0, 0), (2, .invokevirtual 462, 3, 242, 2, 0, 2036), (5, .ifCond .eq 11, 3, 0, 0, 0, 0), (8, .aload_n 0, 1, 0, 0, 0, 0), 
  (9, .iload_n 1, 1, 0, 0, 0, 0), (10, .invokevirtual 366, 3, 209, 2, 0, 1968), (13, .goto 4, 3, 0, 0, 0, 0), (16, .iconst 0, 1, 0, 0, 0, 0), (17, .ireturn, 1, 0, 0, 0, 0)]
/-- DropSwitchModel queueLength (I)I -/
noncomputable def cd_244 : List (Nat × Ent) := [
  (0, .aload_n 0, 1, 0, 0, 0, 0), (1, .iload_n 1, 1, 0, 0, 0, 0), (2, .invokevirtual 462, 3, 242, 2, 0, 2036), (5, .ifCond .eq 12, 3, 0, 0, 0, 0), (8, .aload_n 0, 1, 0, 0, 0, 0), 
  (9, .getfield 122, 3, 10, 59, 2, 1560), (12, .iload_n 1, 1, 0, 0, 0, 0), (13, .iaload, 1, 0, 0, 0, 0), (14, .goto 4, 3, 0, 0, 0, 0), (17, .iconst 0, 1, 0, 0, 0, 0), 
  (18, .ireturn, 1, 0, 0, 0, 0)]
/-- DropSwitchModel queued (II)I -/
noncomputable def cd_245 : List (Nat × Ent) := [
  (0, .aload_n 0, 1, 0, 0, 0, 0), (1, .iload_n 1, 1, 0, 0, 0, 0), (2, .invokevirtual 462, 3, 242, 2, 0, 2036), (5, .ifCond .ne 5, 3, 0, 0, 0, 0), (8, .iconst 0, 1, 0, 0, 0, 0), 
  (9, .ireturn, 1, 0, 0, 0, 0), (10, .iload_n 2, 1, 0, 0, 0, 0), (11, .iconst 0, 1, 0, 0, 0, 0), (12, .aload_n 0, 1, 0, 0, 0, 0), (13, .getfield 122, 3, 10, 59, 2, 1560), 
  (16, .iload_n 1, 1, 0, 0, 0, 0), (17, .iaload, 1, 0, 0, 0, 0), (18, .iconst 1, 1, 0, 0, 0, 0), (19, .isub, 1, 0, 0, 0, 0), (20, .invokestatic 175, 3, 169, 3, 1, 1775), 
  (23, .ifCond .eq 17, 3, 0, 0, 0, 0), (26, .aload_n 0, 1, 0, 0, 0, 0), (27, .getfield 116, 3, 10, 57, 2, 1558), (30, .bipush 100, 2, 0, 0, 0, 0), (32, .iload_n 1, 1, 0, 0, 0, 0), 
  (33, .imul, 1, 0, 0, 0, 0), (34, .iload_n 2, 1, 0, 0, 0, 0), (35, .iadd, 1, 0, 0, 0, 0), (36, .iaload, 1, 0, 0, 0, 0), (37, .goto 4, 3, 0, 0, 0, 0), 
  (40, .iconst (-1), 1, 0, 0, 0, 0), (41, .ireturn, 1, 0, 0, 0, 0)]
/-- DropSwitchModel isUp (I)Z -/
noncomputable def cd_246 : List (Nat × Ent) := [
  (0, .aload_n 0, 1, 0, 0, 0, 0), (1, .iload_n 1, 1, 0, 0, 0, 0), (2, .invokevirtual 462, 3, 242, 2, 0, 2036), (5, .ifCond .eq 16, 3, 0, 0, 0, 0), (8, .aload_n 0, 1, 0, 0, 0, 0), 
  (9, .getfield 113, 3, 10, 56, 2, 1557), (12, .iload_n 1, 1, 0, 0, 0, 0), (13, .baload, 1, 0, 0, 0, 0), (14, .ifCond .eq 7, 3, 0, 0, 0, 0), (17, .iconst 1, 1, 0, 0, 0, 0), 
  (18, .goto 4, 3, 0, 0, 0, 0), (21, .iconst 0, 1, 0, 0, 0, 0), (22, .ireturn, 1, 0, 0, 1, 0)]
/-- DropSwitchModel tokens (I)I -/
noncomputable def cd_247 : List (Nat × Ent) := [
  (0, .aload_n 0, 1, 0, 0, 0, 0), (1, .iload_n 1, 1, 0, 0, 0, 0), (2, .invokevirtual 462, 3, 242, 2, 0, 2036), (5, .ifCond .ne 5, 3, 0, 0, 0, 0), (8, .iconst 0, 1, 0, 0, 0, 0), 
  (9, .ireturn, 1, 0, 0, 0, 0), (10, .aload_n 0, 1, 0, 0, 0, 0), (11, .getfield 23, 3, 10, 6, 2, 1507), (14, .iload_n 1, 1, 0, 0, 0, 0), (15, .iaload, 1, 0, 0, 0, 0), 
  (16, .iconst (-1), 1, 0, 0, 0, 0), (17, .if_icmp .ne 7, 3, 0, 0, 0, 0), (20, .iconst (-1), 1, 0, 0, 0, 0), (21, .goto 9, 3, 0, 0, 0, 0), (24, .aload_n 0, 1, 0, 0, 0, 0), 
  (25, .getfield 125, 3, 10, 60, 2, 1561), (28, .iload_n 1, 1, 0, 0, 0, 0), (29, .iaload, 1, 0, 0, 0, 0), (30, .ireturn, 1, 0, 0, 0, 0)]
/-- DropSwitchModel portOf (I)I -/
noncomputable def cd_248 : List (Nat × Ent) := [
  (0, .aload_n 0, 1, 0, 0, 0, 0), (1, .iload_n 1, 1, 0, 0, 0, 0), (2, .invokestatic 446, 3, 233, 1, 1, 1886), (5, .ifCond .eq 7, 3, 0, 0, 0, 0), (8, .iconst 0, 1, 0, 0, 0, 0), 
  (9, .goto 4, 3, 0, 0, 0, 0), (12, .iconst 1, 1, 0, 0, 0, 0), (13, .putfield 152, 3, 10, 0, 0, 1501), (16, .aload_n 0, 1, 0, 0, 0, 0), (17, .getfield 152, 3, 10, 0, 0, 1501), 
  (20, .ifCond .le 5, 3, 0, 0, 0, 0), (23, .iconst 0, 1, 0, 0, 0, 0), (24, .ireturn, 1, 0, 0, 0, 0), (25, .aload_n 0, 1, 0, 0, 0, 0), (26, .invokevirtual 443, 3, 215, 1, 0, 1897), 
  (29, .aload_n 0, 1, 0, 0, 0, 0), (30, .iload_n 1, 1, 0, 0, 0, 0), (31, .invokevirtual 421, 3, 221, 2, 0, 1952), (34, .ifCond .eq 12, 3, 0, 0, 0, 0), (37, .aload_n 0, 1, 0, 0, 0, 0), 
  (38, .getfield 128, 3, 10, 61, 2, 1562), (41, .iload_n 1, 1, 0, 0, 0, 0), (42, .iaload, 1, 0, 0, 0, 0), (43, .goto 4, 3, 0, 0, 0, 0), (46, .iconst (-1), 1, 0, 0, 0, 0), 
  (47, .ireturn, 1, 0, 0, 0, 0)]
/-- DropSwitchModel tableSize ()I -/
noncomputable def cd_249 : List (Nat × Ent) := [
  (0, .aload_n 0, 1, 0, 0, 0, 0), (1, .iconst 0, 1, 0, 0, 0, 0), (2, .putfield 152, 3, 10, 0, 0, 1501), (5, .aload_n 0, 1, 0, 0, 0, 0), (6, .invokevirtual 443, 3, 215, 1, 0, 1897), 
  (9, .iconst 0, 1, 0, 0, 0, 0), (10, .istore_n 1, 1, 0, 0, 0, 0), (11, .iconst 0, 1, 0, 0, 0, 0), (12, .istore_n 2, 1, 0, 0, 0, 0), (13, .iload_n 2, 1, 0, 0, 0, 0), 
  (14, .bipush 64, 2, 0, 0, 0, 0), (16, .if_icmp .ge 25, 3, 0, 0, 0, 0), (19, .iload_n 1, 1, 0, 0, 0, 0), (20, .aload_n 0, 1, 0, 0, 0, 0), (21, .iload_n 2, 1, 0, 0, 0, 0), 
  (22, .invokevirtual 421, 3, 221, 2, 0, 1952), (25, .ifCond .eq 7, 3, 0, 0, 0, 0), (28, .iconst 1, 1, 0, 0, 0, 0), (29, .goto 4, 3, 0, 0, 0, 0), (32, .iconst 0, 1, 0, 0, 0, 0), 
  (33, .iadd, 1, 0, 0, 0, 0), (34, .istore_n 1, 1, 0, 0, 0, 0), (35, .iinc 2 1, 3, 0, 0, 0, 0), (38, .goto (-25), 3, 0, 0, 0, 0), (41, .iload_n 1, 1, 0, 0, 0, 0), 
  (42, .ireturn, 1, 0, 0, 0, 0)]
/-- DropSwitchModel delivered (I)I -/
noncomputable def cd_250 : List (Nat × Ent) := [
  (0, .aload_n 0, 1, 0, 0, 0, 0), (1, .iload_n 1, 1, 0, 0, 0, 0), (2, .invokevirtual 462, 3, 242, 2, 0, 2036), (5, .ifCond .eq 12, 3, 0, 0, 0, 0), (8, .aload_n 0, 1, 0, 0, 0, 0), 
  (9, .getfield 137, 3, 10, 64, 2, 1565), (12, .iload_n 1, 1, 0, 0, 0, 0), (13, .iaload, 1, 0, 0, 0, 0), (14, .goto 4, 3, 0, 0, 0, 0), (17, .iconst 0, 1, 0, 0, 0, 0), 
  (18, .ireturn, 1, 0, 0, 0, 0)]
/-- DropSwitchModel fate (II)I -/
noncomputable def cd_251 : List (Nat × Ent) := [
  (0, .aload_n 0, 1, 0, 0, 0, 0), (1, .aload_n 0, 1, 0, 0, 0, 0), (2, .iload_n 1, 1, 0, 0, 0, 0), (3, .invokevirtual 459, 3, 230, 2, 0, 2028), (6, .ifCond .eq 15, 3, 0, 0, 0, 0), 
  (9, .aload_n 0, 1, 0, 0, 0, 0), (10, .iload_n 2, 1, 0, 0, 0, 0), (11, .invokevirtual 449, 3, 228, 2, 0, 1889), (14, .ifCond .eq 7, 3, 0, 0, 0, 0), (17, .iconst 0, 1, 0, 0, 0, 0), 
  (18, .goto 4, 3, 0, 0, 0, 0), (21, .iconst 1, 1, 0, 0, 0, 0), (22, .putfield 152, 3, 10, 0, 0, 1501), (25, .aload_n 0, 1, 0, 0, 0, 0), (26, .getfield 152, 3, 10, 0, 0, 1501), 
  (29, .ifCond .le 5, 3, 0, 0, 0, 0), (32, .iconst 0, 1, 0, 0, 0, 0), (33, .ireturn, 1, 0, 0, 0, 0), (34, .aload_n 0, 1, 0, 0, 0, 0), (35, .invokevirtual 443, 3, 215, 1, 0, 1897), 
  (38, .aload_n 0, 1, 0, 0, 0, 0), (39, .getfield 134, 3, 10, 63, 2, 1564), (42, .iconst 4, 1, 0, 0, 0, 0), (43, .iload_n 1, 1, 0, 0, 0, 0), (44, .imul, 1, 0, 0, 0, 0), 
  (45, .iload_n 2, 1, 0, 0, 0, 0), (46, .iadd, 1, 0, 0, 0, 0), (47, .iaload, 1, 0, 0, 0, 0), (48, .ireturn, 1, 0, 0, 0, 0)]
/-- DropSwitchModel isDropNow (I)Z -/
noncomputable def cd_252 : List (Nat × Ent) := [
  (0, .aload_n 0, 1, 0, 0, 0, 0), (1, .invokevirtual 443, 3, 215, 1, 0, 1897), (4, .iload_n 1, 1, 0, 0, 0, 0), (5, .iconst 0, 1, 0, 0, 0, 0), (6, .aload_n 0, 1, 0, 0, 0, 0), 
  (7, .getfield 369, 3, 10, 66, 0, 1567), (10, .iconst 1, 1, 0, 0, 0, 0), (11, .isub, 1, 0, 0, 0, 0), (12, .invokestatic 175, 3, 169, 3, 1, 1775), (15, .ireturn, 1, 0, 0, 1, 0)]
/-- DropSwitchModel dropField (II)I -/
noncomputable def cd_253 : List (Nat × Ent) := [
  (0, .aload_n 0, 1, 0, 0, 0, 0), (1, .aload_n 0, 1, 0, 0, 0, 0), (2, .iload_n 1, 1, 0, 0, 0, 0), (3, .invokevirtual 465, 3, 252, 2, 0, 2076), (6, .ifCond .ne 7, 3, 0, 0, 0, 0), 
  (9, .iconst 1, 1, 0, 0, 0, 0), (10, .goto 17, 3, 0, 0, 0, 0), (13, .iload_n 2, 1, 0, 0, 0, 0), (14, .iconst 0, 1, 0, 0, 0, 0), (15, .iconst 4, 1, 0, 0, 0, 0), 
  (16, .invokestatic 175, 3, 169, 3, 1, 1775), (19, .ifCond .ne 7, 3, 0, 0, 0, 0), (22, .iconst 2, 1, 0, 0, 0, 0), (23, .goto 4, 3, 0, 0, 0, 0), (26, .iconst 0, 1, 0, 0, 0, 0), 
  (27, .putfield 152, 3, 10, 0, 0, 1501), (30, .aload_n 0, 1, 0, 0, 0, 0), (31, .getfield 152, 3, 10, 0, 0, 1501), (34, .ifCond .le 7, 3, 0, 0, 0, 0), (37, .iconst 0, 1, 0, 0, 0, 0), 
  (38, .goto 13, 3, 0, 0, 0, 0), (41, .aload_n 0, 1, 0, 0, 0, 0), (42, .getfield 140, 3, 10, 65, 2, 1566), (45, .iconst 5, 1, 0, 0, 0, 0), (46, .iload_n 1, 1, 0, 0, 0, 0), 
  (47, .iload_n 2, 1, 0, 0, 0, 0), (48, .invokestatic 468, 3, 204, 4, 1, 2080), (51, .ireturn, 1, 0, 0, 0, 0)]
/-- DropSwitchModel firstDrop (I)I -/
noncomputable def cd_254 : List (Nat × Ent) := [
  (0, .aload_n 0, 1, 0, 0, 0, 0), (1, .aload_n 0, 1, 0, 0, 0, 0), (2, .iload_n 1, 1, 0, 0, 0, 0), (3, .invokevirtual 459, 3, 230, 2, 0, 2028), (6, .ifCond .eq 7, 3, 0, 0, 0, 0), 
  (9, .iconst 0, 1, 0, 0, 0, 0), (10, .goto 4, 3, 0, 0, 0, 0), (13, .iconst 1, 1, 0, 0, 0, 0), (14, .putfield 152, 3, 10, 0, 0, 1501), (17, .aload_n 0, 1, 0, 0, 0, 0), 
  (18, .getfield 152, 3, 10, 0, 0, 1501), (21, .ifCond .le 5, 3, 0, 0, 0, 0), (24, .iconst 0, 1, 0, 0, 0, 0), (25, .ireturn, 1, 0, 0, 0, 0), (26, .aload_n 0, 1, 0, 0, 0, 0), 
  (27, .invokevirtual 443, 3, 215, 1, 0, 1897), (30, .iconst 0, 1, 0, 0, 0, 0), (31, .istore_n 2, 1, 0, 0, 0, 0), (32, .iload_n 2, 1, 0, 0, 0, 0), (33, .aload_n 0, 1, 0, 0, 0, 0), 
  (34, .getfield 369, 3, 10, 66, 0, 1567), (37, .if_icmp .ge 25, 3, 0, 0, 0, 0), (40, .aload_n 0, 1, 0, 0, 0, 0), (41, .getfield 140, 3, 10, 65, 2, 1566), 
  (44, .iconst 5, 1, 0, 0, 0, 0), (45, .iload_n 2, 1, 0, 0, 0, 0), (46, .iconst 1, 1, 0, 0, 0, 0), (47, .invokestatic 468, 3, 204, 4, 1, 2080), (50, .iload_n 1, 1, 0, 0, 0, 0), 
  (51, .if_icmp .ne 5, 3, 0, 0, 0, 0), (54, .iload_n 2, 1, 0, 0, 0, 0), (55, .ireturn, 1, 0, 0, 0, 0), (56, .iinc 2 1, 3, 0, 0, 0, 0), (59, .goto (-27), 3, 0, 0, 0, 0), 
  (62, .iconst (-1), 1, 0, 0, 0, 0), (63, .ireturn, 1, 0, 0, 0, 0)]
/-- DropSwitchModel dropsWith (II)I -/
noncomputable def cd_255 : List (Nat × Ent) := [
  (0, .iconst 0, 1, 0, 0, 0, 0), (1, .istore_n 3, 1, 0, 0, 0, 0), (2, .iconst 0, 1, 0, 0, 0, 0), (3, .istore 4, 2, 0, 0, 0, 0), (5, .iload 4, 2, 0, 0, 0, 0), 
  (7, .aload_n 0, 1, 0, 0, 0, 0), (8, .getfield 369, 3, 10, 66, 0, 1567), (11, .if_icmp .ge 64, 3, 0, 0, 0, 0), (14, .aload_n 0, 1, 0, 0, 0, 0), 
  (15, .getfield 140, 3, 10, 65, 2, 1566), (18, .iconst 5, 1, 0, 0, 0, 0), (19, .iload 4, 2, 0, 0, 0, 0), (21, .iconst 3, 1, 0, 0, 0, 0), (22, .invokestatic 468, 3, 204, 4, 1, 2080), 
  (25, .iload_n 1, 1, 0, 0, 0, 0), (26, .if_icmp .ne 27, 3, 0, 0, 0, 0), (29, .iload_n 2, 1, 0, 0, 0, 0), (30, .iconst (-1), 1, 0, 0, 0, 0), (31, .if_icmp .eq 18, 3, 0, 0, 0, 0), 
  (34, .aload_n 0, 1, 0, 0, 0, 0), (35, .getfield 140, 3, 10, 65, 2, 1566), (38, .iconst 5, 1, 0, 0, 0, 0), (39, .iload 4, 2, 0, 0, 0, 0), (41, .iconst 4, 1, 0, 0, 0, 0), 
  (42, .invokestatic 468, 3, 204, 4, 1, 2080), (45, .iload_n 2, 1, 0, 0, 0, 0), (46, .if_icmp .ne 7, 3, 0, 0, 0, 0), (49, .iconst 1, 1, 0, 0, 0, 0), (50, .goto 4, 3, 0, 0, 0, 0), 
  (53, .iconst 0, 1, 0, 0, 0, 0), (54, .istore 5, 2, 0, 0, 0, 0), (56, .iload_n 3, 1, 0, 0, 0, 0), (57, .iload 5, 2, 0, 0, 0, 0), (59, .ifCond .eq 7, 3, 0, 0, 0, 0), 
  (62, .iconst 1, 1, 0, 0, 0, 0), (63, .goto 4, 3, 0, 0, 0, 0), (66, .iconst 0, 1, 0, 0, 0, 0), (67, .iadd, 1, 0, 0, 0, 0), (68, .istore_n 3, 1, 0, 0, 0, 0), 
  (69, .iinc 4 1, 3, 0, 0, 0, 0), (72, .goto (-67), 3, 0, 0, 0, 0), (75, .iload_n 3, 1, 0, 0, 0, 0), (76, .ireturn, 1, 0, 0, 0, 0)]
/-- DropSwitchModel isCause (I)Z -/
noncomputable def cd_256 : List (Nat × Ent) := [
  (0, .iload_n 0, 1, 0, 0, 0, 0), (1, .iconst 1, 1, 0, 0, 0, 0), (2, .bipush 10, 2, 0, 0, 0, 0), (4, .invokestatic 175, 3, 169, 3, 1, 1775), (7, .ireturn, 1, 0, 0, 1, 0)]
/-- DropSwitchModel dropsBy (I)I -/
noncomputable def cd_257 : List (Nat × Ent) := [
  (0, .aload_n 0, 1, 0, 0, 0, 0), (1, .iload_n 1, 1, 0, 0, 0, 0), (2, .invokestatic 472, 3, 256, 1, 1, 2091), (5, .ifCond .eq 7, 3, 0, 0, 0, 0), (8, .iconst 0, 1, 0, 0, 0, 0), 
  (9, .goto 4, 3, 0, 0, 0, 0), (12, .iconst 1, 1, 0, 0, 0, 0), (13, .putfield 152, 3, 10, 0, 0, 1501), (16, .aload_n 0, 1, 0, 0, 0, 0), (17, .getfield 152, 3, 10, 0, 0, 1501), 
  (20, .ifCond .le 5, 3, 0, 0, 0, 0), (23, .iconst 0, 1, 0, 0, 0, 0), (24, .ireturn, 1, 0, 0, 0, 0), (25, .aload_n 0, 1, 0, 0, 0, 0), (26, .invokevirtual 443, 3, 215, 1, 0, 1897), 
  (29, .aload_n 0, 1, 0, 0, 0, 0), (30, .iload_n 1, 1, 0, 0, 0, 0), (31, .iconst (-1), 1, 0, 0, 0, 0), (32, .invokevirtual 475, 3, 255, 3, 0, 2094), (35, .ireturn, 1, 0, 0, 0, 0)]
/-- DropSwitchModel dropsByRule (I)I -/
noncomputable def cd_258 : List (Nat × Ent) := [
  (0, .aload_n 0, 1, 0, 0, 0, 0), (1, .aload_n 0, 1, 0, 0, 0, 0), (2, .iload_n 1, 1, 0, 0, 0, 0), (3, .invokevirtual 478, 3, 229, 2, 0, 2102), (6, .ifCond .eq 7, 3, 0, 0, 0, 0), 
  (9, .iconst 0, 1, 0, 0, 0, 0), (10, .goto 4, 3, 0, 0, 0, 0), (13, .iconst 1, 1, 0, 0, 0, 0), (14, .putfield 152, 3, 10, 0, 0, 1501), (17, .aload_n 0, 1, 0, 0, 0, 0), 
  (18, .getfield 152, 3, 10, 0, 0, 1501), (21, .ifCond .le 5, 3, 0, 0, 0, 0), (24, .iconst 0, 1, 0, 0, 0, 0), (25, .ireturn, 1, 0, 0, 0, 0), (26, .aload_n 0, 1, 0, 0, 0, 0), 
  (27, .invokevirtual 443, 3, 215, 1, 0, 1897), (30, .aload_n 0, 1, 0, 0, 0, 0), (31, .iconst 2, 1, 0, 0, 0, 0), (32, .iload_n 1, 1, 0, 0, 0, 0), 
  (33, .invokevirtual 475, 3, 255, 3, 0, 2094), (36, .ireturn, 1, 0, 0, 0, 0)]
/-- DropSwitchModel pushedBy (I)I -/
noncomputable def cd_259 : List (Nat × Ent) := [
  (0, .aload_n 0, 1, 0, 0, 0, 0), (1, .aload_n 0, 1, 0, 0, 0, 0), (2, .iload_n 1, 1, 0, 0, 0, 0), (3, .invokevirtual 459, 3, 230, 2, 0, 2028), (6, .ifCond .eq 7, 3, 0, 0, 0, 0), 
  (9, .iconst 0, 1, 0, 0, 0, 0), (10, .goto 4, 3, 0, 0, 0, 0), (13, .iconst 1, 1, 0, 0, 0, 0), (14, .putfield 152, 3, 10, 0, 0, 1501), (17, .aload_n 0, 1, 0, 0, 0, 0), 
  (18, .getfield 152, 3, 10, 0, 0, 1501), (21, .ifCond .le 5, 3, 0, 0, 0, 0), (24, .iconst 0, 1, 0, 0, 0, 0), (25, .ireturn, 1, 0, 0, 0, 0), (26, .aload_n 0, 1, 0, 0, 0, 0), 
  (27, .invokevirtual 443, 3, 215, 1, 0, 1897), (30, .aload_n 0, 1, 0, 0, 0, 0), (31, .bipush 8, 2, 0, 0, 0, 0), (33, .iload_n 1, 1, 0, 0, 0, 0), 
  (34, .invokevirtual 475, 3, 255, 3, 0, 2094), (37, .ireturn, 1, 0, 0, 0, 0)]
/-- DropSwitchModel checkpoints ()I -/
noncomputable def cd_260 : List (Nat × Ent) := [
  (0, .aload_n 0, 1, 0, 0, 0, 0), (1, .iconst 0, 1, 0, 0, 0, 0), (2, .putfield 152, 3, 10, 0, 0, 1501), (5, .aload_n 0, 1, 0, 0, 0, 0), (6, .getfield 330, 3, 10, 15, 0, 1516), 
  (9, .bipush 16, 2, 0, 0, 0, 0), (11, .iadd, 1, 0, 0, 0, 0), (12, .iconst 1, 1, 0, 0, 0, 0), (13, .isub, 1, 0, 0, 0, 0), (14, .bipush 16, 2, 0, 0, 0, 0), (16, .idiv, 1, 0, 0, 0, 0), 
  (17, .ireturn, 1, 0, 0, 0, 0)]
/-- DropSwitchModel isMoment (I)Z -/
noncomputable def cd_261 : List (Nat × Ent) := [
  (0, .iload_n 1, 1, 0, 0, 0, 0), (1, .iconst 0, 1, 0, 0, 0, 0), (2, .aload_n 0, 1, 0, 0, 0, 0), (3, .getfield 330, 3, 10, 15, 0, 1516), (6, .invokestatic 175, 3, 169, 3, 1, 1775), 
  (9, .ireturn, 1, 0, 0, 1, 0)]
/-- DropSwitchModel repeats (I)I -/
noncomputable def cd_262 : List (Nat × Ent) := [
  (0, .aload_n 0, 1, 0, 0, 0, 0), (1, .aload_n 0, 1, 0, 0, 0, 0), (2, .iload_n 1, 1, 0, 0, 0, 0), (3, .invokevirtual 481, 3, 261, 2, 0, 2118), (6, .ifCond .eq 7, 3, 0, 0, 0, 0), 
  (9, .iconst 0, 1, 0, 0, 0, 0), (10, .goto 4, 3, 0, 0, 0, 0), (13, .iconst 1, 1, 0, 0, 0, 0), (14, .putfield 152, 3, 10, 0, 0, 1501), (17, .aload_n 0, 1, 0, 0, 0, 0), 
  (18, .getfield 152, 3, 10, 0, 0, 1501), (21, .ifCond .gt 7, 3, 0, 0, 0, 0), (24, .iload_n 1, 1, 0, 0, 0, 0), (25, .ifCond .ne 5, 3, 0, 0, 0, 0), (28, .iconst 0, 1, 0, 0, 0, 0), 
  (29, .ireturn, 1, 0, 0, 0, 0), (30, .iload_n 1, 1, 0, 0, 0, 0), (31, .aload_n 0, 1, 0, 0, 0, 0), (32, .getfield 330, 3, 10, 15, 0, 1516), (35, .if_icmp .ne 14, 3, 0, 0, 0, 0), 
  (38, .iload_n 1, 1, 0, 0, 0, 0), (39, .iconst 1, 1, 0, 0, 0, 0), (40, .isub, 1, 0, 0, 0, 0), (41, .bipush 16, 2, 0, 0, 0, 0), (43, .irem, 1, 0, 0, 0, 0), 
  (44, .iconst 1, 1, 0, 0, 0, 0), (45, .iadd, 1, 0, 0, 0, 0), (46, .goto 7, 3, 0, 0, 0, 0), (49, .iload_n 1, 1, 0, 0, 0, 0), (50, .bipush 16, 2, 0, 0, 0, 0), 
  (52, .irem, 1, 0, 0, 0, 0), (53, .ireturn, 1, 0, 0, 0, 0)]
/-- DropSwitchModel fillAt (II)I -/
noncomputable def cd_263 : List (Nat × Ent) := [
  (0, .aload_n 0, 1, 0, 0, 0, 0), (1, .aload_n 0, 1, 0, 0, 0, 0), (2, .iload_n 1, 1, 0, 0, 0, 0), (3, .invokevirtual 481, 3, 261, 2, 0, 2118), (6, .ifCond .eq 15, 3, 0, 0, 0, 0), 
  (9, .aload_n 0, 1, 0, 0, 0, 0), (10, .iload_n 2, 1, 0, 0, 0, 0), (11, .invokevirtual 449, 3, 228, 2, 0, 1889), (14, .ifCond .eq 7, 3, 0, 0, 0, 0), (17, .iconst 0, 1, 0, 0, 0, 0), 
  (18, .goto 4, 3, 0, 0, 0, 0), (21, .iconst 1, 1, 0, 0, 0, 0), (22, .putfield 152, 3, 10, 0, 0, 1501), (25, .aload_n 0, 1, 0, 0, 0, 0), (26, .getfield 152, 3, 10, 0, 0, 1501), 
  (29, .ifCond .le 5, 3, 0, 0, 0, 0), (32, .iconst 0, 1, 0, 0, 0, 0), (33, .ireturn, 1, 0, 0, 0, 0), (34, .aload_n 0, 1, 0, 0, 0, 0), (35, .invokevirtual 354, 3, 202, 1, 0, 1901), 
  (38, .aload_n 0, 1, 0, 0, 0, 0), (39, .iload_n 1, 1, 0, 0, 0, 0), (40, .invokevirtual 390, 3, 214, 2, 0, 1905), (43, .aload_n 0, 1, 0, 0, 0, 0), (44, .iload_n 2, 1, 0, 0, 0, 0), 
  (45, .invokevirtual 366, 3, 209, 2, 0, 1968), (48, .ireturn, 1, 0, 0, 0, 0)]
/-- DropSwitchModel portAt (II)I -/
noncomputable def cd_264 : List (Nat × Ent) := [
  (0, .aload_n 0, 1, 0, 0, 0, 0), (1, .aload_n 0, 1, 0, 0, 0, 0), (2, .iload_n 1, 1, 0, 0, 0, 0), (3, .invokevirtual 481, 3, 261, 2, 0, 2118), (6, .ifCond .ne 7, 3, 0, 0, 0, 0), 
  (9, .iconst 1, 1, 0, 0, 0, 0), (10, .goto 15, 3, 0, 0, 0, 0), (13, .iload_n 2, 1, 0, 0, 0, 0), (14, .invokestatic 446, 3, 233, 1, 1, 1886), (17, .ifCond .ne 7, 3, 0, 0, 0, 0), 
  (20, .iconst 2, 1, 0, 0, 0, 0), (21, .goto 4, 3, 0, 0, 0, 0), (24, .iconst 0, 1, 0, 0, 0, 0), (25, .putfield 152, 3, 10, 0, 0, 1501), (28, .aload_n 0, 1, 0, 0, 0, 0), 
  (29, .getfield 152, 3, 10, 0, 0, 1501), (32, .ifCond .le 5, 3, 0, 0, 0, 0), (35, .iconst 0, 1, 0, 0, 0, 0), (36, .ireturn, 1, 0, 0, 0, 0), (37, .aload_n 0, 1, 0, 0, 0, 0), 
  (38, .invokevirtual 354, 3, 202, 1, 0, 1901), (41, .aload_n 0, 1, 0, 0, 0, 0), (42, .iload_n 1, 1, 0, 0, 0, 0), (43, .invokevirtual 390, 3, 214, 2, 0, 1905), 
  (46, .aload_n 0, 1, 0, 0, 0, 0), (47, .iload_n 2, 1, 0, 0, 0, 0), (48, .invokevirtual 421, 3, 221, 2, 0, 1952), (51, .ifCond .eq 12, 3, 0, 0, 0, 0), (54, .aload_n 0, 1, 0, 0, 0, 0), 
  (55, .getfield 128, 3, 10, 61, 2, 1562), (58, .iload_n 2, 1, 0, 0, 0, 0), (59, .iaload, 1, 0, 0, 0, 0), (60, .goto 4, 3, 0, 0, 0, 0), (63, .iconst (-1), 1, 0, 0, 0, 0), 
  (64, .ireturn, 1, 0, 0, 0, 0)]
/-- DropSwitchModel peak (I)I -/
noncomputable def cd_265 : List (Nat × Ent) := [
  (0, .aload_n 0, 1, 0, 0, 0, 0), (1, .aload_n 0, 1, 0, 0, 0, 0), (2, .iload_n 1, 1, 0, 0, 0, 0), (3, .invokevirtual 449, 3, 228, 2, 0, 1889), (6, .ifCond .eq 7, 3, 0, 0, 0, 0), 
  (9, .iconst 0, 1, 0, 0, 0, 0), (10, .goto 4, 3, 0, 0, 0, 0), (13, .iconst 1, 1, 0, 0, 0, 0), (14, .putfield 152, 3, 10, 0, 0, 1501), (17, .aload_n 0, 1, 0, 0, 0, 0), 
  (18, .getfield 152, 3, 10, 0, 0, 1501), (21, .ifCond .le 5, 3, 0, 0, 0, 0), (24, .iconst 0, 1, 0, 0, 0, 0), (25, .ireturn, 1, 0, 0, 0, 0), (26, .iconst (-1), 1, 0, 0, 0, 0), 
  (27, .istore_n 2, 1, 0, 0, 0, 0), (28, .iconst 0, 1, 0, 0, 0, 0), (29, .istore_n 3, 1, 0, 0, 0, 0), (30, .aload_n 0, 1, 0, 0, 0, 0), (31, .invokevirtual 354, 3, 202, 1, 0, 1901), 
  (34, .aload_n 0, 1, 0, 0, 0, 0), (35, .invokevirtual 378, 3, 213, 1, 0, 1909), (38, .iconst 0, 1, 0, 0, 0, 0), (39, .istore 4, 2, 0, 0, 0, 0), (41, .iload 4, 2, 0, 0, 0, 0), 
  (43, .aload_n 0, 1, 0, 0, 0, 0), (44, .getfield 330, 3, 10, 15, 0, 1516), (47, .if_icmp .ge 39, 3, 0, 0, 0, 0), (50, .aload_n 0, 1, 0, 0, 0, 0), (51, .iload 4, 2, 0, 0, 0, 0), 
  (53, .putfield 372, 3, 10, 67, 0, 1568), (56, .aload_n 0, 1, 0, 0, 0, 0), (57, .iload 4, 2, 0, 0, 0, 0), (59, .invokevirtual 387, 3, 216, 2, 0, 1913), 
  (62, .aload_n 0, 1, 0, 0, 0, 0), (63, .iload_n 1, 1, 0, 0, 0, 0), (64, .invokevirtual 366, 3, 209, 2, 0, 1968), (67, .iload_n 3, 1, 0, 0, 0, 0), 
  (68, .if_icmp .le 12, 3, 0, 0, 0, 0), (71, .iload 4, 2, 0, 0, 0, 0), (73, .istore_n 2, 1, 0, 0, 0, 0), (74, .aload_n 0, 1, 0, 0, 0, 0), (75, .iload_n 1, 1, 0, 0, 0, 0), 
  (76, .invokevirtual 366, 3, 209, 2, 0, 1968), (79, .istore_n 3, 1, 0, 0, 0, 0), (80, .iinc 4 1, 3, 0, 0, 0, 0), (83, .goto (-42), 3, 0, 0, 0, 0), (86, .iload_n 2, 1, 0, 0, 0, 0), 
  (87, .ireturn, 1, 0, 0, 0, 0)]
/-- DropSwitchModel settings ()I -/
noncomputable def cd_266 : List (Nat × Ent) := [
  (0, .aload_n 0, 1, 0, 0, 0, 0), (1, .getfield 95, 3, 10, 44, 0, 1545), (4, .iconst (-1), 1, 0, 0, 0, 0), (5, .if_icmp .ne 7, 3, 0, 0, 0, 0), (8, .iconst 0, 1, 0, 0, 0, 0), 
  (9, .goto 4, 3, 0, 0, 0, 0), (12, .iconst 1, 1, 0, 0, 0, 0), (13, .aload_n 0, 1, 0, 0, 0, 0), (14, .getfield 98, 3, 10, 45, 0, 1546), (17, .iconst (-1), 1, 0, 0, 0, 0), 
  (18, .if_icmp .ne 7, 3, 0, 0, 0, 0), (21, .iconst 0, 1, 0, 0, 0, 0), (22, .goto 4, 3, 0, 0, 0, 0), (25, .iconst 1, 1, 0, 0, 0, 0), (26, .iadd, 1, 0, 0, 0, 0), 
  (27, .aload_n 0, 1, 0, 0, 0, 0), (28, .getfield 101, 3, 10, 46, 0, 1547), (31, .iconst (-1), 1, 0, 0, 0, 0), (32, .if_icmp .ne 7, 3, 0, 0, 0, 0), (35, .iconst 0, 1, 0, 0, 0, 0), 
  (36, .goto 4, 3, 0, 0, 0, 0), (39, .iconst 1, 1, 0, 0, 0, 0), (40, .iadd, 1, 0, 0, 0, 0), (41, .istore_n 1, 1, 0, 0, 0, 0), (42, .iconst 0, 1, 0, 0, 0, 0), 
  (43, .istore_n 2, 1, 0, 0, 0, 0), (44, .iload_n 2, 1, 0, 0, 0, 0), (45, .iconst 4, 1, 0, 0, 0, 0), (46, .if_icmp .ge 27, 3, 0, 0, 0, 0), (49, .iload_n 1, 1, 0, 0, 0, 0), 
  (50, .aload_n 0, 1, 0, 0, 0, 0), (51, .getfield 92, 3, 10, 43, 2, 1544), (54, .iload_n 2, 1, 0, 0, 0, 0), (55, .iaload, 1, 0, 0, 0, 0), (56, .iconst (-1), 1, 0, 0, 0, 0), 
  (57, .if_icmp .ne 7, 3, 0, 0, 0, 0), (60, .iconst 0, 1, 0, 0, 0, 0), (61, .goto 4, 3, 0, 0, 0, 0), (64, .iconst 1, 1, 0, 0, 0, 0), (65, .iadd, 1, 0, 0, 0, 0), 
  (66, .istore_n 1, 1, 0, 0, 0, 0), (67, .iinc 2 1, 3, 0, 0, 0, 0), (70, .goto (-26), 3, 0, 0, 0, 0), (73, .iconst 0, 1, 0, 0, 0, 0), (74, .istore_n 2, 1, 0, 0, 0, 0), 
  (75, .iload_n 2, 1, 0, 0, 0, 0), (76, .bipush 8, 2, 0, 0, 0, 0), (78, .if_icmp .ge 20, 3, 0, 0, 0, 0), (81, .iload_n 1, 1, 0, 0, 0, 0), (82, .aload_n 0, 1, 0, 0, 0, 0), 
  (83, .getfield 339, 3, 10, 47, 0, 1548), (86, .iload_n 2, 1, 0, 0, 0, 0), (87, .ishr, 1, 0, 0, 0, 0), (88, .iconst 1, 1, 0, 0, 0, 0), (89, .iand, 1, 0, 0, 0, 0), 
  (90, .iadd, 1, 0, 0, 0, 0), (91, .istore_n 1, 1, 0, 0, 0, 0), (92, .iinc 2 1, 3, 0, 0, 0, 0), (95, .goto (-20), 3, 0, 0, 0, 0), (98, .iload_n 1, 1, 0, 0, 0, 0), 
  (99, .ireturn, 1, 0, 0, 0, 0)]
/-- DropSwitchModel isValue (II)Z -/
noncomputable def cd_267 : List (Nat × Ent) := [
  (0, .iload_n 0, 1, 0, 0, 0, 0), (1, .tableswitch 57 0 3 #[31, 39, 31, 48], 31, 0, 0, 0, 0), (32, .iload_n 1, 1, 0, 0, 0, 0), (33, .iconst 1, 1, 0, 0, 0, 0), 
  (34, .bipush 99, 2, 0, 0, 0, 0), (36, .invokestatic 175, 3, 169, 3, 1, 1775), (39, .ireturn, 1, 0, 0, 1, 0), (40, .iload_n 1, 1, 0, 0, 0, 0), (41, .iconst 1, 1, 0, 0, 0, 0), 
  (42, .sipush 400, 3, 0, 0, 0, 0), (45, .invokestatic 175, 3, 169, 3, 1, 1775), (48, .ireturn, 1, 0, 0, 1, 0), (49, .iload_n 1, 1, 0, 0, 0, 0), (50, .iconst 0, 1, 0, 0, 0, 0), 
  (51, .sipush 999, 3, 0, 0, 0, 0), (54, .invokestatic 175, 3, 169, 3, 1, 1775), (57, .ireturn, 1, 0, 0, 1, 0), (58, .iconst 1, 1, 0, 0, 0, 0), (59, .ireturn, 1, 0, 0, 1, 0)]
/-- DropSwitchModel suppose (III)I -/
noncomputable def cd_268 : List (Nat × Ent) := [
  (0, .iload_n 1, 1, 0, 0, 0, 0), (1, .ifCond .ne 11, 3, 0, 0, 0, 0), (4, .aload_n 0, 1, 0, 0, 0, 0), (5, .iload_n 2, 1, 0, 0, 0, 0), (6, .invokevirtual 449, 3, 228, 2, 0, 1889), 
  (9, .goto 21, 3, 0, 0, 0, 0), (12, .iload_n 1, 1, 0, 0, 0, 0), (13, .iconst 4, 1, 0, 0, 0, 0), (14, .if_icmp .ne 11, 3, 0, 0, 0, 0), (17, .aload_n 0, 1, 0, 0, 0, 0), 
  (18, .iload_n 2, 1, 0, 0, 0, 0), (19, .invokevirtual 478, 3, 229, 2, 0, 2102), (22, .ifCond .eq 7, 3, 0, 0, 0, 0), (25, .iconst 1, 1, 0, 0, 0, 0), (26, .goto 4, 3, 0, 0, 0, 0), 
  (29, .iconst 0, 1, 0, 0, 0, 0), (30, .istore 4, 2, 0, 0, 0, 0), (32, .aload_n 0, 1, 0, 0, 0, 0), (33, .iload_n 1, 1, 0, 0, 0, 0), (34, .iconst 0, 1, 0, 0, 0, 0), 
  (35, .iconst 4, 1, 0, 0, 0, 0), (36, .invokestatic 175, 3, 169, 3, 1, 1775), (39, .ifCond .ne 7, 3, 0, 0, 0, 0), (42, .iconst 1, 1, 0, 0, 0, 0), (43, .goto 25, 3, 0, 0, 0, 0), 
  (46, .iload 4, 2, 0, 0, 0, 0), (48, .ifCond .ne 7, 3, 0, 0, 0, 0), (51, .iconst 2, 1, 0, 0, 0, 0), (52, .goto 16, 3, 0, 0, 0, 0), (55, .iload_n 1, 1, 0, 0, 0, 0), 
  (56, .iload_n 3, 1, 0, 0, 0, 0), (57, .invokestatic 484, 3, 267, 2, 1, 2138), (60, .ifCond .ne 7, 3, 0, 0, 0, 0), (63, .iconst 3, 1, 0, 0, 0, 0), (64, .goto 4, 3, 0, 0, 0, 0), 
  (67, .iconst 0, 1, 0, 0, 0, 0), (68, .putfield 152, 3, 10, 0, 0, 1501), (71, .aload_n 0, 1, 0, 0, 0, 0), (72, .getfield 152, 3, 10, 0, 0, 1501), (75, .ifCond .le 5, 3, 0, 0, 0, 0), 
  (78, .iconst 0, 1, 0, 0, 0, 0), (79, .ireturn, 1, 0, 0, 0, 0), (80, .iload_n 1, 1, 0, 0, 0, 0), (81, .tableswitch 65 0 3 #[31, 41, 49, 57], 31, 0, 0, 0, 0), 
  (112, .aload_n 0, 1, 0, 0, 0, 0), (113, .getfield 92, 3, 10, 43, 2, 1544), (116, .iload_n 2, 1, 0, 0, 0, 0), (117, .iload_n 3, 1, 0, 0, 0, 0), (118, .iastore, 1, 0, 0, 0, 0), 
  (119, .goto 39, 3, 0, 0, 0, 0), (122, .aload_n 0, 1, 0, 0, 0, 0), (123, .iload_n 3, 1, 0, 0, 0, 0), (124, .putfield 95, 3, 10, 44, 0, 1545), (127, .goto 31, 3, 0, 0, 0, 0), 
  (130, .aload_n 0, 1, 0, 0, 0, 0), (131, .iload_n 3, 1, 0, 0, 0, 0), (132, .putfield 98, 3, 10, 45, 0, 1546), (135, .goto 23, 3, 0, 0, 0, 0), (138, .aload_n 0, 1, 0, 0, 0, 0), 
  (139, .iload_n 3, 1, 0, 0, 0, 0), (140, .putfield 101, 3, 10, 46, 0, 1547), (143, .goto 15, 3, 0, 0, 0, 0), (146, .aload_n 0, 1, 0, 0, 0, 0), (147, .dup, 1, 0, 0, 0, 0), 
  (148, .getfield 339, 3, 10, 47, 0, 1548), (151, .iconst 1, 1, 0, 0, 0, 0), (152, .iload_n 2, 1, 0, 0, 0, 0), (153, .ishl, 1, 0, 0, 0, 0), (154, .ior, 1, 0, 0, 0, 0), 
  (155, .putfield 339, 3, 10, 47, 0, 1548), (158, .aload_n 0, 1, 0, 0, 0, 0), (159, .invokevirtual 487, 3, 266, 1, 0, 2141), (162, .ireturn, 1, 0, 0, 0, 0)]
/-- DropSwitchModel leftOut ()I -/
noncomputable def cd_269 : List (Nat × Ent) := [
  (0, .iconst 0, 1, 0, 0, 0, 0), (1, .istore_n 1, 1, 0, 0, 0, 0), (2, .iconst 0, 1, 0, 0, 0, 0), (3, .istore_n 2, 1, 0, 0, 0, 0), (4, .iload_n 2, 1, 0, 0, 0, 0), 
  (5, .bipush 120, 2, 0, 0, 0, 0), (7, .if_icmp .ge 26, 3, 0, 0, 0, 0), (10, .iload_n 1, 1, 0, 0, 0, 0), (11, .aload_n 0, 1, 0, 0, 0, 0), (12, .getfield 104, 3, 10, 48, 2, 1549), 
  (15, .iload_n 2, 1, 0, 0, 0, 0), (16, .baload, 1, 0, 0, 0, 0), (17, .ifCond .eq 7, 3, 0, 0, 0, 0), (20, .iconst 1, 1, 0, 0, 0, 0), (21, .goto 4, 3, 0, 0, 0, 0), 
  (24, .iconst 0, 1, 0, 0, 0, 0), (25, .iadd, 1, 0, 0, 0, 0), (26, .istore_n 1, 1, 0, 0, 0, 0), (27, .iinc 2 1, 3, 0, 0, 0, 0), (30, .goto (-26), 3, 0, 0, 0, 0), 
  (33, .iload_n 1, 1, 0, 0, 0, 0), (34, .ireturn, 1, 0, 0, 0, 0)]
/-- DropSwitchModel leaveOut (I)I -/
noncomputable def cd_270 : List (Nat × Ent) := [
  (0, .aload_n 0, 1, 0, 0, 0, 0), (1, .aload_n 0, 1, 0, 0, 0, 0), (2, .iload_n 1, 1, 0, 0, 0, 0), (3, .invokevirtual 456, 3, 231, 2, 0, 2016), (6, .ifCond .eq 7, 3, 0, 0, 0, 0), 
  (9, .iconst 0, 1, 0, 0, 0, 0), (10, .goto 4, 3, 0, 0, 0, 0), (13, .iconst 1, 1, 0, 0, 0, 0), (14, .putfield 152, 3, 10, 0, 0, 1501), (17, .aload_n 0, 1, 0, 0, 0, 0), 
  (18, .getfield 152, 3, 10, 0, 0, 1501), (21, .ifCond .le 5, 3, 0, 0, 0, 0), (24, .iconst 0, 1, 0, 0, 0, 0), (25, .ireturn, 1, 0, 0, 0, 0), (26, .aload_n 0, 1, 0, 0, 0, 0), 
  (27, .getfield 104, 3, 10, 48, 2, 1549), (30, .iload_n 1, 1, 0, 0, 0, 0), (31, .iconst 1, 1, 0, 0, 0, 0), (32, .bastore, 1, 0, 0, 0, 0), (33, .aload_n 0, 1, 0, 0, 0, 0), 
  (34, .invokevirtual 490, 3, 269, 1, 0, 2149), (37, .ireturn, 1, 0, 0, 0, 0)]
/-- DropSwitchModel clearSuppositions ()I -/
noncomputable def cd_271 : List (Nat × Ent) := [
  (0, .aload_n 0, 1, 0, 0, 0, 0), (1, .iconst 0, 1, 0, 0, 0, 0), (2, .putfield 152, 3, 10, 0, 0, 1501), (5, .aload_n 0, 1, 0, 0, 0, 0), (6, .invokevirtual 487, 3, 266, 1, 0, 2141), 
  (9, .aload_n 0, 1, 0, 0, 0, 0), (10, .invokevirtual 490, 3, 269, 1, 0, 2149), (13, .iadd, 1, 0, 0, 0, 0), (14, .istore_n 1, 1, 0, 0, 0, 0), (15, .aload_n 0, 1, 0, 0, 0, 0), 
  (16, .invokevirtual 336, 3, 201, 1, 0, 1870), (19, .iload_n 1, 1, 0, 0, 0, 0), (20, .ireturn, 1, 0, 0, 0, 0)]
/-- DropSwitchModel runsSupposed ()V -/
noncomputable def cd_272 : List (Nat × Ent) := [
  (0, .aload_n 0, 1, 0, 0, 0, 0), (1, .invokevirtual 493, 3, 203, 1, 0, 2165), (4, .aload_n 0, 1, 0, 0, 0, 0), (5, .aload_n 0, 1, 0, 0, 0, 0), (6, .getfield 330, 3, 10, 15, 0, 1516), 
  (9, .invokevirtual 390, 3, 214, 2, 0, 1905), (12, .return_, 1, 0, 0, 0, 0)]
/-- DropSwitchModel supposedDrops ()I -/
noncomputable def cd_273 : List (Nat × Ent) := [
  (0, .aload_n 0, 1, 0, 0, 0, 0), (1, .iconst 0, 1, 0, 0, 0, 0), (2, .putfield 152, 3, 10, 0, 0, 1501), (5, .aload_n 0, 1, 0, 0, 0, 0), (6, .invokevirtual 496, 3, 272, 1, 0, 2161), 
  (9, .aload_n 0, 1, 0, 0, 0, 0), (10, .getfield 369, 3, 10, 66, 0, 1567), (13, .ireturn, 1, 0, 0, 0, 0)]
/-- DropSwitchModel supposedDropsBy (I)I -/
noncomputable def cd_274 : List (Nat × Ent) := [
  (0, .aload_n 0, 1, 0, 0, 0, 0), (1, .iload_n 1, 1, 0, 0, 0, 0), (2, .invokestatic 472, 3, 256, 1, 1, 2091), (5, .ifCond .eq 7, 3, 0, 0, 0, 0), (8, .iconst 0, 1, 0, 0, 0, 0), 
  (9, .goto 4, 3, 0, 0, 0, 0), (12, .iconst 1, 1, 0, 0, 0, 0), (13, .putfield 152, 3, 10, 0, 0, 1501), (16, .aload_n 0, 1, 0, 0, 0, 0), (17, .getfield 152, 3, 10, 0, 0, 1501), 
  (20, .ifCond .le 5, 3, 0, 0, 0, 0), (23, .iconst 0, 1, 0, 0, 0, 0), (24, .ireturn, 1, 0, 0, 0, 0), (25, .aload_n 0, 1, 0, 0, 0, 0), (26, .invokevirtual 496, 3, 272, 1, 0, 2161), 
  (29, .aload_n 0, 1, 0, 0, 0, 0), (30, .iload_n 1, 1, 0, 0, 0, 0), (31, .iconst (-1), 1, 0, 0, 0, 0), (32, .invokevirtual 475, 3, 255, 3, 0, 2094), (35, .ireturn, 1, 0, 0, 0, 0)]
/-- DropSwitchModel supposedFate (II)I -/
noncomputable def cd_275 : List (Nat × Ent) := [
  (0, .aload_n 0, 1, 0, 0, 0, 0), (1, .aload_n 0, 1, 0, 0, 0, 0), (2, .iload_n 1, 1, 0, 0, 0, 0), (3, .invokevirtual 459, 3, 230, 2, 0, 2028), (6, .ifCond .eq 15, 3, 0, 0, 0, 0), 
  (9, .aload_n 0, 1, 0, 0, 0, 0), (10, .iload_n 2, 1, 0, 0, 0, 0), (11, .invokevirtual 449, 3, 228, 2, 0, 1889), (14, .ifCond .eq 7, 3, 0, 0, 0, 0), (17, .iconst 0, 1, 0, 0, 0, 0), 
  (18, .goto 4, 3, 0, 0, 0, 0), (21, .iconst 1, 1, 0, 0, 0, 0), (22, .putfield 152, 3, 10, 0, 0, 1501), (25, .aload_n 0, 1, 0, 0, 0, 0), (26, .getfield 152, 3, 10, 0, 0, 1501), 
  (29, .ifCond .le 5, 3, 0, 0, 0, 0), (32, .iconst 0, 1, 0, 0, 0, 0), (33, .ireturn, 1, 0, 0, 0, 0), (34, .aload_n 0, 1, 0, 0, 0, 0), (35, .invokevirtual 496, 3, 272, 1, 0, 2161), 
  (38, .aload_n 0, 1, 0, 0, 0, 0), (39, .getfield 134, 3, 10, 63, 2, 1564), (42, .iconst 4, 1, 0, 0, 0, 0), (43, .iload_n 1, 1, 0, 0, 0, 0), (44, .imul, 1, 0, 0, 0, 0), 
  (45, .iload_n 2, 1, 0, 0, 0, 0), (46, .iadd, 1, 0, 0, 0, 0), (47, .iaload, 1, 0, 0, 0, 0), (48, .ireturn, 1, 0, 0, 0, 0)]
/-- DropSwitchModel supposedDelivered (I)I -/
noncomputable def cd_276 : List (Nat × Ent) := [
  (0, .aload_n 0, 1, 0, 0, 0, 0), (1, .aload_n 0, 1, 0, 0, 0, 0), (2, .iload_n 1, 1, 0, 0, 0, 0), (3, .invokevirtual 449, 3, 228, 2, 0, 1889), (6, .ifCond .eq 7, 3, 0, 0, 0, 0), 
  (9, .iconst 0, 1, 0, 0, 0, 0), (10, .goto 4, 3, 0, 0, 0, 0), (13, .iconst 1, 1, 0, 0, 0, 0), (14, .putfield 152, 3, 10, 0, 0, 1501), (17, .aload_n 0, 1, 0, 0, 0, 0), 
  (18, .getfield 152, 3, 10, 0, 0, 1501), (21, .ifCond .le 5, 3, 0, 0, 0, 0), (24, .iconst 0, 1, 0, 0, 0, 0), (25, .ireturn, 1, 0, 0, 0, 0), (26, .aload_n 0, 1, 0, 0, 0, 0), 
  (27, .invokevirtual 496, 3, 272, 1, 0, 2161), (30, .aload_n 0, 1, 0, 0, 0, 0), (31, .getfield 137, 3, 10, 64, 2, 1565), (34, .iload_n 1, 1, 0, 0, 0, 0), 
  (35, .iaload, 1, 0, 0, 0, 0), (36, .ireturn, 1, 0, 0, 0, 0)]
/-- DropSwitchModel place (II)I -/
noncomputable def cd_277 : List (Nat × Ent) := [
  (0, .iconst 5, 1, 0, 0, 0, 0), (1, .iload_n 0, 1, 0, 0, 0, 0), (2, .imul, 1, 0, 0, 0, 0), (3, .iload_n 1, 1, 0, 0, 0, 0), (4, .iadd, 1, 0, 0, 0, 0), (5, .iconst 1, 1, 0, 0, 0, 0), 
  (6, .iadd, 1, 0, 0, 0, 0), (7, .ireturn, 1, 0, 0, 0, 0)]
/-- DropSwitchModel keepsDrops ()V -/
noncomputable def cd_278 : List (Nat × Ent) := [
  (0, .iconst 0, 1, 0, 0, 0, 0), (1, .istore_n 1, 1, 0, 0, 0, 0), (2, .iload_n 1, 1, 0, 0, 0, 0), (3, .sipush 600, 3, 0, 0, 0, 0), (6, .if_icmp .ge 16, 3, 0, 0, 0, 0), 
  (9, .aload_n 0, 1, 0, 0, 0, 0), (10, .getfield 146, 3, 10, 71, 2, 1572), (13, .iload_n 1, 1, 0, 0, 0, 0), (14, .iconst 0, 1, 0, 0, 0, 0), (15, .bastore, 1, 0, 0, 0, 0), 
  (16, .iinc 1 1, 3, 0, 0, 0, 0), (19, .goto (-17), 3, 0, 0, 0, 0), (22, .iconst 0, 1, 0, 0, 0, 0), (23, .istore_n 1, 1, 0, 0, 0, 0), (24, .iload_n 1, 1, 0, 0, 0, 0), 
  (25, .aload_n 0, 1, 0, 0, 0, 0), (26, .getfield 369, 3, 10, 66, 0, 1567), (29, .if_icmp .ge 38, 3, 0, 0, 0, 0), (32, .aload_n 0, 1, 0, 0, 0, 0), 
  (33, .getfield 146, 3, 10, 71, 2, 1572), (36, .aload_n 0, 1, 0, 0, 0, 0), (37, .getfield 140, 3, 10, 65, 2, 1566), (40, .iconst 5, 1, 0, 0, 0, 0), (41, .iload_n 1, 1, 0, 0, 0, 0), 
  (42, .iconst 1, 1, 0, 0, 0, 0), (43, .invokestatic 468, 3, 204, 4, 1, 2080), (46, .aload_n 0, 1, 0, 0, 0, 0), (47, .getfield 140, 3, 10, 65, 2, 1566), 
  (50, .iconst 5, 1, 0, 0, 0, 0), (51, .iload_n 1, 1, 0, 0, 0, 0), (52, .iconst 2, 1, 0, 0, 0, 0), (53, .invokestatic 468, 3, 204, 4, 1, 2080), 
  (56, .invokestatic 499, 3, 277, 2, 1, 2189), (59, .iconst 1, 1, 0, 0, 0, 0), (60, .bastore, 1, 0, 0, 0, 0), (61, .iinc 1 1, 3, 0, 0, 0, 0), (64, .goto (-40), 3, 0, 0, 0, 0), 
  (67, .return_, 1, 0, 0, 0, 0)]
/-- DropSwitchModel dropsNotKept ()I -/
noncomputable def cd_279 : List (Nat × Ent) := [
  (0, .iconst 0, 1, 0, 0, 0, 0), (1, .istore_n 1, 1, 0, 0, 0, 0), (2, .iconst 0, 1, 0, 0, 0, 0), (3, .istore_n 2, 1, 0, 0, 0, 0), (4, .iload_n 2, 1, 0, 0, 0, 0), 
  (5, .aload_n 0, 1, 0, 0, 0, 0), (6, .getfield 369, 3, 10, 66, 0, 1567), (9, .if_icmp .ge 48, 3, 0, 0, 0, 0), (12, .iload_n 1, 1, 0, 0, 0, 0), (13, .aload_n 0, 1, 0, 0, 0, 0), 
  (14, .getfield 146, 3, 10, 71, 2, 1572), (17, .aload_n 0, 1, 0, 0, 0, 0), (18, .getfield 140, 3, 10, 65, 2, 1566), (21, .iconst 5, 1, 0, 0, 0, 0), (22, .iload_n 2, 1, 0, 0, 0, 0), 
  (23, .iconst 1, 1, 0, 0, 0, 0), (24, .invokestatic 468, 3, 204, 4, 1, 2080), (27, .aload_n 0, 1, 0, 0, 0, 0), (28, .getfield 140, 3, 10, 65, 2, 1566), 
  (31, .iconst 5, 1, 0, 0, 0, 0), (32, .iload_n 2, 1, 0, 0, 0, 0), (33, .iconst 2, 1, 0, 0, 0, 0), (34, .invokestatic 468, 3, 204, 4, 1, 2080), 
  (37, .invokestatic 499, 3, 277, 2, 1, 2189), (40, .baload, 1, 0, 0, 0, 0), (41, .ifCond .eq 7, 3, 0, 0, 0, 0), (44, .iconst 0, 1, 0, 0, 0, 0), (45, .goto 4, 3, 0, 0, 0, 0), 
  (48, .iconst 1, 1, 0, 0, 0, 0), (49, .iadd, 1, 0, 0, 0, 0), (50, .istore_n 1, 1, 0, 0, 0, 0), (51, .iinc 2 1, 3, 0, 0, 0, 0), (54, .goto (-50), 3, 0, 0, 0, 0), 
  (57, .iload_n 1, 1, 0, 0, 0, 0), (58, .ireturn, 1, 0, 0, 0, 0)]
/-- DropSwitchModel saved ()I -/
noncomputable def cd_280 : List (Nat × Ent) := [
  (0, .aload_n 0, 1, 0, 0, 0, 0), (1, .iconst 0, 1, 0, 0, 0, 0), (2, .putfield 152, 3, 10, 0, 0, 1501), (5, .aload_n 0, 1, 0, 0, 0, 0), (6, .invokevirtual 496, 3, 272, 1, 0, 2161), 
  (9, .aload_n 0, 1, 0, 0, 0, 0), (10, .invokevirtual 502, 3, 278, 1, 0, 2185), (13, .aload_n 0, 1, 0, 0, 0, 0), (14, .invokevirtual 443, 3, 215, 1, 0, 1897), 
  (17, .aload_n 0, 1, 0, 0, 0, 0), (18, .invokevirtual 505, 3, 279, 1, 0, 2192), (21, .ireturn, 1, 0, 0, 0, 0)]
/-- DropSwitchModel newlyDropped ()I -/
noncomputable def cd_281 : List (Nat × Ent) := [
  (0, .aload_n 0, 1, 0, 0, 0, 0), (1, .iconst 0, 1, 0, 0, 0, 0), (2, .putfield 152, 3, 10, 0, 0, 1501), (5, .aload_n 0, 1, 0, 0, 0, 0), (6, .invokevirtual 443, 3, 215, 1, 0, 1897), 
  (9, .aload_n 0, 1, 0, 0, 0, 0), (10, .invokevirtual 502, 3, 278, 1, 0, 2185), (13, .aload_n 0, 1, 0, 0, 0, 0), (14, .invokevirtual 496, 3, 272, 1, 0, 2161), 
  (17, .aload_n 0, 1, 0, 0, 0, 0), (18, .invokevirtual 505, 3, 279, 1, 0, 2192), (21, .ireturn, 1, 0, 0, 0, 0)]
/-- DropSwitchModel keepsOne (I)Z -/
noncomputable def cd_282 : List (Nat × Ent) := [
  (0, .aload_n 0, 1, 0, 0, 0, 0), (1, .aload_n 0, 1, 0, 0, 0, 0), (2, .iload_n 1, 1, 0, 0, 0, 0), (3, .invokevirtual 465, 3, 252, 2, 0, 2076), (6, .ifCond .eq 7, 3, 0, 0, 0, 0), 
  (9, .iconst 0, 1, 0, 0, 0, 0), (10, .goto 4, 3, 0, 0, 0, 0), (13, .iconst 1, 1, 0, 0, 0, 0), (14, .putfield 152, 3, 10, 0, 0, 1501), (17, .aload_n 0, 1, 0, 0, 0, 0), 
  (18, .getfield 152, 3, 10, 0, 0, 1501), (21, .ifCond .ne 31, 3, 0, 0, 0, 0), (24, .aload_n 0, 1, 0, 0, 0, 0), (25, .aload_n 0, 1, 0, 0, 0, 0), 
  (26, .getfield 140, 3, 10, 65, 2, 1566), (29, .iconst 5, 1, 0, 0, 0, 0), (30, .iload_n 1, 1, 0, 0, 0, 0), (31, .iconst 1, 1, 0, 0, 0, 0), 
  (32, .invokestatic 468, 3, 204, 4, 1, 2080), (35, .putfield 508, 3, 10, 72, 0, 1573), (38, .aload_n 0, 1, 0, 0, 0, 0), (39, .aload_n 0, 1, 0, 0, 0, 0), 
  (40, .getfield 140, 3, 10, 65, 2, 1566), (43, .iconst 5, 1, 0, 0, 0, 0), (44, .iload_n 1, 1, 0, 0, 0, 0), (45, .iconst 2, 1, 0, 0, 0, 0), 
  (46, .invokestatic 468, 3, 204, 4, 1, 2080), (49, .putfield 511, 3, 10, 73, 0, 1574), (52, .aload_n 0, 1, 0, 0, 0, 0), (53, .getfield 152, 3, 10, 0, 0, 1501), 
  (56, .ifCond .ne 7, 3, 0, 0, 0, 0), (59, .iconst 1, 1, 0, 0, 0, 0), (60, .goto 4, 3, 0, 0, 0, 0), (63, .iconst 0, 1, 0, 0, 0, 0), (64, .ireturn, 1, 0, 0, 1, 0)]
/-- DropSwitchModel isDroppedStill ()Z -/
noncomputable def cd_283 : List (Nat × Ent) := [
  (0, .aload_n 0, 1, 0, 0, 0, 0), (1, .aload_n 0, 1, 0, 0, 0, 0), (2, .getfield 330, 3, 10, 15, 0, 1516), (5, .invokevirtual 390, 3, 214, 2, 0, 1905), (8, .iconst 0, 1, 0, 0, 0, 0), 
  (9, .istore_n 1, 1, 0, 0, 0, 0), (10, .iload_n 1, 1, 0, 0, 0, 0), (11, .aload_n 0, 1, 0, 0, 0, 0), (12, .getfield 369, 3, 10, 66, 0, 1567), (15, .if_icmp .ge 45, 3, 0, 0, 0, 0), 
  (18, .aload_n 0, 1, 0, 0, 0, 0), (19, .getfield 140, 3, 10, 65, 2, 1566), (22, .iconst 5, 1, 0, 0, 0, 0), (23, .iload_n 1, 1, 0, 0, 0, 0), (24, .iconst 1, 1, 0, 0, 0, 0), 
  (25, .invokestatic 468, 3, 204, 4, 1, 2080), (28, .aload_n 0, 1, 0, 0, 0, 0), (29, .getfield 508, 3, 10, 72, 0, 1573), (32, .if_icmp .ne 22, 3, 0, 0, 0, 0), 
  (35, .aload_n 0, 1, 0, 0, 0, 0), (36, .getfield 140, 3, 10, 65, 2, 1566), (39, .iconst 5, 1, 0, 0, 0, 0), (40, .iload_n 1, 1, 0, 0, 0, 0), (41, .iconst 2, 1, 0, 0, 0, 0), 
  (42, .invokestatic 468, 3, 204, 4, 1, 2080), (45, .aload_n 0, 1, 0, 0, 0, 0), (46, .getfield 511, 3, 10, 73, 0, 1574), (49, .if_icmp .ne 5, 3, 0, 0, 0, 0), 
  (52, .iconst 1, 1, 0, 0, 0, 0), (53, .ireturn, 1, 0, 0, 1, 0), (54, .iinc 1 1, 3, 0, 0, 0, 0), (57, .goto (-47), 3, 0, 0, 0, 0), (60, .iconst 0, 1, 0, 0, 0, 0), 
  (61, .ireturn, 1, 0, 0, 1, 0)]
/-- DropSwitchModel evidenceTill (I)I -/
noncomputable def cd_284 : List (Nat × Ent) := [
  (0, .iconst 0, 1, 0, 0, 0, 0), (1, .istore_n 2, 1, 0, 0, 0, 0), (2, .iconst 0, 1, 0, 0, 0, 0), (3, .istore_n 3, 1, 0, 0, 0, 0), (4, .iload_n 3, 1, 0, 0, 0, 0), 
  (5, .aload_n 0, 1, 0, 0, 0, 0), (6, .getfield 330, 3, 10, 15, 0, 1516), (9, .if_icmp .ge 40, 3, 0, 0, 0, 0), (12, .aload_n 0, 1, 0, 0, 0, 0), 
  (13, .invokevirtual 354, 3, 202, 1, 0, 1901), (16, .aload_n 0, 1, 0, 0, 0, 0), (17, .getfield 110, 3, 10, 54, 2, 1555), (20, .iload_n 3, 1, 0, 0, 0, 0), 
  (21, .iconst 1, 1, 0, 0, 0, 0), (22, .bastore, 1, 0, 0, 0, 0), (23, .aload_n 0, 1, 0, 0, 0, 0), (24, .invokevirtual 514, 3, 283, 1, 0, 2212), (27, .ifCond .eq 6, 3, 0, 0, 0, 0), 
  (30, .goto 13, 3, 0, 0, 0, 0), (33, .iload_n 2, 1, 0, 0, 0, 0), (34, .iload_n 1, 1, 0, 0, 0, 0), (35, .if_icmp .ne 5, 3, 0, 0, 0, 0), (38, .iload_n 3, 1, 0, 0, 0, 0), 
  (39, .ireturn, 1, 0, 0, 0, 0), (40, .iinc 2 1, 3, 0, 0, 0, 0), (43, .iinc 3 1, 3, 0, 0, 0, 0), (46, .goto (-42), 3, 0, 0, 0, 0), (49, .iload_n 1, 1, 0, 0, 0, 0), 
  (50, .iconst (-1), 1, 0, 0, 0, 0), (51, .if_icmp .ne 7, 3, 0, 0, 0, 0), (54, .iload_n 2, 1, 0, 0, 0, 0), (55, .goto 4, 3, 0, 0, 0, 0), (58, .iconst (-1), 1, 0, 0, 0, 0), 
  (59, .ireturn, 1, 0, 0, 0, 0)]
/-- DropSwitchModel evidenceCount (I)I -/
noncomputable def cd_285 : List (Nat × Ent) := [
  (0, .aload_n 0, 1, 0, 0, 0, 0), (1, .iload_n 1, 1, 0, 0, 0, 0), (2, .invokevirtual 517, 3, 282, 2, 0, 2204), (5, .ifCond .eq 11, 3, 0, 0, 0, 0), (8, .aload_n 0, 1, 0, 0, 0, 0), 
  (9, .iconst (-1), 1, 0, 0, 0, 0), (10, .invokevirtual 520, 3, 284, 2, 0, 2208), (13, .goto 4, 3, 0, 0, 0, 0), (16, .iconst 0, 1, 0, 0, 0, 0), (17, .ireturn, 1, 0, 0, 0, 0)]
/-- DropSwitchModel evidence (II)I -/
noncomputable def cd_286 : List (Nat × Ent) := [
  (0, .aload_n 0, 1, 0, 0, 0, 0), (1, .iload_n 1, 1, 0, 0, 0, 0), (2, .invokevirtual 517, 3, 282, 2, 0, 2204), (5, .ifCond .ne 5, 3, 0, 0, 0, 0), (8, .iconst 0, 1, 0, 0, 0, 0), 
  (9, .ireturn, 1, 0, 0, 0, 0), (10, .iload_n 2, 1, 0, 0, 0, 0), (11, .ifCond .ge 7, 3, 0, 0, 0, 0), (14, .iconst (-1), 1, 0, 0, 0, 0), (15, .goto 8, 3, 0, 0, 0, 0), 
  (18, .aload_n 0, 1, 0, 0, 0, 0), (19, .iload_n 2, 1, 0, 0, 0, 0), (20, .invokevirtual 520, 3, 284, 2, 0, 2208), (23, .ireturn, 1, 0, 0, 0, 0)]
/-- DropSwitchModel leastCapacity (I)I -/
noncomputable def cd_287 : List (Nat × Ent) := [
  (0, .aload_n 0, 1, 0, 0, 0, 0), (1, .iload_n 1, 1, 0, 0, 0, 0), (2, .invokevirtual 517, 3, 282, 2, 0, 2204), (5, .ifCond .ne 5, 3, 0, 0, 0, 0), (8, .iconst 0, 1, 0, 0, 0, 0), 
  (9, .ireturn, 1, 0, 0, 0, 0), (10, .iconst 1, 1, 0, 0, 0, 0), (11, .istore_n 2, 1, 0, 0, 0, 0), (12, .iload_n 2, 1, 0, 0, 0, 0), (13, .bipush 99, 2, 0, 0, 0, 0), 
  (15, .if_icmp .gt 40, 3, 0, 0, 0, 0), (18, .aload_n 0, 1, 0, 0, 0, 0), (19, .getfield 511, 3, 10, 73, 0, 1574), (22, .iconst (-1), 1, 0, 0, 0, 0), 
  (23, .if_icmp .eq 32, 3, 0, 0, 0, 0), (26, .aload_n 0, 1, 0, 0, 0, 0), (27, .invokevirtual 354, 3, 202, 1, 0, 1901), (30, .aload_n 0, 1, 0, 0, 0, 0), 
  (31, .getfield 107, 3, 10, 49, 2, 1550), (34, .aload_n 0, 1, 0, 0, 0, 0), (35, .getfield 511, 3, 10, 73, 0, 1574), (38, .iload_n 2, 1, 0, 0, 0, 0), (39, .iastore, 1, 0, 0, 0, 0), 
  (40, .aload_n 0, 1, 0, 0, 0, 0), (41, .invokevirtual 514, 3, 283, 1, 0, 2212), (44, .ifCond .ne 5, 3, 0, 0, 0, 0), (47, .iload_n 2, 1, 0, 0, 0, 0), (48, .ireturn, 1, 0, 0, 0, 0), 
  (49, .iinc 2 1, 3, 0, 0, 0, 0), (52, .goto (-40), 3, 0, 0, 0, 0), (55, .iconst (-1), 1, 0, 0, 0, 0), (56, .ireturn, 1, 0, 0, 0, 0)]
/-- DropSwitchModel savingRules (I)I -/
noncomputable def cd_288 : List (Nat × Ent) := [
  (0, .aload_n 0, 1, 0, 0, 0, 0), (1, .iload_n 1, 1, 0, 0, 0, 0), (2, .invokevirtual 517, 3, 282, 2, 0, 2204), (5, .ifCond .ne 5, 3, 0, 0, 0, 0), (8, .iconst 0, 1, 0, 0, 0, 0), 
  (9, .ireturn, 1, 0, 0, 0, 0), (10, .iconst 0, 1, 0, 0, 0, 0), (11, .istore_n 2, 1, 0, 0, 0, 0), (12, .iconst 0, 1, 0, 0, 0, 0), (13, .istore_n 3, 1, 0, 0, 0, 0), 
  (14, .iload_n 3, 1, 0, 0, 0, 0), (15, .aload_n 0, 1, 0, 0, 0, 0), (16, .getfield 327, 3, 10, 10, 0, 1511), (19, .if_icmp .ge 37, 3, 0, 0, 0, 0), (22, .aload_n 0, 1, 0, 0, 0, 0), 
  (23, .invokevirtual 354, 3, 202, 1, 0, 1901), (26, .aload_n 0, 1, 0, 0, 0, 0), (27, .iconst 1, 1, 0, 0, 0, 0), (28, .iload_n 3, 1, 0, 0, 0, 0), (29, .ishl, 1, 0, 0, 0, 0), 
  (30, .putfield 351, 3, 10, 53, 0, 1554), (33, .iload_n 2, 1, 0, 0, 0, 0), (34, .aload_n 0, 1, 0, 0, 0, 0), (35, .invokevirtual 514, 3, 283, 1, 0, 2212), 
  (38, .ifCond .eq 7, 3, 0, 0, 0, 0), (41, .iconst 0, 1, 0, 0, 0, 0), (42, .goto 6, 3, 0, 0, 0, 0), (45, .iconst 1, 1, 0, 0, 0, 0), (46, .iload_n 3, 1, 0, 0, 0, 0), 
  (47, .ishl, 1, 0, 0, 0, 0), (48, .ior, 1, 0, 0, 0, 0), (49, .istore_n 2, 1, 0, 0, 0, 0), (50, .iinc 3 1, 3, 0, 0, 0, 0), (53, .goto (-39), 3, 0, 0, 0, 0), 
  (56, .iload_n 2, 1, 0, 0, 0, 0), (57, .ireturn, 1, 0, 0, 0, 0)]
/-- DropSwitchModel put (I)V -/
noncomputable def cd_289 : List (Nat × Ent) := [
  (0, .aload_n 0, 1, 0, 0, 0, 0), (1, .getfield 149, 3, 10, 74, 2, 1575), (4, .aload_n 0, 1, 0, 0, 0, 0), (5, .getfield 523, 3, 10, 75, 0, 1576), (8, .iload_n 1, 1, 0, 0, 0, 0), 
  (9, .iastore, 1, 0, 0, 0, 0), (10, .aload_n 0, 1, 0, 0, 0, 0), (11, .dup, 1, 0, 0, 0, 0), (12, .getfield 523, 3, 10, 75, 0, 1576), (15, .iconst 1, 1, 0, 0, 0, 0), 
  (16, .iadd, 1, 0, 0, 0, 0), (17, .putfield 523, 3, 10, 75, 0, 1576), (20, .return_, 1, 0, 0, 0, 0)]
/-- DropSwitchModel putNumber (I)V -/
noncomputable def cd_290 : List (Nat × Ent) := [
  (0, .iload_n 1, 1, 0, 0, 0, 0), (1, .bipush 99, 2, 0, 0, 0, 0), (3, .if_icmp .le 14, 3, 0, 0, 0, 0), (6, .aload_n 0, 1, 0, 0, 0, 0), (7, .bipush 48, 2, 0, 0, 0, 0), 
  (9, .iload_n 1, 1, 0, 0, 0, 0), (10, .bipush 100, 2, 0, 0, 0, 0), (12, .idiv, 1, 0, 0, 0, 0), (13, .iadd, 1, 0, 0, 0, 0), (14, .invokevirtual 526, 3, 289, 2, 0, 2236), 
  (17, .iload_n 1, 1, 0, 0, 0, 0), (18, .bipush 9, 2, 0, 0, 0, 0), (20, .if_icmp .le 17, 3, 0, 0, 0, 0), (23, .aload_n 0, 1, 0, 0, 0, 0), (24, .bipush 48, 2, 0, 0, 0, 0), 
  (26, .iload_n 1, 1, 0, 0, 0, 0), (27, .bipush 10, 2, 0, 0, 0, 0), (29, .idiv, 1, 0, 0, 0, 0), (30, .bipush 10, 2, 0, 0, 0, 0), (32, .irem, 1, 0, 0, 0, 0), 
  (33, .iadd, 1, 0, 0, 0, 0), (34, .invokevirtual 526, 3, 289, 2, 0, 2236), (37, .aload_n 0, 1, 0, 0, 0, 0), (38, .bipush 48, 2, 0, 0, 0, 0), (40, .iload_n 1, 1, 0, 0, 0, 0), 
  (41, .bipush 10, 2, 0, 0, 0, 0), (43, .irem, 1, 0, 0, 0, 0), (44, .iadd, 1, 0, 0, 0, 0), (45, .invokevirtual 526, 3, 289, 2, 0, 2236), (48, .return_, 1, 0, 0, 0, 0)]
/-- DropSwitchModel putWord (Ljava/lang/String;)V -/
noncomputable def cd_291 : List (Nat × Ent) := [
  (0, .iconst 0, 1, 0, 0, 0, 0), (1, .istore_n 2, 1, 0, 0, 0, 0), (2, .iload_n 2, 1, 0, 0, 0, 0), (3, .aload_n 1, 1, 0, 0, 0, 0), (4, .invokevirtual 186, 3, 299, 1, 0, 1778), 
  (7, .if_icmp .ge 18, 3, 0, 0, 0, 0), (10, .aload_n 0, 1, 0, 0, 0, 0), (11, .aload_n 1, 1, 0, 0, 0, 0), (12, .iload_n 2, 1, 0, 0, 0, 0), (13, .invokevirtual 190, 3, 300, 2, 0, 1779), 
  (16, .invokevirtual 526, 3, 289, 2, 0, 2236), (19, .iinc 2 1, 3, 0, 0, 0, 0), (22, .goto (-20), 3, 0, 0, 0, 0), (25, .return_, 1, 0, 0, 0, 0)]
/-- DropSwitchModel putName (I)V -/
noncomputable def cd_292 : List (Nat × Ent) := [
  (0, .iconst 0, 1, 0, 0, 0, 0), (1, .istore_n 2, 1, 0, 0, 0, 0), (2, .aload_n 0, 1, 0, 0, 0, 0), (3, .getfield 7, 3, 10, 2, 2, 1503), (6, .iload_n 1, 1, 0, 0, 0, 0), 
  (7, .laload, 1, 0, 0, 0, 0), (8, .lstore_n 3, 1, 0, 0, 0, 0), (9, .lload_n 3, 1, 0, 0, 0, 0), (10, .lconst 0, 1, 0, 0, 0, 0), (11, .lcmp, 1, 0, 0, 0, 0), 
  (12, .ifCond .le 15, 3, 0, 0, 0, 0), (15, .iinc 2 1, 3, 0, 0, 0, 0), (18, .lload_n 3, 1, 0, 0, 0, 0), (19, .ldc2_w 202, 3, 32, 0, 0, 1798), (22, .ldiv, 1, 0, 0, 0, 0), 
  (23, .lstore_n 3, 1, 0, 0, 0, 0), (24, .goto (-15), 3, 0, 0, 0, 0), (27, .iload_n 2, 1, 0, 0, 0, 0), (28, .iconst 1, 1, 0, 0, 0, 0), (29, .isub, 1, 0, 0, 0, 0), 
  (30, .istore_n 3, 1, 0, 0, 0, 0), (31, .iload_n 3, 1, 0, 0, 0, 0), (32, .ifCond .lt 31, 3, 0, 0, 0, 0), (35, .aload_n 0, 1, 0, 0, 0, 0), (36, .aload_n 0, 1, 0, 0, 0, 0), 
  (37, .getfield 7, 3, 10, 2, 2, 1503), (40, .iload_n 1, 1, 0, 0, 0, 0), (41, .laload, 1, 0, 0, 0, 0), (42, .iconst 5, 1, 0, 0, 0, 0), (43, .iload_n 3, 1, 0, 0, 0, 0), 
  (44, .imul, 1, 0, 0, 0, 0), (45, .lshr, 1, 0, 0, 0, 0), (46, .ldc2_w 529, 3, 31, 0, 0, 2260), (49, .land, 1, 0, 0, 0, 0), (50, .l2i, 1, 0, 0, 0, 0), (51, .bipush 96, 2, 0, 0, 0, 0), 
  (53, .iadd, 1, 0, 0, 0, 0), (54, .invokevirtual 526, 3, 289, 2, 0, 2236), (57, .iinc 3 (-1), 3, 0, 0, 0, 0), (60, .goto (-29), 3, 0, 0, 0, 0), (63, .return_, 1, 0, 0, 0, 0)]
/-- DropSwitchModel causeWord (I)Ljava/lang/String; -/
noncomputable def cd_293 : List (Nat × Ent) := [
  (0, .iload_n 0, 1, 0, 0, 0, 0), (1, .tableswitch 87 1 9 #[51, 55, 59, 63, 67, 71, 75, 79, 83], 51, 0, 0, 0, 0), (52, .ldc_w 531, 3, 44, 0, 0, 2243), (55, .areturn, 1, 0, 0, 0, 0), 
  (56, .ldc_w 533, 3, 45, 0, 0, 2244), (59, .areturn, 1, 0, 0, 0, 0), (60, .ldc_w 535, 3, 46, 0, 0, 2245), (63, .areturn, 1, 0, 0, 0, 0), (64, .ldc_w 537, 3, 47, 0, 0, 2246), 
  (67, .areturn, 1, 0, 0, 0, 0), (68, .ldc_w 539, 3, 48, 0, 0, 2247), (71, .areturn, 1, 0, 0, 0, 0), (72, .ldc_w 300, 3, 31, 0, 0, 1817), (75, .areturn, 1, 0, 0, 0, 0), 
  (76, .ldc_w 541, 3, 49, 0, 0, 2248), (79, .areturn, 1, 0, 0, 0, 0), (80, .ldc_w 543, 3, 50, 0, 0, 2249), (83, .areturn, 1, 0, 0, 0, 0), (84, .ldc_w 545, 3, 51, 0, 0, 2250), 
  (87, .areturn, 1, 0, 0, 0, 0), (88, .ldc_w 547, 3, 52, 0, 0, 2251), (91, .areturn, 1, 0, 0, 0, 0)]
/-- DropSwitchModel formatDrop (I)I -/
noncomputable def cd_294 : List (Nat × Ent) := [
  (0, .aload_n 0, 1, 0, 0, 0, 0), (1, .aload_n 0, 1, 0, 0, 0, 0), (2, .iload_n 1, 1, 0, 0, 0, 0), (3, .invokevirtual 465, 3, 252, 2, 0, 2076), (6, .ifCond .eq 7, 3, 0, 0, 0, 0), 
  (9, .iconst 0, 1, 0, 0, 0, 0), (10, .goto 4, 3, 0, 0, 0, 0), (13, .iconst 1, 1, 0, 0, 0, 0), (14, .putfield 152, 3, 10, 0, 0, 1501), (17, .aload_n 0, 1, 0, 0, 0, 0), 
  (18, .getfield 152, 3, 10, 0, 0, 1501), (21, .ifCond .le 5, 3, 0, 0, 0, 0), (24, .iconst 0, 1, 0, 0, 0, 0), (25, .ireturn, 1, 0, 0, 0, 0), (26, .aload_n 0, 1, 0, 0, 0, 0), 
  (27, .iconst 0, 1, 0, 0, 0, 0), (28, .putfield 523, 3, 10, 75, 0, 1576), (31, .aload_n 0, 1, 0, 0, 0, 0), (32, .aload_n 0, 1, 0, 0, 0, 0), (33, .getfield 140, 3, 10, 65, 2, 1566), 
  (36, .iconst 5, 1, 0, 0, 0, 0), (37, .iload_n 1, 1, 0, 0, 0, 0), (38, .iconst 1, 1, 0, 0, 0, 0), (39, .invokestatic 468, 3, 204, 4, 1, 2080), 
  (42, .invokevirtual 549, 3, 290, 2, 0, 2232), (45, .aload_n 0, 1, 0, 0, 0, 0), (46, .bipush 64, 2, 0, 0, 0, 0), (48, .invokevirtual 526, 3, 289, 2, 0, 2236), 
  (51, .aload_n 0, 1, 0, 0, 0, 0), (52, .aload_n 0, 1, 0, 0, 0, 0), (53, .getfield 140, 3, 10, 65, 2, 1566), (56, .iconst 5, 1, 0, 0, 0, 0), (57, .iload_n 1, 1, 0, 0, 0, 0), 
  (58, .iconst 0, 1, 0, 0, 0, 0), (59, .invokestatic 468, 3, 204, 4, 1, 2080), (62, .invokevirtual 549, 3, 290, 2, 0, 2232), (65, .aload_n 0, 1, 0, 0, 0, 0), 
  (66, .bipush 32, 2, 0, 0, 0, 0), (68, .invokevirtual 526, 3, 289, 2, 0, 2236), (71, .aload_n 0, 1, 0, 0, 0, 0), (72, .aload_n 0, 1, 0, 0, 0, 0), 
  (73, .getfield 140, 3, 10, 65, 2, 1566), (76, .iconst 5, 1, 0, 0, 0, 0), (77, .iload_n 1, 1, 0, 0, 0, 0), (78, .iconst 3, 1, 0, 0, 0, 0), 
  (79, .invokestatic 468, 3, 204, 4, 1, 2080), (82, .invokestatic 552, 3, 293, 1, 1, 2240), (85, .invokevirtual 556, 3, 291, 2, 0, 2252), (88, .aload_n 0, 1, 0, 0, 0, 0), 
  (89, .getfield 140, 3, 10, 65, 2, 1566), (92, .iconst 5, 1, 0, 0, 0, 0), (93, .iload_n 1, 1, 0, 0, 0, 0), (94, .iconst 4, 1, 0, 0, 0, 0), 
  (95, .invokestatic 468, 3, 204, 4, 1, 2080), (98, .iconst (-1), 1, 0, 0, 0, 0), (99, .if_icmp .eq 23, 3, 0, 0, 0, 0), (102, .aload_n 0, 1, 0, 0, 0, 0), 
  (103, .bipush 61, 2, 0, 0, 0, 0), (105, .invokevirtual 526, 3, 289, 2, 0, 2236), (108, .aload_n 0, 1, 0, 0, 0, 0), (109, .aload_n 0, 1, 0, 0, 0, 0), 
  (110, .getfield 140, 3, 10, 65, 2, 1566), (113, .iconst 5, 1, 0, 0, 0, 0), (114, .iload_n 1, 1, 0, 0, 0, 0), (115, .iconst 4, 1, 0, 0, 0, 0), 
  (116, .invokestatic 468, 3, 204, 4, 1, 2080), (119, .invokevirtual 549, 3, 290, 2, 0, 2232), (122, .aload_n 0, 1, 0, 0, 0, 0), (123, .getfield 140, 3, 10, 65, 2, 1566), 
  (126, .iconst 5, 1, 0, 0, 0, 0), (127, .iload_n 1, 1, 0, 0, 0, 0), (128, .iconst 2, 1, 0, 0, 0, 0), (129, .invokestatic 468, 3, 204, 4, 1, 2080), (132, .iconst (-1), 1, 0, 0, 0, 0), 
  (133, .if_icmp .eq 23, 3, 0, 0, 0, 0), (136, .aload_n 0, 1, 0, 0, 0, 0), (137, .bipush 32, 2, 0, 0, 0, 0), (139, .invokevirtual 526, 3, 289, 2, 0, 2236), 
  (142, .aload_n 0, 1, 0, 0, 0, 0), (143, .aload_n 0, 1, 0, 0, 0, 0), (144, .getfield 140, 3, 10, 65, 2, 1566), (147, .iconst 5, 1, 0, 0, 0, 0), (148, .iload_n 1, 1, 0, 0, 0, 0), 
  (149, .iconst 2, 1, 0, 0, 0, 0), (150, .invokestatic 468, 3, 204, 4, 1, 2080), (153, .invokevirtual 560, 3, 292, 2, 0, 2256), (156, .aload_n 0, 1, 0, 0, 0, 0), 
  (157, .getfield 523, 3, 10, 75, 0, 1576), (160, .ireturn, 1, 0, 0, 0, 0)]
/-- DropSwitchModel formatQueue (I)I -/
noncomputable def cd_295 : List (Nat × Ent) := [
  (0, .aload_n 0, 1, 0, 0, 0, 0), (1, .iload_n 1, 1, 0, 0, 0, 0), (2, .invokevirtual 462, 3, 242, 2, 0, 2036), (5, .ifCond .ne 5, 3, 0, 0, 0, 0), (8, .iconst 0, 1, 0, 0, 0, 0), 
  (9, .ireturn, 1, 0, 0, 0, 0), (10, .aload_n 0, 1, 0, 0, 0, 0), (11, .iconst 0, 1, 0, 0, 0, 0), (12, .putfield 523, 3, 10, 75, 0, 1576), (15, .aload_n 0, 1, 0, 0, 0, 0), 
  (16, .iload_n 1, 1, 0, 0, 0, 0), (17, .invokevirtual 560, 3, 292, 2, 0, 2256), (20, .iconst 0, 1, 0, 0, 0, 0), (21, .istore_n 2, 1, 0, 0, 0, 0), (22, .iload_n 2, 1, 0, 0, 0, 0), 
  (23, .aload_n 0, 1, 0, 0, 0, 0), (24, .getfield 122, 3, 10, 59, 2, 1560), (27, .iload_n 1, 1, 0, 0, 0, 0), (28, .iaload, 1, 0, 0, 0, 0), (29, .if_icmp .ge 50, 3, 0, 0, 0, 0), 
  (32, .aload_n 0, 1, 0, 0, 0, 0), (33, .getfield 116, 3, 10, 57, 2, 1558), (36, .bipush 100, 2, 0, 0, 0, 0), (38, .iload_n 1, 1, 0, 0, 0, 0), (39, .imul, 1, 0, 0, 0, 0), 
  (40, .iload_n 2, 1, 0, 0, 0, 0), (41, .iadd, 1, 0, 0, 0, 0), (42, .iaload, 1, 0, 0, 0, 0), (43, .istore_n 3, 1, 0, 0, 0, 0), (44, .aload_n 0, 1, 0, 0, 0, 0), 
  (45, .bipush 32, 2, 0, 0, 0, 0), (47, .invokevirtual 526, 3, 289, 2, 0, 2236), (50, .aload_n 0, 1, 0, 0, 0, 0), (51, .iload_n 3, 1, 0, 0, 0, 0), 
  (52, .invokevirtual 549, 3, 290, 2, 0, 2232), (55, .aload_n 0, 1, 0, 0, 0, 0), (56, .bipush 46, 2, 0, 0, 0, 0), (58, .invokevirtual 526, 3, 289, 2, 0, 2236), 
  (61, .aload_n 0, 1, 0, 0, 0, 0), (62, .bipush 48, 2, 0, 0, 0, 0), (64, .aload_n 0, 1, 0, 0, 0, 0), (65, .iload_n 3, 1, 0, 0, 0, 0), (66, .invokevirtual 428, 3, 208, 2, 0, 1960), 
  (69, .iadd, 1, 0, 0, 0, 0), (70, .invokevirtual 526, 3, 289, 2, 0, 2236), (73, .iinc 2 1, 3, 0, 0, 0, 0), (76, .goto (-54), 3, 0, 0, 0, 0), (79, .aload_n 0, 1, 0, 0, 0, 0), 
  (80, .getfield 523, 3, 10, 75, 0, 1576), (83, .ireturn, 1, 0, 0, 0, 0)]
/-- DropSwitchModel formattedByte (I)I -/
noncomputable def cd_296 : List (Nat × Ent) := [
  (0, .aload_n 0, 1, 0, 0, 0, 0), (1, .iconst 0, 1, 0, 0, 0, 0), (2, .putfield 152, 3, 10, 0, 0, 1501), (5, .iload_n 1, 1, 0, 0, 0, 0), (6, .iconst 0, 1, 0, 0, 0, 0), 
  (7, .aload_n 0, 1, 0, 0, 0, 0), (8, .getfield 523, 3, 10, 75, 0, 1576), (11, .iconst 1, 1, 0, 0, 0, 0), (12, .isub, 1, 0, 0, 0, 0), (13, .invokestatic 175, 3, 169, 3, 1, 1775), 
  (16, .ifCond .eq 12, 3, 0, 0, 0, 0), (19, .aload_n 0, 1, 0, 0, 0, 0), (20, .getfield 149, 3, 10, 74, 2, 1575), (23, .iload_n 1, 1, 0, 0, 0, 0), (24, .iaload, 1, 0, 0, 0, 0), 
  (25, .goto 4, 3, 0, 0, 0, 0), (28, .iconst (-1), 1, 0, 0, 0, 0), (29, .ireturn, 1, 0, 0, 0, 0)]
/-- java/lang/Integer compare (II)I -/
noncomputable def cd_297 : List (Nat × Ent) := [
  (0, .iload_n 0, 1, 0, 0, 0, 0), (1, .iload_n 1, 1, 0, 0, 0, 0), (2, .if_icmp .ge 7, 3, 0, 0, 0, 0), (5, .iconst (-1), 1, 0, 0, 0, 0), (6, .goto 13, 3, 0, 0, 0, 0), 
  (9, .iload_n 0, 1, 0, 0, 0, 0), (10, .iload_n 1, 1, 0, 0, 0, 0), (11, .if_icmp .ne 7, 3, 0, 0, 0, 0), (14, .iconst 0, 1, 0, 0, 0, 0), (15, .goto 4, 3, 0, 0, 0, 0), 
  (18, .iconst 1, 1, 0, 0, 0, 0), (19, .ireturn, 1, 0, 0, 0, 0)]
/-- Math.min is never entered: its place holds another's record and no code -/
noncomputable def cd_298 : List (Nat × Ent) := []
/-- java/lang/String length ()I -/
noncomputable def cd_299 : List (Nat × Ent) := [
  (0, .aload_n 0, 1, 0, 0, 0, 0), (1, .getfield 9, 3, 0, 0, 3, 2287), (4, .arraylength, 1, 0, 0, 0, 0), (5, .aload_n 0, 1, 0, 0, 0, 0), (6, .invokevirtual 335, 3, 301, 1, 0, 838), 
  (9, .ishr, 1, 0, 0, 0, 0), (10, .ireturn, 1, 0, 0, 0, 0)]
/-- java/lang/String charAt (I)C -/
noncomputable def cd_300 : List (Nat × Ent) := [
  (0, .aload_n 0, 1, 0, 0, 0, 0), (1, .invokevirtual 492, 3, 302, 1, 0, 848), (4, .ifCond .eq 12, 3, 0, 0, 0, 0), (7, .aload_n 0, 1, 0, 0, 0, 0), (8, .getfield 9, 3, 0, 0, 3, 2287), 
  (11, .iload_n 1, 1, 0, 0, 0, 0), (12, .invokestatic 495, 3, 304, 2, 1, 852), (15, .ireturn, 1, 0, 0, 2, 0), (16, .aload_n 0, 1, 0, 0, 0, 0), (17, .getfield 9, 3, 0, 0, 3, 2287), 
  (20, .iload_n 1, 1, 0, 0, 0, 0), (21, .invokestatic 498, 3, 0, 2, 99, 863), (24, .ireturn, 1, 0, 0, 2, 0)]
/-- java/lang/String coder ()B -/
noncomputable def cd_301 : List (Nat × Ent) := [
  (0, .getstatic 38, 3, 0, 0, 0, 842), (3, .ifCond .eq 10, 3, 0, 0, 0, 0), (6, .aload_n 0, 1, 0, 0, 0, 0), (7, .getfield 15, 3, 0, 0, 4, 2288), (10, .goto 4, 3, 0, 0, 0, 0), 
  (13, .iconst 1, 1, 0, 0, 0, 0), (14, .ireturn, 1, 0, 0, 3, 0)]
/-- java/lang/String isLatin1 ()Z -/
noncomputable def cd_302 : List (Nat × Ent) := [
  (0, .getstatic 38, 3, 0, 0, 0, 842), (3, .ifCond .eq 14, 3, 0, 0, 0, 0), (6, .aload_n 0, 1, 0, 0, 0, 0), (7, .getfield 15, 3, 0, 0, 4, 2288), (10, .ifCond .ne 7, 3, 0, 0, 0, 0), 
  (13, .iconst 1, 1, 0, 0, 0, 0), (14, .goto 4, 3, 0, 0, 0, 0), (17, .iconst 0, 1, 0, 0, 0, 0), (18, .ireturn, 1, 0, 0, 1, 0)]
/-- java/lang/String checkIndex (II)V -/
noncomputable def cd_303 : List (Nat × Ent) := [
  (0, .iload_n 0, 1, 0, 0, 0, 0), (1, .iload_n 1, 1, 0, 0, 0, 0), (2, .getstatic 1053, 3, 0, 0, 1, 858), (5, .invokestatic 1059, 3, 306, 3, 1, 860), (8, .pop, 1, 0, 0, 0, 0), 
  (9, .return_, 1, 0, 0, 0, 0)]
/-- java/lang/StringLatin1 charAt ([BI)C -/
noncomputable def cd_304 : List (Nat × Ent) := [
  (0, .iload_n 1, 1, 0, 0, 0, 0), (1, .aload_n 0, 1, 0, 0, 0, 0), (2, .arraylength, 1, 0, 0, 0, 0), (3, .invokestatic 9, 3, 303, 2, 1, 855), (6, .aload_n 0, 1, 0, 0, 0, 0), 
  (7, .iload_n 1, 1, 0, 0, 0, 0), (8, .baload, 1, 0, 0, 0, 0), (9, .sipush 255, 3, 0, 0, 0, 0), (12, .iand, 1, 0, 0, 0, 0), (13, .i2c, 1, 0, 0, 0, 0), (14, .ireturn, 1, 0, 0, 2, 0)]
/-- java/util/Arrays fill ([II)V -/
noncomputable def cd_305 : List (Nat × Ent) := [
  (0, .iconst 0, 1, 0, 0, 0, 0), (1, .istore_n 2, 1, 0, 0, 0, 0), (2, .aload_n 0, 1, 0, 0, 0, 0), (3, .arraylength, 1, 0, 0, 0, 0), (4, .istore_n 3, 1, 0, 0, 0, 0), 
  (5, .iload_n 2, 1, 0, 0, 0, 0), (6, .iload_n 3, 1, 0, 0, 0, 0), (7, .if_icmp .ge 13, 3, 0, 0, 0, 0), (10, .aload_n 0, 1, 0, 0, 0, 0), (11, .iload_n 2, 1, 0, 0, 0, 0), 
  (12, .iload_n 1, 1, 0, 0, 0, 0), (13, .iastore, 1, 0, 0, 0, 0), (14, .iinc 2 1, 3, 0, 0, 0, 0), (17, .goto (-12), 3, 0, 0, 0, 0), (20, .return_, 1, 0, 0, 0, 0)]
/-- jdk/internal/util/Preconditions checkIndex (IILjava/util/function/BiFunction;)I -/
noncomputable def cd_306 : List (Nat × Ent) := [
  (0, .iload_n 0, 1, 0, 0, 0, 0), (1, .ifCond .lt 8, 3, 0, 0, 0, 0), (4, .iload_n 0, 1, 0, 0, 0, 0), (5, .iload_n 1, 1, 0, 0, 0, 0), (6, .if_icmp .lt 10, 3, 0, 0, 0, 0), 
  (9, .aload_n 2, 1, 0, 0, 0, 0), (10, .iload_n 0, 1, 0, 0, 0, 0), (11, .iload_n 1, 1, 0, 0, 0, 0), (12, .invokestatic 95, 3, 0, 0, 0, 0), (15, .athrow, 1, 0, 0, 0, 0), 
  (16, .iload_n 0, 1, 0, 0, 0, 0), (17, .ireturn, 1, 0, 0, 0, 0)]
/-- DropSwitchLaw load (LDropSwitch;[J)I -/
noncomputable def cd_307 : List (Nat × Ent) := [
  (0, .aload_n 1, 1, 0, 0, 0, 0), (1, .iconst 0, 1, 0, 0, 0, 0), (2, .aload_n 0, 1, 0, 0, 0, 0), (3, .invokevirtual 7, 3, 101, 1, 0, 815), (6, .i2l, 1, 0, 0, 0, 0), 
  (7, .lastore, 1, 0, 0, 0, 0), (8, .goto 6, 3, 0, 0, 0, 0), (11, .astore_n 2, 1, 0, 0, 0, 0), (12, .iconst 1, 1, 0, 0, 0, 0), (13, .ireturn, 1, 0, 0, 0, 0), 
  (14, .iconst 0, 1, 0, 0, 0, 0), (15, .ireturn, 1, 0, 0, 0, 0)]
/-- DropSwitchLaw count (LDropSwitch;I[J)I -/
noncomputable def cd_308 : List (Nat × Ent) := [
  (0, .aload_n 2, 1, 0, 0, 0, 0), (1, .iconst 0, 1, 0, 0, 0, 0), (2, .aload_n 0, 1, 0, 0, 0, 0), (3, .iload_n 1, 1, 0, 0, 0, 0), (4, .invokevirtual 15, 3, 104, 2, 0, 1041), 
  (7, .i2l, 1, 0, 0, 0, 0), (8, .lastore, 1, 0, 0, 0, 0), (9, .goto 6, 3, 0, 0, 0, 0), (12, .astore_n 3, 1, 0, 0, 0, 0), (13, .iconst 1, 1, 0, 0, 0, 0), (14, .ireturn, 1, 0, 0, 0, 0), 
  (15, .iconst 0, 1, 0, 0, 0, 0), (16, .ireturn, 1, 0, 0, 0, 0)]
/-- DropSwitchLaw arrive (LDropSwitch;IIIII[J)I -/
noncomputable def cd_309 : List (Nat × Ent) := [
  (0, .aload 6, 2, 0, 0, 0, 0), (2, .iconst 0, 1, 0, 0, 0, 0), (3, .aload_n 0, 1, 0, 0, 0, 0), (4, .iload_n 1, 1, 0, 0, 0, 0), (5, .iload_n 2, 1, 0, 0, 0, 0), 
  (6, .iload_n 3, 1, 0, 0, 0, 0), (7, .iload 4, 2, 0, 0, 0, 0), (9, .iload 5, 2, 0, 0, 0, 0), (11, .invokevirtual 21, 3, 105, 6, 0, 1065), (14, .i2l, 1, 0, 0, 0, 0), 
  (15, .lastore, 1, 0, 0, 0, 0), (16, .goto 15, 3, 0, 0, 0, 0), (19, .astore 7, 2, 0, 0, 0, 0), (21, .iconst 1, 1, 0, 0, 0, 0), (22, .ireturn, 1, 0, 0, 0, 0), 
  (23, .astore 7, 2, 0, 0, 0, 0), (25, .iconst 2, 1, 0, 0, 0, 0), (26, .ireturn, 1, 0, 0, 0, 0), (27, .astore 7, 2, 0, 0, 0, 0), (29, .iconst 3, 1, 0, 0, 0, 0), 
  (30, .ireturn, 1, 0, 0, 0, 0), (31, .iconst 0, 1, 0, 0, 0, 0), (32, .ireturn, 1, 0, 0, 0, 0)]
/-- DropSwitchLaw tick (LDropSwitch;[J)I -/
noncomputable def cd_310 : List (Nat × Ent) := [
  (0, .aload_n 1, 1, 0, 0, 0, 0), (1, .iconst 0, 1, 0, 0, 0, 0), (2, .aload_n 0, 1, 0, 0, 0, 0), (3, .invokevirtual 29, 3, 106, 1, 0, 1147), (6, .i2l, 1, 0, 0, 0, 0), 
  (7, .lastore, 1, 0, 0, 0, 0), (8, .goto 6, 3, 0, 0, 0, 0), (11, .astore_n 2, 1, 0, 0, 0, 0), (12, .iconst 1, 1, 0, 0, 0, 0), (13, .ireturn, 1, 0, 0, 0, 0), 
  (14, .iconst 0, 1, 0, 0, 0, 0), (15, .ireturn, 1, 0, 0, 0, 0)]
/-- DropSwitchLaw link (LDropSwitch;IZ[J)I -/
noncomputable def cd_311 : List (Nat × Ent) := [
  (0, .aload_n 3, 1, 0, 0, 0, 0), (1, .iconst 0, 1, 0, 0, 0, 0), (2, .aload_n 0, 1, 0, 0, 0, 0), (3, .iload_n 1, 1, 0, 0, 0, 0), (4, .iload_n 2, 1, 0, 0, 0, 0), 
  (5, .invokevirtual 32, 3, 107, 3, 0, 1155), (8, .i2l, 1, 0, 0, 0, 0), (9, .lastore, 1, 0, 0, 0, 0), (10, .goto 11, 3, 0, 0, 0, 0), (13, .astore 4, 2, 0, 0, 0, 0), 
  (15, .iconst 1, 1, 0, 0, 0, 0), (16, .ireturn, 1, 0, 0, 0, 0), (17, .astore 4, 2, 0, 0, 0, 0), (19, .iconst 2, 1, 0, 0, 0, 0), (20, .ireturn, 1, 0, 0, 0, 0), 
  (21, .iconst 0, 1, 0, 0, 0, 0), (22, .ireturn, 1, 0, 0, 0, 0)]
/-- DropSwitchLaw rewind (LDropSwitch;I[J)I -/
noncomputable def cd_312 : List (Nat × Ent) := [
  (0, .aload_n 2, 1, 0, 0, 0, 0), (1, .iconst 0, 1, 0, 0, 0, 0), (2, .aload_n 0, 1, 0, 0, 0, 0), (3, .iload_n 1, 1, 0, 0, 0, 0), (4, .invokevirtual 36, 3, 108, 2, 0, 1162), 
  (7, .i2l, 1, 0, 0, 0, 0), (8, .lastore, 1, 0, 0, 0, 0), (9, .goto 6, 3, 0, 0, 0, 0), (12, .astore_n 3, 1, 0, 0, 0, 0), (13, .iconst 1, 1, 0, 0, 0, 0), (14, .ireturn, 1, 0, 0, 0, 0), 
  (15, .iconst 0, 1, 0, 0, 0, 0), (16, .ireturn, 1, 0, 0, 0, 0)]
/-- DropSwitchLaw eventKind (LDropSwitch;I[J)I -/
noncomputable def cd_313 : List (Nat × Ent) := [
  (0, .aload_n 2, 1, 0, 0, 0, 0), (1, .iconst 0, 1, 0, 0, 0, 0), (2, .aload_n 0, 1, 0, 0, 0, 0), (3, .iload_n 1, 1, 0, 0, 0, 0), (4, .invokevirtual 39, 3, 109, 2, 0, 1169), 
  (7, .i2l, 1, 0, 0, 0, 0), (8, .lastore, 1, 0, 0, 0, 0), (9, .goto 6, 3, 0, 0, 0, 0), (12, .astore_n 3, 1, 0, 0, 0, 0), (13, .iconst 1, 1, 0, 0, 0, 0), (14, .ireturn, 1, 0, 0, 0, 0), 
  (15, .iconst 0, 1, 0, 0, 0, 0), (16, .ireturn, 1, 0, 0, 0, 0)]
/-- DropSwitchLaw packetOf (LDropSwitch;I[J)I -/
noncomputable def cd_314 : List (Nat × Ent) := [
  (0, .aload_n 2, 1, 0, 0, 0, 0), (1, .iconst 0, 1, 0, 0, 0, 0), (2, .aload_n 0, 1, 0, 0, 0, 0), (3, .iload_n 1, 1, 0, 0, 0, 0), (4, .invokevirtual 42, 3, 110, 2, 0, 1180), 
  (7, .i2l, 1, 0, 0, 0, 0), (8, .lastore, 1, 0, 0, 0, 0), (9, .goto 6, 3, 0, 0, 0, 0), (12, .astore_n 3, 1, 0, 0, 0, 0), (13, .iconst 1, 1, 0, 0, 0, 0), (14, .ireturn, 1, 0, 0, 0, 0), 
  (15, .iconst 0, 1, 0, 0, 0, 0), (16, .ireturn, 1, 0, 0, 0, 0)]
/-- DropSwitchLaw arrivalOf (LDropSwitch;I[J)I -/
noncomputable def cd_315 : List (Nat × Ent) := [
  (0, .aload_n 2, 1, 0, 0, 0, 0), (1, .iconst 0, 1, 0, 0, 0, 0), (2, .aload_n 0, 1, 0, 0, 0, 0), (3, .iload_n 1, 1, 0, 0, 0, 0), (4, .invokevirtual 45, 3, 111, 2, 0, 1187), 
  (7, .i2l, 1, 0, 0, 0, 0), (8, .lastore, 1, 0, 0, 0, 0), (9, .goto 6, 3, 0, 0, 0, 0), (12, .astore_n 3, 1, 0, 0, 0, 0), (13, .iconst 1, 1, 0, 0, 0, 0), (14, .ireturn, 1, 0, 0, 0, 0), 
  (15, .iconst 0, 1, 0, 0, 0, 0), (16, .ireturn, 1, 0, 0, 0, 0)]
/-- DropSwitchLaw fill (LDropSwitch;I[J)I -/
noncomputable def cd_316 : List (Nat × Ent) := [
  (0, .aload_n 2, 1, 0, 0, 0, 0), (1, .iconst 0, 1, 0, 0, 0, 0), (2, .aload_n 0, 1, 0, 0, 0, 0), (3, .iload_n 1, 1, 0, 0, 0, 0), (4, .invokevirtual 48, 3, 112, 2, 0, 1198), 
  (7, .i2l, 1, 0, 0, 0, 0), (8, .lastore, 1, 0, 0, 0, 0), (9, .goto 6, 3, 0, 0, 0, 0), (12, .astore_n 3, 1, 0, 0, 0, 0), (13, .iconst 1, 1, 0, 0, 0, 0), (14, .ireturn, 1, 0, 0, 0, 0), 
  (15, .iconst 0, 1, 0, 0, 0, 0), (16, .ireturn, 1, 0, 0, 0, 0)]
/-- DropSwitchLaw queueLength (LDropSwitch;I[J)I -/
noncomputable def cd_317 : List (Nat × Ent) := [
  (0, .aload_n 2, 1, 0, 0, 0, 0), (1, .iconst 0, 1, 0, 0, 0, 0), (2, .aload_n 0, 1, 0, 0, 0, 0), (3, .iload_n 1, 1, 0, 0, 0, 0), (4, .invokevirtual 51, 3, 113, 2, 0, 1205), 
  (7, .i2l, 1, 0, 0, 0, 0), (8, .lastore, 1, 0, 0, 0, 0), (9, .goto 6, 3, 0, 0, 0, 0), (12, .astore_n 3, 1, 0, 0, 0, 0), (13, .iconst 1, 1, 0, 0, 0, 0), (14, .ireturn, 1, 0, 0, 0, 0), 
  (15, .iconst 0, 1, 0, 0, 0, 0), (16, .ireturn, 1, 0, 0, 0, 0)]
/-- DropSwitchLaw queued (LDropSwitch;II[J)I -/
noncomputable def cd_318 : List (Nat × Ent) := [
  (0, .aload_n 3, 1, 0, 0, 0, 0), (1, .iconst 0, 1, 0, 0, 0, 0), (2, .aload_n 0, 1, 0, 0, 0, 0), (3, .iload_n 1, 1, 0, 0, 0, 0), (4, .iload_n 2, 1, 0, 0, 0, 0), 
  (5, .invokevirtual 54, 3, 114, 3, 0, 1212), (8, .i2l, 1, 0, 0, 0, 0), (9, .lastore, 1, 0, 0, 0, 0), (10, .goto 7, 3, 0, 0, 0, 0), (13, .astore 4, 2, 0, 0, 0, 0), 
  (15, .iconst 1, 1, 0, 0, 0, 0), (16, .ireturn, 1, 0, 0, 0, 0), (17, .iconst 0, 1, 0, 0, 0, 0), (18, .ireturn, 1, 0, 0, 0, 0)]
/-- DropSwitchLaw isUp (LDropSwitch;I[J)I -/
noncomputable def cd_319 : List (Nat × Ent) := [
  (0, .aload_n 2, 1, 0, 0, 0, 0), (1, .iconst 0, 1, 0, 0, 0, 0), (2, .aload_n 0, 1, 0, 0, 0, 0), (3, .iload_n 1, 1, 0, 0, 0, 0), (4, .invokevirtual 58, 3, 115, 2, 0, 1220), 
  (7, .ifCond .eq 7, 3, 0, 0, 0, 0), (10, .lconst 1, 1, 0, 0, 0, 0), (11, .goto 4, 3, 0, 0, 0, 0), (14, .lconst 0, 1, 0, 0, 0, 0), (15, .lastore, 1, 0, 0, 0, 0), 
  (16, .goto 6, 3, 0, 0, 0, 0), (19, .astore_n 3, 1, 0, 0, 0, 0), (20, .iconst 1, 1, 0, 0, 0, 0), (21, .ireturn, 1, 0, 0, 0, 0), (22, .iconst 0, 1, 0, 0, 0, 0), 
  (23, .ireturn, 1, 0, 0, 0, 0)]
/-- DropSwitchLaw tokens (LDropSwitch;I[J)I -/
noncomputable def cd_320 : List (Nat × Ent) := [
  (0, .aload_n 2, 1, 0, 0, 0, 0), (1, .iconst 0, 1, 0, 0, 0, 0), (2, .aload_n 0, 1, 0, 0, 0, 0), (3, .iload_n 1, 1, 0, 0, 0, 0), (4, .invokevirtual 62, 3, 116, 2, 0, 1228), 
  (7, .i2l, 1, 0, 0, 0, 0), (8, .lastore, 1, 0, 0, 0, 0), (9, .goto 6, 3, 0, 0, 0, 0), (12, .astore_n 3, 1, 0, 0, 0, 0), (13, .iconst 1, 1, 0, 0, 0, 0), (14, .ireturn, 1, 0, 0, 0, 0), 
  (15, .iconst 0, 1, 0, 0, 0, 0), (16, .ireturn, 1, 0, 0, 0, 0)]
/-- DropSwitchLaw portOf (LDropSwitch;I[J)I -/
noncomputable def cd_321 : List (Nat × Ent) := [
  (0, .aload_n 2, 1, 0, 0, 0, 0), (1, .iconst 0, 1, 0, 0, 0, 0), (2, .aload_n 0, 1, 0, 0, 0, 0), (3, .iload_n 1, 1, 0, 0, 0, 0), (4, .invokevirtual 65, 3, 117, 2, 0, 1236), 
  (7, .i2l, 1, 0, 0, 0, 0), (8, .lastore, 1, 0, 0, 0, 0), (9, .goto 6, 3, 0, 0, 0, 0), (12, .astore_n 3, 1, 0, 0, 0, 0), (13, .iconst 1, 1, 0, 0, 0, 0), (14, .ireturn, 1, 0, 0, 0, 0), 
  (15, .iconst 0, 1, 0, 0, 0, 0), (16, .ireturn, 1, 0, 0, 0, 0)]
/-- DropSwitchLaw delivered (LDropSwitch;I[J)I -/
noncomputable def cd_322 : List (Nat × Ent) := [
  (0, .aload_n 2, 1, 0, 0, 0, 0), (1, .iconst 0, 1, 0, 0, 0, 0), (2, .aload_n 0, 1, 0, 0, 0, 0), (3, .iload_n 1, 1, 0, 0, 0, 0), (4, .invokevirtual 68, 3, 119, 2, 0, 1243), 
  (7, .i2l, 1, 0, 0, 0, 0), (8, .lastore, 1, 0, 0, 0, 0), (9, .goto 6, 3, 0, 0, 0, 0), (12, .astore_n 3, 1, 0, 0, 0, 0), (13, .iconst 1, 1, 0, 0, 0, 0), (14, .ireturn, 1, 0, 0, 0, 0), 
  (15, .iconst 0, 1, 0, 0, 0, 0), (16, .ireturn, 1, 0, 0, 0, 0)]
/-- DropSwitchLaw fate (LDropSwitch;II[J)I -/
noncomputable def cd_323 : List (Nat × Ent) := [
  (0, .aload_n 3, 1, 0, 0, 0, 0), (1, .iconst 0, 1, 0, 0, 0, 0), (2, .aload_n 0, 1, 0, 0, 0, 0), (3, .iload_n 1, 1, 0, 0, 0, 0), (4, .iload_n 2, 1, 0, 0, 0, 0), 
  (5, .invokevirtual 71, 3, 120, 3, 0, 1250), (8, .i2l, 1, 0, 0, 0, 0), (9, .lastore, 1, 0, 0, 0, 0), (10, .goto 7, 3, 0, 0, 0, 0), (13, .astore 4, 2, 0, 0, 0, 0), 
  (15, .iconst 1, 1, 0, 0, 0, 0), (16, .ireturn, 1, 0, 0, 0, 0), (17, .iconst 0, 1, 0, 0, 0, 0), (18, .ireturn, 1, 0, 0, 0, 0)]
/-- DropSwitchLaw dropField (LDropSwitch;II[J)I -/
noncomputable def cd_324 : List (Nat × Ent) := [
  (0, .aload_n 3, 1, 0, 0, 0, 0), (1, .iconst 0, 1, 0, 0, 0, 0), (2, .aload_n 0, 1, 0, 0, 0, 0), (3, .iload_n 1, 1, 0, 0, 0, 0), (4, .iload_n 2, 1, 0, 0, 0, 0), 
  (5, .invokevirtual 74, 3, 121, 3, 0, 1258), (8, .i2l, 1, 0, 0, 0, 0), (9, .lastore, 1, 0, 0, 0, 0), (10, .goto 11, 3, 0, 0, 0, 0), (13, .astore 4, 2, 0, 0, 0, 0), 
  (15, .iconst 1, 1, 0, 0, 0, 0), (16, .ireturn, 1, 0, 0, 0, 0), (17, .astore 4, 2, 0, 0, 0, 0), (19, .iconst 2, 1, 0, 0, 0, 0), (20, .ireturn, 1, 0, 0, 0, 0), 
  (21, .iconst 0, 1, 0, 0, 0, 0), (22, .ireturn, 1, 0, 0, 0, 0)]
/-- DropSwitchLaw firstDrop (LDropSwitch;I[J)I -/
noncomputable def cd_325 : List (Nat × Ent) := [
  (0, .aload_n 2, 1, 0, 0, 0, 0), (1, .iconst 0, 1, 0, 0, 0, 0), (2, .aload_n 0, 1, 0, 0, 0, 0), (3, .iload_n 1, 1, 0, 0, 0, 0), (4, .invokevirtual 77, 3, 122, 2, 0, 1270), 
  (7, .i2l, 1, 0, 0, 0, 0), (8, .lastore, 1, 0, 0, 0, 0), (9, .goto 6, 3, 0, 0, 0, 0), (12, .astore_n 3, 1, 0, 0, 0, 0), (13, .iconst 1, 1, 0, 0, 0, 0), (14, .ireturn, 1, 0, 0, 0, 0), 
  (15, .iconst 0, 1, 0, 0, 0, 0), (16, .ireturn, 1, 0, 0, 0, 0)]
/-- DropSwitchLaw dropsBy (LDropSwitch;I[J)I -/
noncomputable def cd_326 : List (Nat × Ent) := [
  (0, .aload_n 2, 1, 0, 0, 0, 0), (1, .iconst 0, 1, 0, 0, 0, 0), (2, .aload_n 0, 1, 0, 0, 0, 0), (3, .iload_n 1, 1, 0, 0, 0, 0), (4, .invokevirtual 80, 3, 123, 2, 0, 1277), 
  (7, .i2l, 1, 0, 0, 0, 0), (8, .lastore, 1, 0, 0, 0, 0), (9, .goto 6, 3, 0, 0, 0, 0), (12, .astore_n 3, 1, 0, 0, 0, 0), (13, .iconst 1, 1, 0, 0, 0, 0), (14, .ireturn, 1, 0, 0, 0, 0), 
  (15, .iconst 0, 1, 0, 0, 0, 0), (16, .ireturn, 1, 0, 0, 0, 0)]
/-- DropSwitchLaw dropsByRule (LDropSwitch;I[J)I -/
noncomputable def cd_327 : List (Nat × Ent) := [
  (0, .aload_n 2, 1, 0, 0, 0, 0), (1, .iconst 0, 1, 0, 0, 0, 0), (2, .aload_n 0, 1, 0, 0, 0, 0), (3, .iload_n 1, 1, 0, 0, 0, 0), (4, .invokevirtual 83, 3, 124, 2, 0, 1292), 
  (7, .i2l, 1, 0, 0, 0, 0), (8, .lastore, 1, 0, 0, 0, 0), (9, .goto 6, 3, 0, 0, 0, 0), (12, .astore_n 3, 1, 0, 0, 0, 0), (13, .iconst 1, 1, 0, 0, 0, 0), (14, .ireturn, 1, 0, 0, 0, 0), 
  (15, .iconst 0, 1, 0, 0, 0, 0), (16, .ireturn, 1, 0, 0, 0, 0)]
/-- DropSwitchLaw pushedBy (LDropSwitch;I[J)I -/
noncomputable def cd_328 : List (Nat × Ent) := [
  (0, .aload_n 2, 1, 0, 0, 0, 0), (1, .iconst 0, 1, 0, 0, 0, 0), (2, .aload_n 0, 1, 0, 0, 0, 0), (3, .iload_n 1, 1, 0, 0, 0, 0), (4, .invokevirtual 86, 3, 125, 2, 0, 1307), 
  (7, .i2l, 1, 0, 0, 0, 0), (8, .lastore, 1, 0, 0, 0, 0), (9, .goto 6, 3, 0, 0, 0, 0), (12, .astore_n 3, 1, 0, 0, 0, 0), (13, .iconst 1, 1, 0, 0, 0, 0), (14, .ireturn, 1, 0, 0, 0, 0), 
  (15, .iconst 0, 1, 0, 0, 0, 0), (16, .ireturn, 1, 0, 0, 0, 0)]
/-- DropSwitchLaw repeats (LDropSwitch;I[J)I -/
noncomputable def cd_329 : List (Nat × Ent) := [
  (0, .aload_n 2, 1, 0, 0, 0, 0), (1, .iconst 0, 1, 0, 0, 0, 0), (2, .aload_n 0, 1, 0, 0, 0, 0), (3, .iload_n 1, 1, 0, 0, 0, 0), (4, .invokevirtual 89, 3, 127, 2, 0, 1314), 
  (7, .i2l, 1, 0, 0, 0, 0), (8, .lastore, 1, 0, 0, 0, 0), (9, .goto 6, 3, 0, 0, 0, 0), (12, .astore_n 3, 1, 0, 0, 0, 0), (13, .iconst 1, 1, 0, 0, 0, 0), (14, .ireturn, 1, 0, 0, 0, 0), 
  (15, .iconst 0, 1, 0, 0, 0, 0), (16, .ireturn, 1, 0, 0, 0, 0)]
/-- DropSwitchLaw fillAt (LDropSwitch;II[J)I -/
noncomputable def cd_330 : List (Nat × Ent) := [
  (0, .aload_n 3, 1, 0, 0, 0, 0), (1, .iconst 0, 1, 0, 0, 0, 0), (2, .aload_n 0, 1, 0, 0, 0, 0), (3, .iload_n 1, 1, 0, 0, 0, 0), (4, .iload_n 2, 1, 0, 0, 0, 0), 
  (5, .invokevirtual 92, 3, 128, 3, 0, 1330), (8, .i2l, 1, 0, 0, 0, 0), (9, .lastore, 1, 0, 0, 0, 0), (10, .goto 7, 3, 0, 0, 0, 0), (13, .astore 4, 2, 0, 0, 0, 0), 
  (15, .iconst 1, 1, 0, 0, 0, 0), (16, .ireturn, 1, 0, 0, 0, 0), (17, .iconst 0, 1, 0, 0, 0, 0), (18, .ireturn, 1, 0, 0, 0, 0)]
/-- DropSwitchLaw portAt (LDropSwitch;II[J)I -/
noncomputable def cd_331 : List (Nat × Ent) := [
  (0, .aload_n 3, 1, 0, 0, 0, 0), (1, .iconst 0, 1, 0, 0, 0, 0), (2, .aload_n 0, 1, 0, 0, 0, 0), (3, .iload_n 1, 1, 0, 0, 0, 0), (4, .iload_n 2, 1, 0, 0, 0, 0), 
  (5, .invokevirtual 95, 3, 129, 3, 0, 1346), (8, .i2l, 1, 0, 0, 0, 0), (9, .lastore, 1, 0, 0, 0, 0), (10, .goto 11, 3, 0, 0, 0, 0), (13, .astore 4, 2, 0, 0, 0, 0), 
  (15, .iconst 1, 1, 0, 0, 0, 0), (16, .ireturn, 1, 0, 0, 0, 0), (17, .astore 4, 2, 0, 0, 0, 0), (19, .iconst 2, 1, 0, 0, 0, 0), (20, .ireturn, 1, 0, 0, 0, 0), 
  (21, .iconst 0, 1, 0, 0, 0, 0), (22, .ireturn, 1, 0, 0, 0, 0)]
/-- DropSwitchLaw peak (LDropSwitch;I[J)I -/
noncomputable def cd_332 : List (Nat × Ent) := [
  (0, .aload_n 2, 1, 0, 0, 0, 0), (1, .iconst 0, 1, 0, 0, 0, 0), (2, .aload_n 0, 1, 0, 0, 0, 0), (3, .iload_n 1, 1, 0, 0, 0, 0), (4, .invokevirtual 98, 3, 130, 2, 0, 1353), 
  (7, .i2l, 1, 0, 0, 0, 0), (8, .lastore, 1, 0, 0, 0, 0), (9, .goto 6, 3, 0, 0, 0, 0), (12, .astore_n 3, 1, 0, 0, 0, 0), (13, .iconst 1, 1, 0, 0, 0, 0), (14, .ireturn, 1, 0, 0, 0, 0), 
  (15, .iconst 0, 1, 0, 0, 0, 0), (16, .ireturn, 1, 0, 0, 0, 0)]
/-- DropSwitchLaw suppose (LDropSwitch;III[J)I -/
noncomputable def cd_333 : List (Nat × Ent) := [
  (0, .aload 4, 2, 0, 0, 0, 0), (2, .iconst 0, 1, 0, 0, 0, 0), (3, .aload_n 0, 1, 0, 0, 0, 0), (4, .iload_n 1, 1, 0, 0, 0, 0), (5, .iload_n 2, 1, 0, 0, 0, 0), 
  (6, .iload_n 3, 1, 0, 0, 0, 0), (7, .invokevirtual 101, 3, 131, 4, 0, 1360), (10, .i2l, 1, 0, 0, 0, 0), (11, .lastore, 1, 0, 0, 0, 0), (12, .goto 15, 3, 0, 0, 0, 0), 
  (15, .astore 5, 2, 0, 0, 0, 0), (17, .iconst 1, 1, 0, 0, 0, 0), (18, .ireturn, 1, 0, 0, 0, 0), (19, .astore 5, 2, 0, 0, 0, 0), (21, .iconst 2, 1, 0, 0, 0, 0), 
  (22, .ireturn, 1, 0, 0, 0, 0), (23, .astore 5, 2, 0, 0, 0, 0), (25, .iconst 3, 1, 0, 0, 0, 0), (26, .ireturn, 1, 0, 0, 0, 0), (27, .iconst 0, 1, 0, 0, 0, 0), 
  (28, .ireturn, 1, 0, 0, 0, 0)]
/-- DropSwitchLaw leaveOut (LDropSwitch;I[J)I -/
noncomputable def cd_334 : List (Nat × Ent) := [
  (0, .aload_n 2, 1, 0, 0, 0, 0), (1, .iconst 0, 1, 0, 0, 0, 0), (2, .aload_n 0, 1, 0, 0, 0, 0), (3, .iload_n 1, 1, 0, 0, 0, 0), (4, .invokevirtual 105, 3, 132, 2, 0, 1374), 
  (7, .i2l, 1, 0, 0, 0, 0), (8, .lastore, 1, 0, 0, 0, 0), (9, .goto 6, 3, 0, 0, 0, 0), (12, .astore_n 3, 1, 0, 0, 0, 0), (13, .iconst 1, 1, 0, 0, 0, 0), (14, .ireturn, 1, 0, 0, 0, 0), 
  (15, .iconst 0, 1, 0, 0, 0, 0), (16, .ireturn, 1, 0, 0, 0, 0)]
/-- DropSwitchLaw supposedDropsBy (LDropSwitch;I[J)I -/
noncomputable def cd_335 : List (Nat × Ent) := [
  (0, .aload_n 2, 1, 0, 0, 0, 0), (1, .iconst 0, 1, 0, 0, 0, 0), (2, .aload_n 0, 1, 0, 0, 0, 0), (3, .iload_n 1, 1, 0, 0, 0, 0), (4, .invokevirtual 108, 3, 135, 2, 0, 1381), 
  (7, .i2l, 1, 0, 0, 0, 0), (8, .lastore, 1, 0, 0, 0, 0), (9, .goto 6, 3, 0, 0, 0, 0), (12, .astore_n 3, 1, 0, 0, 0, 0), (13, .iconst 1, 1, 0, 0, 0, 0), (14, .ireturn, 1, 0, 0, 0, 0), 
  (15, .iconst 0, 1, 0, 0, 0, 0), (16, .ireturn, 1, 0, 0, 0, 0)]
/-- DropSwitchLaw supposedFate (LDropSwitch;II[J)I -/
noncomputable def cd_336 : List (Nat × Ent) := [
  (0, .aload_n 3, 1, 0, 0, 0, 0), (1, .iconst 0, 1, 0, 0, 0, 0), (2, .aload_n 0, 1, 0, 0, 0, 0), (3, .iload_n 1, 1, 0, 0, 0, 0), (4, .iload_n 2, 1, 0, 0, 0, 0), 
  (5, .invokevirtual 111, 3, 136, 3, 0, 1388), (8, .i2l, 1, 0, 0, 0, 0), (9, .lastore, 1, 0, 0, 0, 0), (10, .goto 7, 3, 0, 0, 0, 0), (13, .astore 4, 2, 0, 0, 0, 0), 
  (15, .iconst 1, 1, 0, 0, 0, 0), (16, .ireturn, 1, 0, 0, 0, 0), (17, .iconst 0, 1, 0, 0, 0, 0), (18, .ireturn, 1, 0, 0, 0, 0)]
/-- DropSwitchLaw supposedDelivered (LDropSwitch;I[J)I -/
noncomputable def cd_337 : List (Nat × Ent) := [
  (0, .aload_n 2, 1, 0, 0, 0, 0), (1, .iconst 0, 1, 0, 0, 0, 0), (2, .aload_n 0, 1, 0, 0, 0, 0), (3, .iload_n 1, 1, 0, 0, 0, 0), (4, .invokevirtual 114, 3, 137, 2, 0, 1395), 
  (7, .i2l, 1, 0, 0, 0, 0), (8, .lastore, 1, 0, 0, 0, 0), (9, .goto 6, 3, 0, 0, 0, 0), (12, .astore_n 3, 1, 0, 0, 0, 0), (13, .iconst 1, 1, 0, 0, 0, 0), (14, .ireturn, 1, 0, 0, 0, 0), 
  (15, .iconst 0, 1, 0, 0, 0, 0), (16, .ireturn, 1, 0, 0, 0, 0)]
/-- DropSwitchLaw evidenceCount (LDropSwitch;I[J)I -/
noncomputable def cd_338 : List (Nat × Ent) := [
  (0, .aload_n 2, 1, 0, 0, 0, 0), (1, .iconst 0, 1, 0, 0, 0, 0), (2, .aload_n 0, 1, 0, 0, 0, 0), (3, .iload_n 1, 1, 0, 0, 0, 0), (4, .invokevirtual 117, 3, 140, 2, 0, 1402), 
  (7, .i2l, 1, 0, 0, 0, 0), (8, .lastore, 1, 0, 0, 0, 0), (9, .goto 6, 3, 0, 0, 0, 0), (12, .astore_n 3, 1, 0, 0, 0, 0), (13, .iconst 1, 1, 0, 0, 0, 0), (14, .ireturn, 1, 0, 0, 0, 0), 
  (15, .iconst 0, 1, 0, 0, 0, 0), (16, .ireturn, 1, 0, 0, 0, 0)]
/-- DropSwitchLaw evidence (LDropSwitch;II[J)I -/
noncomputable def cd_339 : List (Nat × Ent) := [
  (0, .aload_n 3, 1, 0, 0, 0, 0), (1, .iconst 0, 1, 0, 0, 0, 0), (2, .aload_n 0, 1, 0, 0, 0, 0), (3, .iload_n 1, 1, 0, 0, 0, 0), (4, .iload_n 2, 1, 0, 0, 0, 0), 
  (5, .invokevirtual 120, 3, 141, 3, 0, 1418), (8, .i2l, 1, 0, 0, 0, 0), (9, .lastore, 1, 0, 0, 0, 0), (10, .goto 7, 3, 0, 0, 0, 0), (13, .astore 4, 2, 0, 0, 0, 0), 
  (15, .iconst 1, 1, 0, 0, 0, 0), (16, .ireturn, 1, 0, 0, 0, 0), (17, .iconst 0, 1, 0, 0, 0, 0), (18, .ireturn, 1, 0, 0, 0, 0)]
/-- DropSwitchLaw leastCapacity (LDropSwitch;I[J)I -/
noncomputable def cd_340 : List (Nat × Ent) := [
  (0, .aload_n 2, 1, 0, 0, 0, 0), (1, .iconst 0, 1, 0, 0, 0, 0), (2, .aload_n 0, 1, 0, 0, 0, 0), (3, .iload_n 1, 1, 0, 0, 0, 0), (4, .invokevirtual 123, 3, 142, 2, 0, 1425), 
  (7, .i2l, 1, 0, 0, 0, 0), (8, .lastore, 1, 0, 0, 0, 0), (9, .goto 6, 3, 0, 0, 0, 0), (12, .astore_n 3, 1, 0, 0, 0, 0), (13, .iconst 1, 1, 0, 0, 0, 0), (14, .ireturn, 1, 0, 0, 0, 0), 
  (15, .iconst 0, 1, 0, 0, 0, 0), (16, .ireturn, 1, 0, 0, 0, 0)]
/-- DropSwitchLaw savingRules (LDropSwitch;I[J)I -/
noncomputable def cd_341 : List (Nat × Ent) := [
  (0, .aload_n 2, 1, 0, 0, 0, 0), (1, .iconst 0, 1, 0, 0, 0, 0), (2, .aload_n 0, 1, 0, 0, 0, 0), (3, .iload_n 1, 1, 0, 0, 0, 0), (4, .invokevirtual 126, 3, 143, 2, 0, 1440), 
  (7, .i2l, 1, 0, 0, 0, 0), (8, .lastore, 1, 0, 0, 0, 0), (9, .goto 6, 3, 0, 0, 0, 0), (12, .astore_n 3, 1, 0, 0, 0, 0), (13, .iconst 1, 1, 0, 0, 0, 0), (14, .ireturn, 1, 0, 0, 0, 0), 
  (15, .iconst 0, 1, 0, 0, 0, 0), (16, .ireturn, 1, 0, 0, 0, 0)]
/-- DropSwitchLaw formatDrop (LDropSwitch;I[J)I -/
noncomputable def cd_342 : List (Nat × Ent) := [
  (0, .aload_n 2, 1, 0, 0, 0, 0), (1, .iconst 0, 1, 0, 0, 0, 0), (2, .aload_n 0, 1, 0, 0, 0, 0), (3, .iload_n 1, 1, 0, 0, 0, 0), (4, .invokevirtual 129, 3, 144, 2, 0, 1447), 
  (7, .i2l, 1, 0, 0, 0, 0), (8, .lastore, 1, 0, 0, 0, 0), (9, .goto 6, 3, 0, 0, 0, 0), (12, .astore_n 3, 1, 0, 0, 0, 0), (13, .iconst 1, 1, 0, 0, 0, 0), (14, .ireturn, 1, 0, 0, 0, 0), 
  (15, .iconst 0, 1, 0, 0, 0, 0), (16, .ireturn, 1, 0, 0, 0, 0)]
/-- DropSwitchLaw formatQueue (LDropSwitch;I[J)I -/
noncomputable def cd_343 : List (Nat × Ent) := [
  (0, .aload_n 2, 1, 0, 0, 0, 0), (1, .iconst 0, 1, 0, 0, 0, 0), (2, .aload_n 0, 1, 0, 0, 0, 0), (3, .iload_n 1, 1, 0, 0, 0, 0), (4, .invokevirtual 132, 3, 145, 2, 0, 1490), 
  (7, .i2l, 1, 0, 0, 0, 0), (8, .lastore, 1, 0, 0, 0, 0), (9, .goto 6, 3, 0, 0, 0, 0), (12, .astore_n 3, 1, 0, 0, 0, 0), (13, .iconst 1, 1, 0, 0, 0, 0), (14, .ireturn, 1, 0, 0, 0, 0), 
  (15, .iconst 0, 1, 0, 0, 0, 0), (16, .ireturn, 1, 0, 0, 0, 0)]
/-- DropSwitchLaw law ([I)Z -/
noncomputable def cd_344 : List (Nat × Ent) := [
  (0, .new 8, 3, 9, 17, 0, 149), (3, .dup, 1, 0, 0, 0, 0), (4, .invokespecial 135, 3, 98, 1, 2, 151), (7, .astore_n 1, 1, 0, 0, 0, 0), (8, .new 136, 3, 10, 76, 0, 1495), 
  (11, .dup, 1, 0, 0, 0, 0), (12, .invokespecial 138, 3, 167, 1, 2, 1497), (15, .astore_n 2, 1, 0, 0, 0, 0), (16, .iconst 1, 1, 0, 0, 0, 0), (17, .newarray .long, 2, 2, 0, 0, 0), 
  (19, .astore_n 3, 1, 0, 0, 0, 0), (20, .iconst 0, 1, 0, 0, 0, 0), (21, .istore 4, 2, 0, 0, 0, 0), (23, .iload 4, 2, 0, 0, 0, 0), (25, .aload_n 0, 1, 0, 0, 0, 0), 
  (26, .arraylength, 1, 0, 0, 0, 0), (27, .bipush 6, 2, 0, 0, 0, 0), (29, .isub, 1, 0, 0, 0, 0), (30, .if_icmp .gt 2690, 3, 0, 0, 0, 0), (33, .aload_n 0, 1, 0, 0, 0, 0), 
  (34, .iload 4, 2, 0, 0, 0, 0), (36, .iaload, 1, 0, 0, 0, 0), (37, .bipush 63, 2, 0, 0, 0, 0), (39, .iand, 1, 0, 0, 0, 0), 
  (40, .tableswitch 2674 0 47 #[208, 281, 306, 350, 363, 376, 432, 536, 580, 664, 720, 776, 832, 888, 944, 1000, 1068, 1131, 1187, 1243, 1256, 1312, 1380, 1448, 1504, 1560, 1616, 1672, 1685, 1741, 1809, 1877, 1933, 2013, 2069, 2082, 2095, 2151, 2219, 2275, 2288, 2301, 2357, 2425, 2481, 2537, 2593, 2649], 208, 0, 0, 0, 0), 
  (248, .aload_n 1, 1, 0, 0, 0, 0), (249, .aload_n 0, 1, 0, 0, 0, 0), (250, .iload 4, 2, 0, 0, 0, 0), (252, .iconst 1, 1, 0, 0, 0, 0), (253, .iadd, 1, 0, 0, 0, 0), 
  (254, .iaload, 1, 0, 0, 0, 0), (255, .aload_n 0, 1, 0, 0, 0, 0), (256, .iload 4, 2, 0, 0, 0, 0), (258, .iconst 2, 1, 0, 0, 0, 0), (259, .iadd, 1, 0, 0, 0, 0), 
  (260, .iaload, 1, 0, 0, 0, 0), (261, .aload_n 0, 1, 0, 0, 0, 0), (262, .iload 4, 2, 0, 0, 0, 0), (264, .iconst 3, 1, 0, 0, 0, 0), (265, .iadd, 1, 0, 0, 0, 0), 
  (266, .iaload, 1, 0, 0, 0, 0), (267, .aload_n 0, 1, 0, 0, 0, 0), (268, .iload 4, 2, 0, 0, 0, 0), (270, .iconst 4, 1, 0, 0, 0, 0), (271, .iadd, 1, 0, 0, 0, 0), 
  (272, .iaload, 1, 0, 0, 0, 0), (273, .aload_n 0, 1, 0, 0, 0, 0), (274, .iload 4, 2, 0, 0, 0, 0), (276, .iconst 5, 1, 0, 0, 0, 0), (277, .iadd, 1, 0, 0, 0, 0), 
  (278, .iaload, 1, 0, 0, 0, 0), (279, .invokevirtual 139, 3, 99, 6, 0, 590), (282, .aload_n 2, 1, 0, 0, 0, 0), (283, .aload_n 0, 1, 0, 0, 0, 0), (284, .iload 4, 2, 0, 0, 0, 0), 
  (286, .iconst 1, 1, 0, 0, 0, 0), (287, .iadd, 1, 0, 0, 0, 0), (288, .iaload, 1, 0, 0, 0, 0), (289, .aload_n 0, 1, 0, 0, 0, 0), (290, .iload 4, 2, 0, 0, 0, 0), 
  (292, .iconst 2, 1, 0, 0, 0, 0), (293, .iadd, 1, 0, 0, 0, 0), (294, .iaload, 1, 0, 0, 0, 0), (295, .aload_n 0, 1, 0, 0, 0, 0), (296, .iload 4, 2, 0, 0, 0, 0), 
  (298, .iconst 3, 1, 0, 0, 0, 0), (299, .iadd, 1, 0, 0, 0, 0), (300, .iaload, 1, 0, 0, 0, 0), (301, .aload_n 0, 1, 0, 0, 0, 0), (302, .iload 4, 2, 0, 0, 0, 0), 
  (304, .iconst 4, 1, 0, 0, 0, 0), (305, .iadd, 1, 0, 0, 0, 0), (306, .iaload, 1, 0, 0, 0, 0), (307, .aload_n 0, 1, 0, 0, 0, 0), (308, .iload 4, 2, 0, 0, 0, 0), 
  (310, .iconst 5, 1, 0, 0, 0, 0), (311, .iadd, 1, 0, 0, 0, 0), (312, .iaload, 1, 0, 0, 0, 0), (313, .invokevirtual 142, 3, 171, 6, 0, 1734), (316, .if_icmp .eq 2398, 3, 0, 0, 0, 0), 
  (319, .iconst 0, 1, 0, 0, 0, 0), (320, .ireturn, 1, 0, 0, 1, 0), (321, .aload_n 1, 1, 0, 0, 0, 0), (322, .aload_n 0, 1, 0, 0, 0, 0), (323, .iload 4, 2, 0, 0, 0, 0), 
  (325, .iconst 1, 1, 0, 0, 0, 0), (326, .iadd, 1, 0, 0, 0, 0), (327, .iaload, 1, 0, 0, 0, 0), (328, .invokevirtual 143, 3, 100, 2, 0, 598), (331, .aload_n 2, 1, 0, 0, 0, 0), 
  (332, .aload_n 0, 1, 0, 0, 0, 0), (333, .iload 4, 2, 0, 0, 0, 0), (335, .iconst 1, 1, 0, 0, 0, 0), (336, .iadd, 1, 0, 0, 0, 0), (337, .iaload, 1, 0, 0, 0, 0), 
  (338, .invokevirtual 146, 3, 172, 2, 0, 1738), (341, .if_icmp .eq 2373, 3, 0, 0, 0, 0), (344, .iconst 0, 1, 0, 0, 0, 0), (345, .ireturn, 1, 0, 0, 1, 0), 
  (346, .aload_n 1, 1, 0, 0, 0, 0), (347, .aload_n 3, 1, 0, 0, 0, 0), (348, .invokestatic 147, 3, 307, 2, 7, 811), (351, .istore 5, 2, 0, 0, 0, 0), (353, .aload_n 2, 1, 0, 0, 0, 0), 
  (354, .invokevirtual 152, 3, 198, 1, 0, 1742), (357, .istore 6, 2, 0, 0, 0, 0), (359, .aload_n 2, 1, 0, 0, 0, 0), (360, .invokevirtual 153, 3, 168, 1, 0, 1730), 
  (363, .iload 5, 2, 0, 0, 0, 0), (365, .if_icmp .eq 5, 3, 0, 0, 0, 0), (368, .iconst 0, 1, 0, 0, 0, 0), (369, .ireturn, 1, 0, 0, 1, 0), (370, .iload 5, 2, 0, 0, 0, 0), 
  (372, .ifCond .ne 15, 3, 0, 0, 0, 0), (375, .aload_n 3, 1, 0, 0, 0, 0), (376, .iconst 0, 1, 0, 0, 0, 0), (377, .laload, 1, 0, 0, 0, 0), (378, .iload 6, 2, 0, 0, 0, 0), 
  (380, .i2l, 1, 0, 0, 0, 0), (381, .lcmp, 1, 0, 0, 0, 0), (382, .ifCond .eq 5, 3, 0, 0, 0, 0), (385, .iconst 0, 1, 0, 0, 0, 0), (386, .ireturn, 1, 0, 0, 1, 0), 
  (387, .goto 2327, 3, 0, 0, 0, 0), (390, .aload_n 1, 1, 0, 0, 0, 0), (391, .invokevirtual 156, 3, 102, 1, 0, 602), (394, .aload_n 2, 1, 0, 0, 0, 0), 
  (395, .invokevirtual 159, 3, 199, 1, 0, 1874), (398, .if_icmp .eq 2316, 3, 0, 0, 0, 0), (401, .iconst 0, 1, 0, 0, 0, 0), (402, .ireturn, 1, 0, 0, 1, 0), 
  (403, .aload_n 1, 1, 0, 0, 0, 0), (404, .invokevirtual 160, 3, 103, 1, 0, 606), (407, .aload_n 2, 1, 0, 0, 0, 0), (408, .invokevirtual 163, 3, 200, 1, 0, 1878), 
  (411, .if_icmp .eq 2303, 3, 0, 0, 0, 0), (414, .iconst 0, 1, 0, 0, 0, 0), (415, .ireturn, 1, 0, 0, 1, 0), (416, .aload_n 1, 1, 0, 0, 0, 0), (417, .aload_n 0, 1, 0, 0, 0, 0), 
  (418, .iload 4, 2, 0, 0, 0, 0), (420, .iconst 1, 1, 0, 0, 0, 0), (421, .iadd, 1, 0, 0, 0, 0), (422, .iaload, 1, 0, 0, 0, 0), (423, .aload_n 3, 1, 0, 0, 0, 0), 
  (424, .invokestatic 164, 3, 308, 3, 7, 1037), (427, .istore 5, 2, 0, 0, 0, 0), (429, .aload_n 2, 1, 0, 0, 0, 0), (430, .aload_n 0, 1, 0, 0, 0, 0), (431, .iload 4, 2, 0, 0, 0, 0), 
  (433, .iconst 1, 1, 0, 0, 0, 0), (434, .iadd, 1, 0, 0, 0, 0), (435, .iaload, 1, 0, 0, 0, 0), (436, .invokevirtual 167, 3, 238, 2, 0, 2008), (439, .istore 6, 2, 0, 0, 0, 0), 
  (441, .aload_n 2, 1, 0, 0, 0, 0), (442, .invokevirtual 153, 3, 168, 1, 0, 1730), (445, .iload 5, 2, 0, 0, 0, 0), (447, .if_icmp .eq 5, 3, 0, 0, 0, 0), 
  (450, .iconst 0, 1, 0, 0, 0, 0), (451, .ireturn, 1, 0, 0, 1, 0), (452, .iload 5, 2, 0, 0, 0, 0), (454, .ifCond .ne 15, 3, 0, 0, 0, 0), (457, .aload_n 3, 1, 0, 0, 0, 0), 
  (458, .iconst 0, 1, 0, 0, 0, 0), (459, .laload, 1, 0, 0, 0, 0), (460, .iload 6, 2, 0, 0, 0, 0), (462, .i2l, 1, 0, 0, 0, 0), (463, .lcmp, 1, 0, 0, 0, 0), 
  (464, .ifCond .eq 5, 3, 0, 0, 0, 0), (467, .iconst 0, 1, 0, 0, 0, 0), (468, .ireturn, 1, 0, 0, 1, 0), (469, .goto 2245, 3, 0, 0, 0, 0), (472, .aload_n 1, 1, 0, 0, 0, 0), 
  (473, .aload_n 0, 1, 0, 0, 0, 0), (474, .iload 4, 2, 0, 0, 0, 0), (476, .iconst 1, 1, 0, 0, 0, 0), (477, .iadd, 1, 0, 0, 0, 0), (478, .iaload, 1, 0, 0, 0, 0), 
  (479, .aload_n 0, 1, 0, 0, 0, 0), (480, .iload 4, 2, 0, 0, 0, 0), (482, .iconst 2, 1, 0, 0, 0, 0), (483, .iadd, 1, 0, 0, 0, 0), (484, .iaload, 1, 0, 0, 0, 0), 
  (485, .aload_n 0, 1, 0, 0, 0, 0), (486, .iload 4, 2, 0, 0, 0, 0), (488, .iconst 3, 1, 0, 0, 0, 0), (489, .iadd, 1, 0, 0, 0, 0), (490, .iaload, 1, 0, 0, 0, 0), 
  (491, .aload_n 0, 1, 0, 0, 0, 0), (492, .iload 4, 2, 0, 0, 0, 0), (494, .iconst 4, 1, 0, 0, 0, 0), (495, .iadd, 1, 0, 0, 0, 0), (496, .iaload, 1, 0, 0, 0, 0), 
  (497, .aload_n 0, 1, 0, 0, 0, 0), (498, .iload 4, 2, 0, 0, 0, 0), (500, .iconst 5, 1, 0, 0, 0, 0), (501, .iadd, 1, 0, 0, 0, 0), (502, .iaload, 1, 0, 0, 0, 0), 
  (503, .aload_n 3, 1, 0, 0, 0, 0), (504, .invokestatic 168, 3, 309, 7, 7, 1060), (507, .istore 5, 2, 0, 0, 0, 0), (509, .aload_n 2, 1, 0, 0, 0, 0), (510, .aload_n 0, 1, 0, 0, 0, 0), 
  (511, .iload 4, 2, 0, 0, 0, 0), (513, .iconst 1, 1, 0, 0, 0, 0), (514, .iadd, 1, 0, 0, 0, 0), (515, .iaload, 1, 0, 0, 0, 0), (516, .aload_n 0, 1, 0, 0, 0, 0), 
  (517, .iload 4, 2, 0, 0, 0, 0), (519, .iconst 2, 1, 0, 0, 0, 0), (520, .iadd, 1, 0, 0, 0, 0), (521, .iaload, 1, 0, 0, 0, 0), (522, .aload_n 0, 1, 0, 0, 0, 0), 
  (523, .iload 4, 2, 0, 0, 0, 0), (525, .iconst 3, 1, 0, 0, 0, 0), (526, .iadd, 1, 0, 0, 0, 0), (527, .iaload, 1, 0, 0, 0, 0), (528, .aload_n 0, 1, 0, 0, 0, 0), 
  (529, .iload 4, 2, 0, 0, 0, 0), (531, .iconst 4, 1, 0, 0, 0, 0), (532, .iadd, 1, 0, 0, 0, 0), (533, .iaload, 1, 0, 0, 0, 0), (534, .aload_n 0, 1, 0, 0, 0, 0), 
  (535, .iload 4, 2, 0, 0, 0, 0), (537, .iconst 5, 1, 0, 0, 0, 0), (538, .iadd, 1, 0, 0, 0, 0), (539, .iaload, 1, 0, 0, 0, 0), (540, .invokevirtual 171, 3, 234, 6, 0, 1882), 
  (543, .istore 6, 2, 0, 0, 0, 0), (545, .aload_n 2, 1, 0, 0, 0, 0), (546, .invokevirtual 153, 3, 168, 1, 0, 1730), (549, .iload 5, 2, 0, 0, 0, 0), 
  (551, .if_icmp .eq 5, 3, 0, 0, 0, 0), (554, .iconst 0, 1, 0, 0, 0, 0), (555, .ireturn, 1, 0, 0, 1, 0), (556, .iload 5, 2, 0, 0, 0, 0), (558, .ifCond .ne 15, 3, 0, 0, 0, 0), 
  (561, .aload_n 3, 1, 0, 0, 0, 0), (562, .iconst 0, 1, 0, 0, 0, 0), (563, .laload, 1, 0, 0, 0, 0), (564, .iload 6, 2, 0, 0, 0, 0), (566, .i2l, 1, 0, 0, 0, 0), 
  (567, .lcmp, 1, 0, 0, 0, 0), (568, .ifCond .eq 5, 3, 0, 0, 0, 0), (571, .iconst 0, 1, 0, 0, 0, 0), (572, .ireturn, 1, 0, 0, 1, 0), (573, .goto 2141, 3, 0, 0, 0, 0), 
  (576, .aload_n 1, 1, 0, 0, 0, 0), (577, .aload_n 3, 1, 0, 0, 0, 0), (578, .invokestatic 172, 3, 310, 2, 7, 1144), (581, .istore 5, 2, 0, 0, 0, 0), (583, .aload_n 2, 1, 0, 0, 0, 0), 
  (584, .invokevirtual 174, 3, 235, 1, 0, 1996), (587, .istore 6, 2, 0, 0, 0, 0), (589, .aload_n 2, 1, 0, 0, 0, 0), (590, .invokevirtual 153, 3, 168, 1, 0, 1730), 
  (593, .iload 5, 2, 0, 0, 0, 0), (595, .if_icmp .eq 5, 3, 0, 0, 0, 0), (598, .iconst 0, 1, 0, 0, 0, 0), (599, .ireturn, 1, 0, 0, 1, 0), (600, .iload 5, 2, 0, 0, 0, 0), 
  (602, .ifCond .ne 15, 3, 0, 0, 0, 0), (605, .aload_n 3, 1, 0, 0, 0, 0), (606, .iconst 0, 1, 0, 0, 0, 0), (607, .laload, 1, 0, 0, 0, 0), (608, .iload 6, 2, 0, 0, 0, 0), 
  (610, .i2l, 1, 0, 0, 0, 0), (611, .lcmp, 1, 0, 0, 0, 0), (612, .ifCond .eq 5, 3, 0, 0, 0, 0), (615, .iconst 0, 1, 0, 0, 0, 0), (616, .ireturn, 1, 0, 0, 1, 0), 
  (617, .goto 2097, 3, 0, 0, 0, 0), (620, .aload_n 1, 1, 0, 0, 0, 0), (621, .aload_n 0, 1, 0, 0, 0, 0), (622, .iload 4, 2, 0, 0, 0, 0), (624, .iconst 1, 1, 0, 0, 0, 0), 
  (625, .iadd, 1, 0, 0, 0, 0), (626, .iaload, 1, 0, 0, 0, 0), (627, .aload_n 0, 1, 0, 0, 0, 0), (628, .iload 4, 2, 0, 0, 0, 0), (630, .iconst 2, 1, 0, 0, 0, 0), 
  (631, .iadd, 1, 0, 0, 0, 0), (632, .iaload, 1, 0, 0, 0, 0), (633, .ifCond .eq 7, 3, 0, 0, 0, 0), (636, .iconst 1, 1, 0, 0, 0, 0), (637, .goto 4, 3, 0, 0, 0, 0), 
  (640, .iconst 0, 1, 0, 0, 0, 0), (641, .aload_n 3, 1, 0, 0, 0, 0), (642, .invokestatic 175, 3, 311, 4, 7, 1152), (645, .istore 5, 2, 0, 0, 0, 0), (647, .aload_n 2, 1, 0, 0, 0, 0), 
  (648, .aload_n 0, 1, 0, 0, 0, 0), (649, .iload 4, 2, 0, 0, 0, 0), (651, .iconst 1, 1, 0, 0, 0, 0), (652, .iadd, 1, 0, 0, 0, 0), (653, .iaload, 1, 0, 0, 0, 0), 
  (654, .aload_n 0, 1, 0, 0, 0, 0), (655, .iload 4, 2, 0, 0, 0, 0), (657, .iconst 2, 1, 0, 0, 0, 0), (658, .iadd, 1, 0, 0, 0, 0), (659, .iaload, 1, 0, 0, 0, 0), 
  (660, .ifCond .eq 7, 3, 0, 0, 0, 0), (663, .iconst 1, 1, 0, 0, 0, 0), (664, .goto 4, 3, 0, 0, 0, 0), (667, .iconst 0, 1, 0, 0, 0, 0), (668, .invokevirtual 178, 3, 236, 3, 0, 2000), 
  (671, .istore 6, 2, 0, 0, 0, 0), (673, .aload_n 2, 1, 0, 0, 0, 0), (674, .invokevirtual 153, 3, 168, 1, 0, 1730), (677, .iload 5, 2, 0, 0, 0, 0), 
  (679, .if_icmp .eq 5, 3, 0, 0, 0, 0), (682, .iconst 0, 1, 0, 0, 0, 0), (683, .ireturn, 1, 0, 0, 1, 0), (684, .iload 5, 2, 0, 0, 0, 0), (686, .ifCond .ne 15, 3, 0, 0, 0, 0), 
  (689, .aload_n 3, 1, 0, 0, 0, 0), (690, .iconst 0, 1, 0, 0, 0, 0), (691, .laload, 1, 0, 0, 0, 0), (692, .iload 6, 2, 0, 0, 0, 0), (694, .i2l, 1, 0, 0, 0, 0), 
  (695, .lcmp, 1, 0, 0, 0, 0), (696, .ifCond .eq 5, 3, 0, 0, 0, 0), (699, .iconst 0, 1, 0, 0, 0, 0), (700, .ireturn, 1, 0, 0, 1, 0), (701, .goto 2013, 3, 0, 0, 0, 0), 
  (704, .aload_n 1, 1, 0, 0, 0, 0), (705, .aload_n 0, 1, 0, 0, 0, 0), (706, .iload 4, 2, 0, 0, 0, 0), (708, .iconst 1, 1, 0, 0, 0, 0), (709, .iadd, 1, 0, 0, 0, 0), 
  (710, .iaload, 1, 0, 0, 0, 0), (711, .aload_n 3, 1, 0, 0, 0, 0), (712, .invokestatic 179, 3, 312, 3, 7, 1159), (715, .istore 5, 2, 0, 0, 0, 0), (717, .aload_n 2, 1, 0, 0, 0, 0), 
  (718, .aload_n 0, 1, 0, 0, 0, 0), (719, .iload 4, 2, 0, 0, 0, 0), (721, .iconst 1, 1, 0, 0, 0, 0), (722, .iadd, 1, 0, 0, 0, 0), (723, .iaload, 1, 0, 0, 0, 0), 
  (724, .invokevirtual 181, 3, 237, 2, 0, 2004), (727, .istore 6, 2, 0, 0, 0, 0), (729, .aload_n 2, 1, 0, 0, 0, 0), (730, .invokevirtual 153, 3, 168, 1, 0, 1730), 
  (733, .iload 5, 2, 0, 0, 0, 0), (735, .if_icmp .eq 5, 3, 0, 0, 0, 0), (738, .iconst 0, 1, 0, 0, 0, 0), (739, .ireturn, 1, 0, 0, 1, 0), (740, .iload 5, 2, 0, 0, 0, 0), 
  (742, .ifCond .ne 15, 3, 0, 0, 0, 0), (745, .aload_n 3, 1, 0, 0, 0, 0), (746, .iconst 0, 1, 0, 0, 0, 0), (747, .laload, 1, 0, 0, 0, 0), (748, .iload 6, 2, 0, 0, 0, 0), 
  (750, .i2l, 1, 0, 0, 0, 0), (751, .lcmp, 1, 0, 0, 0, 0), (752, .ifCond .eq 5, 3, 0, 0, 0, 0), (755, .iconst 0, 1, 0, 0, 0, 0), (756, .ireturn, 1, 0, 0, 1, 0), 
  (757, .goto 1957, 3, 0, 0, 0, 0), (760, .aload_n 1, 1, 0, 0, 0, 0), (761, .aload_n 0, 1, 0, 0, 0, 0), (762, .iload 4, 2, 0, 0, 0, 0), (764, .iconst 1, 1, 0, 0, 0, 0), 
  (765, .iadd, 1, 0, 0, 0, 0), (766, .iaload, 1, 0, 0, 0, 0), (767, .aload_n 3, 1, 0, 0, 0, 0), (768, .invokestatic 182, 3, 313, 3, 7, 1166), (771, .istore 5, 2, 0, 0, 0, 0), 
  (773, .aload_n 2, 1, 0, 0, 0, 0), (774, .aload_n 0, 1, 0, 0, 0, 0), (775, .iload 4, 2, 0, 0, 0, 0), (777, .iconst 1, 1, 0, 0, 0, 0), (778, .iadd, 1, 0, 0, 0, 0), 
  (779, .iaload, 1, 0, 0, 0, 0), (780, .invokevirtual 184, 3, 239, 2, 0, 2012), (783, .istore 6, 2, 0, 0, 0, 0), (785, .aload_n 2, 1, 0, 0, 0, 0), 
  (786, .invokevirtual 153, 3, 168, 1, 0, 1730), (789, .iload 5, 2, 0, 0, 0, 0), (791, .if_icmp .eq 5, 3, 0, 0, 0, 0), (794, .iconst 0, 1, 0, 0, 0, 0), (795, .ireturn, 1, 0, 0, 1, 0), 
  (796, .iload 5, 2, 0, 0, 0, 0), (798, .ifCond .ne 15, 3, 0, 0, 0, 0), (801, .aload_n 3, 1, 0, 0, 0, 0), (802, .iconst 0, 1, 0, 0, 0, 0), (803, .laload, 1, 0, 0, 0, 0), 
  (804, .iload 6, 2, 0, 0, 0, 0), (806, .i2l, 1, 0, 0, 0, 0), (807, .lcmp, 1, 0, 0, 0, 0), (808, .ifCond .eq 5, 3, 0, 0, 0, 0), (811, .iconst 0, 1, 0, 0, 0, 0), 
  (812, .ireturn, 1, 0, 0, 1, 0), (813, .goto 1901, 3, 0, 0, 0, 0), (816, .aload_n 1, 1, 0, 0, 0, 0), (817, .aload_n 0, 1, 0, 0, 0, 0), (818, .iload 4, 2, 0, 0, 0, 0), 
  (820, .iconst 1, 1, 0, 0, 0, 0), (821, .iadd, 1, 0, 0, 0, 0), (822, .iaload, 1, 0, 0, 0, 0), (823, .aload_n 3, 1, 0, 0, 0, 0), (824, .invokestatic 185, 3, 314, 3, 7, 1177), 
  (827, .istore 5, 2, 0, 0, 0, 0), (829, .aload_n 2, 1, 0, 0, 0, 0), (830, .aload_n 0, 1, 0, 0, 0, 0), (831, .iload 4, 2, 0, 0, 0, 0), (833, .iconst 1, 1, 0, 0, 0, 0), 
  (834, .iadd, 1, 0, 0, 0, 0), (835, .iaload, 1, 0, 0, 0, 0), (836, .invokevirtual 187, 3, 240, 2, 0, 2020), (839, .istore 6, 2, 0, 0, 0, 0), (841, .aload_n 2, 1, 0, 0, 0, 0), 
  (842, .invokevirtual 153, 3, 168, 1, 0, 1730), (845, .iload 5, 2, 0, 0, 0, 0), (847, .if_icmp .eq 5, 3, 0, 0, 0, 0), (850, .iconst 0, 1, 0, 0, 0, 0), (851, .ireturn, 1, 0, 0, 1, 0), 
  (852, .iload 5, 2, 0, 0, 0, 0), (854, .ifCond .ne 15, 3, 0, 0, 0, 0), (857, .aload_n 3, 1, 0, 0, 0, 0), (858, .iconst 0, 1, 0, 0, 0, 0), (859, .laload, 1, 0, 0, 0, 0), 
  (860, .iload 6, 2, 0, 0, 0, 0), (862, .i2l, 1, 0, 0, 0, 0), (863, .lcmp, 1, 0, 0, 0, 0), (864, .ifCond .eq 5, 3, 0, 0, 0, 0), (867, .iconst 0, 1, 0, 0, 0, 0), 
  (868, .ireturn, 1, 0, 0, 1, 0), (869, .goto 1845, 3, 0, 0, 0, 0), (872, .aload_n 1, 1, 0, 0, 0, 0), (873, .aload_n 0, 1, 0, 0, 0, 0), (874, .iload 4, 2, 0, 0, 0, 0), 
  (876, .iconst 1, 1, 0, 0, 0, 0), (877, .iadd, 1, 0, 0, 0, 0), (878, .iaload, 1, 0, 0, 0, 0), (879, .aload_n 3, 1, 0, 0, 0, 0), (880, .invokestatic 188, 3, 315, 3, 7, 1184), 
  (883, .istore 5, 2, 0, 0, 0, 0), (885, .aload_n 2, 1, 0, 0, 0, 0), (886, .aload_n 0, 1, 0, 0, 0, 0), (887, .iload 4, 2, 0, 0, 0, 0), (889, .iconst 1, 1, 0, 0, 0, 0), 
  (890, .iadd, 1, 0, 0, 0, 0), (891, .iaload, 1, 0, 0, 0, 0), (892, .invokevirtual 190, 3, 241, 2, 0, 2024), (895, .istore 6, 2, 0, 0, 0, 0), (897, .aload_n 2, 1, 0, 0, 0, 0), 
  (898, .invokevirtual 153, 3, 168, 1, 0, 1730), (901, .iload 5, 2, 0, 0, 0, 0), (903, .if_icmp .eq 5, 3, 0, 0, 0, 0), (906, .iconst 0, 1, 0, 0, 0, 0), (907, .ireturn, 1, 0, 0, 1, 0), 
  (908, .iload 5, 2, 0, 0, 0, 0), (910, .ifCond .ne 15, 3, 0, 0, 0, 0), (913, .aload_n 3, 1, 0, 0, 0, 0), (914, .iconst 0, 1, 0, 0, 0, 0), (915, .laload, 1, 0, 0, 0, 0), 
  (916, .iload 6, 2, 0, 0, 0, 0), (918, .i2l, 1, 0, 0, 0, 0), (919, .lcmp, 1, 0, 0, 0, 0), (920, .ifCond .eq 5, 3, 0, 0, 0, 0), (923, .iconst 0, 1, 0, 0, 0, 0), 
  (924, .ireturn, 1, 0, 0, 1, 0), (925, .goto 1789, 3, 0, 0, 0, 0), (928, .aload_n 1, 1, 0, 0, 0, 0), (929, .aload_n 0, 1, 0, 0, 0, 0), (930, .iload 4, 2, 0, 0, 0, 0), 
  (932, .iconst 1, 1, 0, 0, 0, 0), (933, .iadd, 1, 0, 0, 0, 0), (934, .iaload, 1, 0, 0, 0, 0), (935, .aload_n 3, 1, 0, 0, 0, 0), (936, .invokestatic 191, 3, 316, 3, 7, 1195), 
  (939, .istore 5, 2, 0, 0, 0, 0), (941, .aload_n 2, 1, 0, 0, 0, 0), (942, .aload_n 0, 1, 0, 0, 0, 0), (943, .iload 4, 2, 0, 0, 0, 0), (945, .iconst 1, 1, 0, 0, 0, 0), 
  (946, .iadd, 1, 0, 0, 0, 0), (947, .iaload, 1, 0, 0, 0, 0), (948, .invokevirtual 193, 3, 243, 2, 0, 2032), (951, .istore 6, 2, 0, 0, 0, 0), (953, .aload_n 2, 1, 0, 0, 0, 0), 
  (954, .invokevirtual 153, 3, 168, 1, 0, 1730), (957, .iload 5, 2, 0, 0, 0, 0), (959, .if_icmp .eq 5, 3, 0, 0, 0, 0), (962, .iconst 0, 1, 0, 0, 0, 0), (963, .ireturn, 1, 0, 0, 1, 0), 
  (964, .iload 5, 2, 0, 0, 0, 0), (966, .ifCond .ne 15, 3, 0, 0, 0, 0), (969, .aload_n 3, 1, 0, 0, 0, 0), (970, .iconst 0, 1, 0, 0, 0, 0), (971, .laload, 1, 0, 0, 0, 0), 
  (972, .iload 6, 2, 0, 0, 0, 0), (974, .i2l, 1, 0, 0, 0, 0), (975, .lcmp, 1, 0, 0, 0, 0), (976, .ifCond .eq 5, 3, 0, 0, 0, 0), (979, .iconst 0, 1, 0, 0, 0, 0), 
  (980, .ireturn, 1, 0, 0, 1, 0), (981, .goto 1733, 3, 0, 0, 0, 0), (984, .aload_n 1, 1, 0, 0, 0, 0), (985, .aload_n 0, 1, 0, 0, 0, 0), (986, .iload 4, 2, 0, 0, 0, 0), 
  (988, .iconst 1, 1, 0, 0, 0, 0), (989, .iadd, 1, 0, 0, 0, 0), (990, .iaload, 1, 0, 0, 0, 0), (991, .aload_n 3, 1, 0, 0, 0, 0), (992, .invokestatic 194, 3, 317, 3, 7, 1202), 
  (995, .istore 5, 2, 0, 0, 0, 0), (997, .aload_n 2, 1, 0, 0, 0, 0), (998, .aload_n 0, 1, 0, 0, 0, 0), (999, .iload 4, 2, 0, 0, 0, 0), (1001, .iconst 1, 1, 0, 0, 0, 0), 
  (1002, .iadd, 1, 0, 0, 0, 0), (1003, .iaload, 1, 0, 0, 0, 0), (1004, .invokevirtual 196, 3, 244, 2, 0, 2040), (1007, .istore 6, 2, 0, 0, 0, 0), (1009, .aload_n 2, 1, 0, 0, 0, 0), 
  (1010, .invokevirtual 153, 3, 168, 1, 0, 1730), (1013, .iload 5, 2, 0, 0, 0, 0), (1015, .if_icmp .eq 5, 3, 0, 0, 0, 0), (1018, .iconst 0, 1, 0, 0, 0, 0), 
  (1019, .ireturn, 1, 0, 0, 1, 0), (1020, .iload 5, 2, 0, 0, 0, 0), (1022, .ifCond .ne 15, 3, 0, 0, 0, 0), (1025, .aload_n 3, 1, 0, 0, 0, 0), (1026, .iconst 0, 1, 0, 0, 0, 0), 
  (1027, .laload, 1, 0, 0, 0, 0), (1028, .iload 6, 2, 0, 0, 0, 0), (1030, .i2l, 1, 0, 0, 0, 0), (1031, .lcmp, 1, 0, 0, 0, 0), (1032, .ifCond .eq 5, 3, 0, 0, 0, 0), 
  (1035, .iconst 0, 1, 0, 0, 0, 0), (1036, .ireturn, 1, 0, 0, 1, 0), (1037, .goto 1677, 3, 0, 0, 0, 0), (1040, .aload_n 1, 1, 0, 0, 0, 0), (1041, .aload_n 0, 1, 0, 0, 0, 0), 
  (1042, .iload 4, 2, 0, 0, 0, 0), (1044, .iconst 1, 1, 0, 0, 0, 0), (1045, .iadd, 1, 0, 0, 0, 0), (1046, .iaload, 1, 0, 0, 0, 0), (1047, .aload_n 0, 1, 0, 0, 0, 0), 
  (1048, .iload 4, 2, 0, 0, 0, 0), (1050, .iconst 2, 1, 0, 0, 0, 0), (1051, .iadd, 1, 0, 0, 0, 0), (1052, .iaload, 1, 0, 0, 0, 0), (1053, .aload_n 3, 1, 0, 0, 0, 0), 
  (1054, .invokestatic 197, 3, 318, 4, 7, 1209), (1057, .istore 5, 2, 0, 0, 0, 0), (1059, .aload_n 2, 1, 0, 0, 0, 0), (1060, .aload_n 0, 1, 0, 0, 0, 0), 
  (1061, .iload 4, 2, 0, 0, 0, 0), (1063, .iconst 1, 1, 0, 0, 0, 0), (1064, .iadd, 1, 0, 0, 0, 0), (1065, .iaload, 1, 0, 0, 0, 0), (1066, .aload_n 0, 1, 0, 0, 0, 0), 
  (1067, .iload 4, 2, 0, 0, 0, 0), (1069, .iconst 2, 1, 0, 0, 0, 0), (1070, .iadd, 1, 0, 0, 0, 0), (1071, .iaload, 1, 0, 0, 0, 0), (1072, .invokevirtual 200, 3, 245, 3, 0, 2044), 
  (1075, .istore 6, 2, 0, 0, 0, 0), (1077, .aload_n 2, 1, 0, 0, 0, 0), (1078, .invokevirtual 153, 3, 168, 1, 0, 1730), (1081, .iload 5, 2, 0, 0, 0, 0), 
  (1083, .if_icmp .eq 5, 3, 0, 0, 0, 0), (1086, .iconst 0, 1, 0, 0, 0, 0), (1087, .ireturn, 1, 0, 0, 1, 0), (1088, .iload 5, 2, 0, 0, 0, 0), (1090, .ifCond .ne 15, 3, 0, 0, 0, 0), 
  (1093, .aload_n 3, 1, 0, 0, 0, 0), (1094, .iconst 0, 1, 0, 0, 0, 0), (1095, .laload, 1, 0, 0, 0, 0), (1096, .iload 6, 2, 0, 0, 0, 0), (1098, .i2l, 1, 0, 0, 0, 0), 
  (1099, .lcmp, 1, 0, 0, 0, 0), (1100, .ifCond .eq 5, 3, 0, 0, 0, 0), (1103, .iconst 0, 1, 0, 0, 0, 0), (1104, .ireturn, 1, 0, 0, 1, 0), (1105, .goto 1609, 3, 0, 0, 0, 0), 
  (1108, .aload_n 1, 1, 0, 0, 0, 0), (1109, .aload_n 0, 1, 0, 0, 0, 0), (1110, .iload 4, 2, 0, 0, 0, 0), (1112, .iconst 1, 1, 0, 0, 0, 0), (1113, .iadd, 1, 0, 0, 0, 0), 
  (1114, .iaload, 1, 0, 0, 0, 0), (1115, .aload_n 3, 1, 0, 0, 0, 0), (1116, .invokestatic 201, 3, 319, 3, 7, 1217), (1119, .istore 5, 2, 0, 0, 0, 0), 
  (1121, .aload_n 2, 1, 0, 0, 0, 0), (1122, .aload_n 0, 1, 0, 0, 0, 0), (1123, .iload 4, 2, 0, 0, 0, 0), (1125, .iconst 1, 1, 0, 0, 0, 0), (1126, .iadd, 1, 0, 0, 0, 0), 
  (1127, .iaload, 1, 0, 0, 0, 0), (1128, .invokevirtual 203, 3, 246, 2, 0, 2048), (1131, .istore 6, 2, 0, 0, 0, 0), (1133, .aload_n 2, 1, 0, 0, 0, 0), 
  (1134, .invokevirtual 153, 3, 168, 1, 0, 1730), (1137, .iload 5, 2, 0, 0, 0, 0), (1139, .if_icmp .eq 5, 3, 0, 0, 0, 0), (1142, .iconst 0, 1, 0, 0, 0, 0), 
  (1143, .ireturn, 1, 0, 0, 1, 0), (1144, .iload 5, 2, 0, 0, 0, 0), (1146, .ifCond .ne 22, 3, 0, 0, 0, 0), (1149, .aload_n 3, 1, 0, 0, 0, 0), (1150, .iconst 0, 1, 0, 0, 0, 0), 
  (1151, .laload, 1, 0, 0, 0, 0), (1152, .iload 6, 2, 0, 0, 0, 0), (1154, .ifCond .eq 7, 3, 0, 0, 0, 0), (1157, .lconst 1, 1, 0, 0, 0, 0), (1158, .goto 4, 3, 0, 0, 0, 0), 
  (1161, .lconst 0, 1, 0, 0, 0, 0), (1162, .lcmp, 1, 0, 0, 0, 0), (1163, .ifCond .eq 5, 3, 0, 0, 0, 0), (1166, .iconst 0, 1, 0, 0, 0, 0), (1167, .ireturn, 1, 0, 0, 1, 0), 
  (1168, .goto 1546, 3, 0, 0, 0, 0), (1171, .aload_n 1, 1, 0, 0, 0, 0), (1172, .aload_n 0, 1, 0, 0, 0, 0), (1173, .iload 4, 2, 0, 0, 0, 0), (1175, .iconst 1, 1, 0, 0, 0, 0), 
  (1176, .iadd, 1, 0, 0, 0, 0), (1177, .iaload, 1, 0, 0, 0, 0), (1178, .aload_n 3, 1, 0, 0, 0, 0), (1179, .invokestatic 204, 3, 320, 3, 7, 1225), (1182, .istore 5, 2, 0, 0, 0, 0), 
  (1184, .aload_n 2, 1, 0, 0, 0, 0), (1185, .aload_n 0, 1, 0, 0, 0, 0), (1186, .iload 4, 2, 0, 0, 0, 0), (1188, .iconst 1, 1, 0, 0, 0, 0), (1189, .iadd, 1, 0, 0, 0, 0), 
  (1190, .iaload, 1, 0, 0, 0, 0), (1191, .invokevirtual 206, 3, 247, 2, 0, 2052), (1194, .istore 6, 2, 0, 0, 0, 0), (1196, .aload_n 2, 1, 0, 0, 0, 0), 
  (1197, .invokevirtual 153, 3, 168, 1, 0, 1730), (1200, .iload 5, 2, 0, 0, 0, 0), (1202, .if_icmp .eq 5, 3, 0, 0, 0, 0), (1205, .iconst 0, 1, 0, 0, 0, 0), 
  (1206, .ireturn, 1, 0, 0, 1, 0), (1207, .iload 5, 2, 0, 0, 0, 0), (1209, .ifCond .ne 15, 3, 0, 0, 0, 0), (1212, .aload_n 3, 1, 0, 0, 0, 0), (1213, .iconst 0, 1, 0, 0, 0, 0), 
  (1214, .laload, 1, 0, 0, 0, 0), (1215, .iload 6, 2, 0, 0, 0, 0), (1217, .i2l, 1, 0, 0, 0, 0), (1218, .lcmp, 1, 0, 0, 0, 0), (1219, .ifCond .eq 5, 3, 0, 0, 0, 0), 
  (1222, .iconst 0, 1, 0, 0, 0, 0), (1223, .ireturn, 1, 0, 0, 1, 0), (1224, .goto 1490, 3, 0, 0, 0, 0), (1227, .aload_n 1, 1, 0, 0, 0, 0), (1228, .aload_n 0, 1, 0, 0, 0, 0), 
  (1229, .iload 4, 2, 0, 0, 0, 0), (1231, .iconst 1, 1, 0, 0, 0, 0), (1232, .iadd, 1, 0, 0, 0, 0), (1233, .iaload, 1, 0, 0, 0, 0), (1234, .aload_n 3, 1, 0, 0, 0, 0), 
  (1235, .invokestatic 207, 3, 321, 3, 7, 1233), (1238, .istore 5, 2, 0, 0, 0, 0), (1240, .aload_n 2, 1, 0, 0, 0, 0), (1241, .aload_n 0, 1, 0, 0, 0, 0), 
  (1242, .iload 4, 2, 0, 0, 0, 0), (1244, .iconst 1, 1, 0, 0, 0, 0), (1245, .iadd, 1, 0, 0, 0, 0), (1246, .iaload, 1, 0, 0, 0, 0), (1247, .invokevirtual 209, 3, 248, 2, 0, 2056), 
  (1250, .istore 6, 2, 0, 0, 0, 0), (1252, .aload_n 2, 1, 0, 0, 0, 0), (1253, .invokevirtual 153, 3, 168, 1, 0, 1730), (1256, .iload 5, 2, 0, 0, 0, 0), 
  (1258, .if_icmp .eq 5, 3, 0, 0, 0, 0), (1261, .iconst 0, 1, 0, 0, 0, 0), (1262, .ireturn, 1, 0, 0, 1, 0), (1263, .iload 5, 2, 0, 0, 0, 0), (1265, .ifCond .ne 15, 3, 0, 0, 0, 0), 
  (1268, .aload_n 3, 1, 0, 0, 0, 0), (1269, .iconst 0, 1, 0, 0, 0, 0), (1270, .laload, 1, 0, 0, 0, 0), (1271, .iload 6, 2, 0, 0, 0, 0), (1273, .i2l, 1, 0, 0, 0, 0), 
  (1274, .lcmp, 1, 0, 0, 0, 0), (1275, .ifCond .eq 5, 3, 0, 0, 0, 0), (1278, .iconst 0, 1, 0, 0, 0, 0), (1279, .ireturn, 1, 0, 0, 1, 0), (1280, .goto 1434, 3, 0, 0, 0, 0), 
  (1283, .aload_n 1, 1, 0, 0, 0, 0), (1284, .invokevirtual 210, 3, 118, 1, 0, 610), (1287, .aload_n 2, 1, 0, 0, 0, 0), (1288, .invokevirtual 213, 3, 249, 1, 0, 2060), 
  (1291, .if_icmp .eq 1423, 3, 0, 0, 0, 0), (1294, .iconst 0, 1, 0, 0, 0, 0), (1295, .ireturn, 1, 0, 0, 1, 0), (1296, .aload_n 1, 1, 0, 0, 0, 0), (1297, .aload_n 0, 1, 0, 0, 0, 0), 
  (1298, .iload 4, 2, 0, 0, 0, 0), (1300, .iconst 1, 1, 0, 0, 0, 0), (1301, .iadd, 1, 0, 0, 0, 0), (1302, .iaload, 1, 0, 0, 0, 0), (1303, .aload_n 3, 1, 0, 0, 0, 0), 
  (1304, .invokestatic 214, 3, 322, 3, 7, 1240), (1307, .istore 5, 2, 0, 0, 0, 0), (1309, .aload_n 2, 1, 0, 0, 0, 0), (1310, .aload_n 0, 1, 0, 0, 0, 0), 
  (1311, .iload 4, 2, 0, 0, 0, 0), (1313, .iconst 1, 1, 0, 0, 0, 0), (1314, .iadd, 1, 0, 0, 0, 0), (1315, .iaload, 1, 0, 0, 0, 0), (1316, .invokevirtual 216, 3, 250, 2, 0, 2064), 
  (1319, .istore 6, 2, 0, 0, 0, 0), (1321, .aload_n 2, 1, 0, 0, 0, 0), (1322, .invokevirtual 153, 3, 168, 1, 0, 1730), (1325, .iload 5, 2, 0, 0, 0, 0), 
  (1327, .if_icmp .eq 5, 3, 0, 0, 0, 0), (1330, .iconst 0, 1, 0, 0, 0, 0), (1331, .ireturn, 1, 0, 0, 1, 0), (1332, .iload 5, 2, 0, 0, 0, 0), (1334, .ifCond .ne 15, 3, 0, 0, 0, 0), 
  (1337, .aload_n 3, 1, 0, 0, 0, 0), (1338, .iconst 0, 1, 0, 0, 0, 0), (1339, .laload, 1, 0, 0, 0, 0), (1340, .iload 6, 2, 0, 0, 0, 0), (1342, .i2l, 1, 0, 0, 0, 0), 
  (1343, .lcmp, 1, 0, 0, 0, 0), (1344, .ifCond .eq 5, 3, 0, 0, 0, 0), (1347, .iconst 0, 1, 0, 0, 0, 0), (1348, .ireturn, 1, 0, 0, 1, 0), (1349, .goto 1365, 3, 0, 0, 0, 0), 
  (1352, .aload_n 1, 1, 0, 0, 0, 0), (1353, .aload_n 0, 1, 0, 0, 0, 0), (1354, .iload 4, 2, 0, 0, 0, 0), (1356, .iconst 1, 1, 0, 0, 0, 0), (1357, .iadd, 1, 0, 0, 0, 0), 
  (1358, .iaload, 1, 0, 0, 0, 0), (1359, .aload_n 0, 1, 0, 0, 0, 0), (1360, .iload 4, 2, 0, 0, 0, 0), (1362, .iconst 2, 1, 0, 0, 0, 0), (1363, .iadd, 1, 0, 0, 0, 0), 
  (1364, .iaload, 1, 0, 0, 0, 0), (1365, .aload_n 3, 1, 0, 0, 0, 0), (1366, .invokestatic 217, 3, 323, 4, 7, 1247), (1369, .istore 5, 2, 0, 0, 0, 0), 
  (1371, .aload_n 2, 1, 0, 0, 0, 0), (1372, .aload_n 0, 1, 0, 0, 0, 0), (1373, .iload 4, 2, 0, 0, 0, 0), (1375, .iconst 1, 1, 0, 0, 0, 0), (1376, .iadd, 1, 0, 0, 0, 0), 
  (1377, .iaload, 1, 0, 0, 0, 0), (1378, .aload_n 0, 1, 0, 0, 0, 0), (1379, .iload 4, 2, 0, 0, 0, 0), (1381, .iconst 2, 1, 0, 0, 0, 0), (1382, .iadd, 1, 0, 0, 0, 0), 
  (1383, .iaload, 1, 0, 0, 0, 0), (1384, .invokevirtual 219, 3, 251, 3, 0, 2068), (1387, .istore 6, 2, 0, 0, 0, 0), (1389, .aload_n 2, 1, 0, 0, 0, 0), 
  (1390, .invokevirtual 153, 3, 168, 1, 0, 1730), (1393, .iload 5, 2, 0, 0, 0, 0), (1395, .if_icmp .eq 5, 3, 0, 0, 0, 0), (1398, .iconst 0, 1, 0, 0, 0, 0), 
  (1399, .ireturn, 1, 0, 0, 1, 0), (1400, .iload 5, 2, 0, 0, 0, 0), (1402, .ifCond .ne 15, 3, 0, 0, 0, 0), (1405, .aload_n 3, 1, 0, 0, 0, 0), (1406, .iconst 0, 1, 0, 0, 0, 0), 
  (1407, .laload, 1, 0, 0, 0, 0), (1408, .iload 6, 2, 0, 0, 0, 0), (1410, .i2l, 1, 0, 0, 0, 0), (1411, .lcmp, 1, 0, 0, 0, 0), (1412, .ifCond .eq 5, 3, 0, 0, 0, 0), 
  (1415, .iconst 0, 1, 0, 0, 0, 0), (1416, .ireturn, 1, 0, 0, 1, 0), (1417, .goto 1297, 3, 0, 0, 0, 0), (1420, .aload_n 1, 1, 0, 0, 0, 0), (1421, .aload_n 0, 1, 0, 0, 0, 0), 
  (1422, .iload 4, 2, 0, 0, 0, 0), (1424, .iconst 1, 1, 0, 0, 0, 0), (1425, .iadd, 1, 0, 0, 0, 0), (1426, .iaload, 1, 0, 0, 0, 0), (1427, .aload_n 0, 1, 0, 0, 0, 0), 
  (1428, .iload 4, 2, 0, 0, 0, 0), (1430, .iconst 2, 1, 0, 0, 0, 0), (1431, .iadd, 1, 0, 0, 0, 0), (1432, .iaload, 1, 0, 0, 0, 0), (1433, .aload_n 3, 1, 0, 0, 0, 0), 
  (1434, .invokestatic 220, 3, 324, 4, 7, 1255), (1437, .istore 5, 2, 0, 0, 0, 0), (1439, .aload_n 2, 1, 0, 0, 0, 0), (1440, .aload_n 0, 1, 0, 0, 0, 0), 
  (1441, .iload 4, 2, 0, 0, 0, 0), (1443, .iconst 1, 1, 0, 0, 0, 0), (1444, .iadd, 1, 0, 0, 0, 0), (1445, .iaload, 1, 0, 0, 0, 0), (1446, .aload_n 0, 1, 0, 0, 0, 0), 
  (1447, .iload 4, 2, 0, 0, 0, 0), (1449, .iconst 2, 1, 0, 0, 0, 0), (1450, .iadd, 1, 0, 0, 0, 0), (1451, .iaload, 1, 0, 0, 0, 0), (1452, .invokevirtual 222, 3, 253, 3, 0, 2072), 
  (1455, .istore 6, 2, 0, 0, 0, 0), (1457, .aload_n 2, 1, 0, 0, 0, 0), (1458, .invokevirtual 153, 3, 168, 1, 0, 1730), (1461, .iload 5, 2, 0, 0, 0, 0), 
  (1463, .if_icmp .eq 5, 3, 0, 0, 0, 0), (1466, .iconst 0, 1, 0, 0, 0, 0), (1467, .ireturn, 1, 0, 0, 1, 0), (1468, .iload 5, 2, 0, 0, 0, 0), (1470, .ifCond .ne 15, 3, 0, 0, 0, 0), 
  (1473, .aload_n 3, 1, 0, 0, 0, 0), (1474, .iconst 0, 1, 0, 0, 0, 0), (1475, .laload, 1, 0, 0, 0, 0), (1476, .iload 6, 2, 0, 0, 0, 0), (1478, .i2l, 1, 0, 0, 0, 0), 
  (1479, .lcmp, 1, 0, 0, 0, 0), (1480, .ifCond .eq 5, 3, 0, 0, 0, 0), (1483, .iconst 0, 1, 0, 0, 0, 0), (1484, .ireturn, 1, 0, 0, 1, 0), (1485, .goto 1229, 3, 0, 0, 0, 0), 
  (1488, .aload_n 1, 1, 0, 0, 0, 0), (1489, .aload_n 0, 1, 0, 0, 0, 0), (1490, .iload 4, 2, 0, 0, 0, 0), (1492, .iconst 1, 1, 0, 0, 0, 0), (1493, .iadd, 1, 0, 0, 0, 0), 
  (1494, .iaload, 1, 0, 0, 0, 0), (1495, .aload_n 3, 1, 0, 0, 0, 0), (1496, .invokestatic 223, 3, 325, 3, 7, 1267), (1499, .istore 5, 2, 0, 0, 0, 0), 
  (1501, .aload_n 2, 1, 0, 0, 0, 0), (1502, .aload_n 0, 1, 0, 0, 0, 0), (1503, .iload 4, 2, 0, 0, 0, 0), (1505, .iconst 1, 1, 0, 0, 0, 0), (1506, .iadd, 1, 0, 0, 0, 0), 
  (1507, .iaload, 1, 0, 0, 0, 0), (1508, .invokevirtual 225, 3, 254, 2, 0, 2083), (1511, .istore 6, 2, 0, 0, 0, 0), (1513, .aload_n 2, 1, 0, 0, 0, 0), 
  (1514, .invokevirtual 153, 3, 168, 1, 0, 1730), (1517, .iload 5, 2, 0, 0, 0, 0), (1519, .if_icmp .eq 5, 3, 0, 0, 0, 0), (1522, .iconst 0, 1, 0, 0, 0, 0), 
  (1523, .ireturn, 1, 0, 0, 1, 0), (1524, .iload 5, 2, 0, 0, 0, 0), (1526, .ifCond .ne 15, 3, 0, 0, 0, 0), (1529, .aload_n 3, 1, 0, 0, 0, 0), (1530, .iconst 0, 1, 0, 0, 0, 0), 
  (1531, .laload, 1, 0, 0, 0, 0), (1532, .iload 6, 2, 0, 0, 0, 0), (1534, .i2l, 1, 0, 0, 0, 0), (1535, .lcmp, 1, 0, 0, 0, 0), (1536, .ifCond .eq 5, 3, 0, 0, 0, 0), 
  (1539, .iconst 0, 1, 0, 0, 0, 0), (1540, .ireturn, 1, 0, 0, 1, 0), (1541, .goto 1173, 3, 0, 0, 0, 0), (1544, .aload_n 1, 1, 0, 0, 0, 0), (1545, .aload_n 0, 1, 0, 0, 0, 0), 
  (1546, .iload 4, 2, 0, 0, 0, 0), (1548, .iconst 1, 1, 0, 0, 0, 0), (1549, .iadd, 1, 0, 0, 0, 0), (1550, .iaload, 1, 0, 0, 0, 0), (1551, .aload_n 3, 1, 0, 0, 0, 0), 
  (1552, .invokestatic 226, 3, 326, 3, 7, 1274), (1555, .istore 5, 2, 0, 0, 0, 0), (1557, .aload_n 2, 1, 0, 0, 0, 0), (1558, .aload_n 0, 1, 0, 0, 0, 0), 
  (1559, .iload 4, 2, 0, 0, 0, 0), (1561, .iconst 1, 1, 0, 0, 0, 0), (1562, .iadd, 1, 0, 0, 0, 0), (1563, .iaload, 1, 0, 0, 0, 0), (1564, .invokevirtual 228, 3, 257, 2, 0, 2087), 
  (1567, .istore 6, 2, 0, 0, 0, 0), (1569, .aload_n 2, 1, 0, 0, 0, 0), (1570, .invokevirtual 153, 3, 168, 1, 0, 1730), (1573, .iload 5, 2, 0, 0, 0, 0), 
  (1575, .if_icmp .eq 5, 3, 0, 0, 0, 0), (1578, .iconst 0, 1, 0, 0, 0, 0), (1579, .ireturn, 1, 0, 0, 1, 0), (1580, .iload 5, 2, 0, 0, 0, 0), (1582, .ifCond .ne 15, 3, 0, 0, 0, 0), 
  (1585, .aload_n 3, 1, 0, 0, 0, 0), (1586, .iconst 0, 1, 0, 0, 0, 0), (1587, .laload, 1, 0, 0, 0, 0), (1588, .iload 6, 2, 0, 0, 0, 0), (1590, .i2l, 1, 0, 0, 0, 0), 
  (1591, .lcmp, 1, 0, 0, 0, 0), (1592, .ifCond .eq 5, 3, 0, 0, 0, 0), (1595, .iconst 0, 1, 0, 0, 0, 0), (1596, .ireturn, 1, 0, 0, 1, 0), (1597, .goto 1117, 3, 0, 0, 0, 0), 
  (1600, .aload_n 1, 1, 0, 0, 0, 0), (1601, .aload_n 0, 1, 0, 0, 0, 0), (1602, .iload 4, 2, 0, 0, 0, 0), (1604, .iconst 1, 1, 0, 0, 0, 0), (1605, .iadd, 1, 0, 0, 0, 0), 
  (1606, .iaload, 1, 0, 0, 0, 0), (1607, .aload_n 3, 1, 0, 0, 0, 0), (1608, .invokestatic 229, 3, 327, 3, 7, 1289), (1611, .istore 5, 2, 0, 0, 0, 0), 
  (1613, .aload_n 2, 1, 0, 0, 0, 0), (1614, .aload_n 0, 1, 0, 0, 0, 0), (1615, .iload 4, 2, 0, 0, 0, 0), (1617, .iconst 1, 1, 0, 0, 0, 0), (1618, .iadd, 1, 0, 0, 0, 0), 
  (1619, .iaload, 1, 0, 0, 0, 0), (1620, .invokevirtual 231, 3, 258, 2, 0, 2098), (1623, .istore 6, 2, 0, 0, 0, 0), (1625, .aload_n 2, 1, 0, 0, 0, 0), 
  (1626, .invokevirtual 153, 3, 168, 1, 0, 1730), (1629, .iload 5, 2, 0, 0, 0, 0), (1631, .if_icmp .eq 5, 3, 0, 0, 0, 0), (1634, .iconst 0, 1, 0, 0, 0, 0), 
  (1635, .ireturn, 1, 0, 0, 1, 0), (1636, .iload 5, 2, 0, 0, 0, 0), (1638, .ifCond .ne 15, 3, 0, 0, 0, 0), (1641, .aload_n 3, 1, 0, 0, 0, 0), (1642, .iconst 0, 1, 0, 0, 0, 0), 
  (1643, .laload, 1, 0, 0, 0, 0), (1644, .iload 6, 2, 0, 0, 0, 0), (1646, .i2l, 1, 0, 0, 0, 0), (1647, .lcmp, 1, 0, 0, 0, 0), (1648, .ifCond .eq 5, 3, 0, 0, 0, 0), 
  (1651, .iconst 0, 1, 0, 0, 0, 0), (1652, .ireturn, 1, 0, 0, 1, 0), (1653, .goto 1061, 3, 0, 0, 0, 0), (1656, .aload_n 1, 1, 0, 0, 0, 0), (1657, .aload_n 0, 1, 0, 0, 0, 0), 
  (1658, .iload 4, 2, 0, 0, 0, 0), (1660, .iconst 1, 1, 0, 0, 0, 0), (1661, .iadd, 1, 0, 0, 0, 0), (1662, .iaload, 1, 0, 0, 0, 0), (1663, .aload_n 3, 1, 0, 0, 0, 0), 
  (1664, .invokestatic 232, 3, 328, 3, 7, 1304), (1667, .istore 5, 2, 0, 0, 0, 0), (1669, .aload_n 2, 1, 0, 0, 0, 0), (1670, .aload_n 0, 1, 0, 0, 0, 0), 
  (1671, .iload 4, 2, 0, 0, 0, 0), (1673, .iconst 1, 1, 0, 0, 0, 0), (1674, .iadd, 1, 0, 0, 0, 0), (1675, .iaload, 1, 0, 0, 0, 0), (1676, .invokevirtual 234, 3, 259, 2, 0, 2106), 
  (1679, .istore 6, 2, 0, 0, 0, 0), (1681, .aload_n 2, 1, 0, 0, 0, 0), (1682, .invokevirtual 153, 3, 168, 1, 0, 1730), (1685, .iload 5, 2, 0, 0, 0, 0), 
  (1687, .if_icmp .eq 5, 3, 0, 0, 0, 0), (1690, .iconst 0, 1, 0, 0, 0, 0), (1691, .ireturn, 1, 0, 0, 1, 0), (1692, .iload 5, 2, 0, 0, 0, 0), (1694, .ifCond .ne 15, 3, 0, 0, 0, 0), 
  (1697, .aload_n 3, 1, 0, 0, 0, 0), (1698, .iconst 0, 1, 0, 0, 0, 0), (1699, .laload, 1, 0, 0, 0, 0), (1700, .iload 6, 2, 0, 0, 0, 0), (1702, .i2l, 1, 0, 0, 0, 0), 
  (1703, .lcmp, 1, 0, 0, 0, 0), (1704, .ifCond .eq 5, 3, 0, 0, 0, 0), (1707, .iconst 0, 1, 0, 0, 0, 0), (1708, .ireturn, 1, 0, 0, 1, 0), (1709, .goto 1005, 3, 0, 0, 0, 0), 
  (1712, .aload_n 1, 1, 0, 0, 0, 0), (1713, .invokevirtual 235, 3, 126, 1, 0, 618), (1716, .aload_n 2, 1, 0, 0, 0, 0), (1717, .invokevirtual 238, 3, 260, 1, 0, 2110), 
  (1720, .if_icmp .eq 994, 3, 0, 0, 0, 0), (1723, .iconst 0, 1, 0, 0, 0, 0), (1724, .ireturn, 1, 0, 0, 1, 0), (1725, .aload_n 1, 1, 0, 0, 0, 0), (1726, .aload_n 0, 1, 0, 0, 0, 0), 
  (1727, .iload 4, 2, 0, 0, 0, 0), (1729, .iconst 1, 1, 0, 0, 0, 0), (1730, .iadd, 1, 0, 0, 0, 0), (1731, .iaload, 1, 0, 0, 0, 0), (1732, .aload_n 3, 1, 0, 0, 0, 0), 
  (1733, .invokestatic 239, 3, 329, 3, 7, 1311), (1736, .istore 5, 2, 0, 0, 0, 0), (1738, .aload_n 2, 1, 0, 0, 0, 0), (1739, .aload_n 0, 1, 0, 0, 0, 0), 
  (1740, .iload 4, 2, 0, 0, 0, 0), (1742, .iconst 1, 1, 0, 0, 0, 0), (1743, .iadd, 1, 0, 0, 0, 0), (1744, .iaload, 1, 0, 0, 0, 0), (1745, .invokevirtual 241, 3, 262, 2, 0, 2114), 
  (1748, .istore 6, 2, 0, 0, 0, 0), (1750, .aload_n 2, 1, 0, 0, 0, 0), (1751, .invokevirtual 153, 3, 168, 1, 0, 1730), (1754, .iload 5, 2, 0, 0, 0, 0), 
  (1756, .if_icmp .eq 5, 3, 0, 0, 0, 0), (1759, .iconst 0, 1, 0, 0, 0, 0), (1760, .ireturn, 1, 0, 0, 1, 0), (1761, .iload 5, 2, 0, 0, 0, 0), (1763, .ifCond .ne 15, 3, 0, 0, 0, 0), 
  (1766, .aload_n 3, 1, 0, 0, 0, 0), (1767, .iconst 0, 1, 0, 0, 0, 0), (1768, .laload, 1, 0, 0, 0, 0), (1769, .iload 6, 2, 0, 0, 0, 0), (1771, .i2l, 1, 0, 0, 0, 0), 
  (1772, .lcmp, 1, 0, 0, 0, 0), (1773, .ifCond .eq 5, 3, 0, 0, 0, 0), (1776, .iconst 0, 1, 0, 0, 0, 0), (1777, .ireturn, 1, 0, 0, 1, 0), (1778, .goto 936, 3, 0, 0, 0, 0), 
  (1781, .aload_n 1, 1, 0, 0, 0, 0), (1782, .aload_n 0, 1, 0, 0, 0, 0), (1783, .iload 4, 2, 0, 0, 0, 0), (1785, .iconst 1, 1, 0, 0, 0, 0), (1786, .iadd, 1, 0, 0, 0, 0), 
  (1787, .iaload, 1, 0, 0, 0, 0), (1788, .aload_n 0, 1, 0, 0, 0, 0), (1789, .iload 4, 2, 0, 0, 0, 0), (1791, .iconst 2, 1, 0, 0, 0, 0), (1792, .iadd, 1, 0, 0, 0, 0), 
  (1793, .iaload, 1, 0, 0, 0, 0), (1794, .aload_n 3, 1, 0, 0, 0, 0), (1795, .invokestatic 242, 3, 330, 4, 7, 1327), (1798, .istore 5, 2, 0, 0, 0, 0), 
  (1800, .aload_n 2, 1, 0, 0, 0, 0), (1801, .aload_n 0, 1, 0, 0, 0, 0), (1802, .iload 4, 2, 0, 0, 0, 0), (1804, .iconst 1, 1, 0, 0, 0, 0), (1805, .iadd, 1, 0, 0, 0, 0), 
  (1806, .iaload, 1, 0, 0, 0, 0), (1807, .aload_n 0, 1, 0, 0, 0, 0), (1808, .iload 4, 2, 0, 0, 0, 0), (1810, .iconst 2, 1, 0, 0, 0, 0), (1811, .iadd, 1, 0, 0, 0, 0), 
  (1812, .iaload, 1, 0, 0, 0, 0), (1813, .invokevirtual 244, 3, 263, 3, 0, 2122), (1816, .istore 6, 2, 0, 0, 0, 0), (1818, .aload_n 2, 1, 0, 0, 0, 0), 
  (1819, .invokevirtual 153, 3, 168, 1, 0, 1730), (1822, .iload 5, 2, 0, 0, 0, 0), (1824, .if_icmp .eq 5, 3, 0, 0, 0, 0), (1827, .iconst 0, 1, 0, 0, 0, 0), 
  (1828, .ireturn, 1, 0, 0, 1, 0), (1829, .iload 5, 2, 0, 0, 0, 0), (1831, .ifCond .ne 15, 3, 0, 0, 0, 0), (1834, .aload_n 3, 1, 0, 0, 0, 0), (1835, .iconst 0, 1, 0, 0, 0, 0), 
  (1836, .laload, 1, 0, 0, 0, 0), (1837, .iload 6, 2, 0, 0, 0, 0), (1839, .i2l, 1, 0, 0, 0, 0), (1840, .lcmp, 1, 0, 0, 0, 0), (1841, .ifCond .eq 5, 3, 0, 0, 0, 0), 
  (1844, .iconst 0, 1, 0, 0, 0, 0), (1845, .ireturn, 1, 0, 0, 1, 0), (1846, .goto 868, 3, 0, 0, 0, 0), (1849, .aload_n 1, 1, 0, 0, 0, 0), (1850, .aload_n 0, 1, 0, 0, 0, 0), 
  (1851, .iload 4, 2, 0, 0, 0, 0), (1853, .iconst 1, 1, 0, 0, 0, 0), (1854, .iadd, 1, 0, 0, 0, 0), (1855, .iaload, 1, 0, 0, 0, 0), (1856, .aload_n 0, 1, 0, 0, 0, 0), 
  (1857, .iload 4, 2, 0, 0, 0, 0), (1859, .iconst 2, 1, 0, 0, 0, 0), (1860, .iadd, 1, 0, 0, 0, 0), (1861, .iaload, 1, 0, 0, 0, 0), (1862, .aload_n 3, 1, 0, 0, 0, 0), 
  (1863, .invokestatic 245, 3, 331, 4, 7, 1343), (1866, .istore 5, 2, 0, 0, 0, 0), (1868, .aload_n 2, 1, 0, 0, 0, 0), (1869, .aload_n 0, 1, 0, 0, 0, 0), 
  (1870, .iload 4, 2, 0, 0, 0, 0), (1872, .iconst 1, 1, 0, 0, 0, 0), (1873, .iadd, 1, 0, 0, 0, 0), (1874, .iaload, 1, 0, 0, 0, 0), (1875, .aload_n 0, 1, 0, 0, 0, 0), 
  (1876, .iload 4, 2, 0, 0, 0, 0), (1878, .iconst 2, 1, 0, 0, 0, 0), (1879, .iadd, 1, 0, 0, 0, 0), (1880, .iaload, 1, 0, 0, 0, 0), (1881, .invokevirtual 247, 3, 264, 3, 0, 2126), 
  (1884, .istore 6, 2, 0, 0, 0, 0), (1886, .aload_n 2, 1, 0, 0, 0, 0), (1887, .invokevirtual 153, 3, 168, 1, 0, 1730), (1890, .iload 5, 2, 0, 0, 0, 0), 
  (1892, .if_icmp .eq 5, 3, 0, 0, 0, 0), (1895, .iconst 0, 1, 0, 0, 0, 0), (1896, .ireturn, 1, 0, 0, 1, 0), (1897, .iload 5, 2, 0, 0, 0, 0), (1899, .ifCond .ne 15, 3, 0, 0, 0, 0), 
  (1902, .aload_n 3, 1, 0, 0, 0, 0), (1903, .iconst 0, 1, 0, 0, 0, 0), (1904, .laload, 1, 0, 0, 0, 0), (1905, .iload 6, 2, 0, 0, 0, 0), (1907, .i2l, 1, 0, 0, 0, 0), 
  (1908, .lcmp, 1, 0, 0, 0, 0), (1909, .ifCond .eq 5, 3, 0, 0, 0, 0), (1912, .iconst 0, 1, 0, 0, 0, 0), (1913, .ireturn, 1, 0, 0, 1, 0), (1914, .goto 800, 3, 0, 0, 0, 0), 
  (1917, .aload_n 1, 1, 0, 0, 0, 0), (1918, .aload_n 0, 1, 0, 0, 0, 0), (1919, .iload 4, 2, 0, 0, 0, 0), (1921, .iconst 1, 1, 0, 0, 0, 0), (1922, .iadd, 1, 0, 0, 0, 0), 
  (1923, .iaload, 1, 0, 0, 0, 0), (1924, .aload_n 3, 1, 0, 0, 0, 0), (1925, .invokestatic 248, 3, 332, 3, 7, 1350), (1928, .istore 5, 2, 0, 0, 0, 0), 
  (1930, .aload_n 2, 1, 0, 0, 0, 0), (1931, .aload_n 0, 1, 0, 0, 0, 0), (1932, .iload 4, 2, 0, 0, 0, 0), (1934, .iconst 1, 1, 0, 0, 0, 0), (1935, .iadd, 1, 0, 0, 0, 0), 
  (1936, .iaload, 1, 0, 0, 0, 0), (1937, .invokevirtual 250, 3, 265, 2, 0, 2130), (1940, .istore 6, 2, 0, 0, 0, 0), (1942, .aload_n 2, 1, 0, 0, 0, 0), 
  (1943, .invokevirtual 153, 3, 168, 1, 0, 1730), (1946, .iload 5, 2, 0, 0, 0, 0), (1948, .if_icmp .eq 5, 3, 0, 0, 0, 0), (1951, .iconst 0, 1, 0, 0, 0, 0), 
  (1952, .ireturn, 1, 0, 0, 1, 0), (1953, .iload 5, 2, 0, 0, 0, 0), (1955, .ifCond .ne 15, 3, 0, 0, 0, 0), (1958, .aload_n 3, 1, 0, 0, 0, 0), (1959, .iconst 0, 1, 0, 0, 0, 0), 
  (1960, .laload, 1, 0, 0, 0, 0), (1961, .iload 6, 2, 0, 0, 0, 0), (1963, .i2l, 1, 0, 0, 0, 0), (1964, .lcmp, 1, 0, 0, 0, 0), (1965, .ifCond .eq 5, 3, 0, 0, 0, 0), 
  (1968, .iconst 0, 1, 0, 0, 0, 0), (1969, .ireturn, 1, 0, 0, 1, 0), (1970, .goto 744, 3, 0, 0, 0, 0), (1973, .aload_n 1, 1, 0, 0, 0, 0), (1974, .aload_n 0, 1, 0, 0, 0, 0), 
  (1975, .iload 4, 2, 0, 0, 0, 0), (1977, .iconst 1, 1, 0, 0, 0, 0), (1978, .iadd, 1, 0, 0, 0, 0), (1979, .iaload, 1, 0, 0, 0, 0), (1980, .aload_n 0, 1, 0, 0, 0, 0), 
  (1981, .iload 4, 2, 0, 0, 0, 0), (1983, .iconst 2, 1, 0, 0, 0, 0), (1984, .iadd, 1, 0, 0, 0, 0), (1985, .iaload, 1, 0, 0, 0, 0), (1986, .aload_n 0, 1, 0, 0, 0, 0), 
  (1987, .iload 4, 2, 0, 0, 0, 0), (1989, .iconst 3, 1, 0, 0, 0, 0), (1990, .iadd, 1, 0, 0, 0, 0), (1991, .iaload, 1, 0, 0, 0, 0), (1992, .aload_n 3, 1, 0, 0, 0, 0), 
  (1993, .invokestatic 251, 3, 333, 5, 7, 1357), (1996, .istore 5, 2, 0, 0, 0, 0), (1998, .aload_n 2, 1, 0, 0, 0, 0), (1999, .aload_n 0, 1, 0, 0, 0, 0), 
  (2000, .iload 4, 2, 0, 0, 0, 0), (2002, .iconst 1, 1, 0, 0, 0, 0), (2003, .iadd, 1, 0, 0, 0, 0), (2004, .iaload, 1, 0, 0, 0, 0), (2005, .aload_n 0, 1, 0, 0, 0, 0), 
  (2006, .iload 4, 2, 0, 0, 0, 0), (2008, .iconst 2, 1, 0, 0, 0, 0), (2009, .iadd, 1, 0, 0, 0, 0), (2010, .iaload, 1, 0, 0, 0, 0), (2011, .aload_n 0, 1, 0, 0, 0, 0), 
  (2012, .iload 4, 2, 0, 0, 0, 0), (2014, .iconst 3, 1, 0, 0, 0, 0), (2015, .iadd, 1, 0, 0, 0, 0), (2016, .iaload, 1, 0, 0, 0, 0), (2017, .invokevirtual 254, 3, 268, 4, 0, 2134), 
  (2020, .istore 6, 2, 0, 0, 0, 0), (2022, .aload_n 2, 1, 0, 0, 0, 0), (2023, .invokevirtual 153, 3, 168, 1, 0, 1730), (2026, .iload 5, 2, 0, 0, 0, 0), 
  (2028, .if_icmp .eq 5, 3, 0, 0, 0, 0), (2031, .iconst 0, 1, 0, 0, 0, 0), (2032, .ireturn, 1, 0, 0, 1, 0), (2033, .iload 5, 2, 0, 0, 0, 0), (2035, .ifCond .ne 15, 3, 0, 0, 0, 0), 
  (2038, .aload_n 3, 1, 0, 0, 0, 0), (2039, .iconst 0, 1, 0, 0, 0, 0), (2040, .laload, 1, 0, 0, 0, 0), (2041, .iload 6, 2, 0, 0, 0, 0), (2043, .i2l, 1, 0, 0, 0, 0), 
  (2044, .lcmp, 1, 0, 0, 0, 0), (2045, .ifCond .eq 5, 3, 0, 0, 0, 0), (2048, .iconst 0, 1, 0, 0, 0, 0), (2049, .ireturn, 1, 0, 0, 1, 0), (2050, .goto 664, 3, 0, 0, 0, 0), 
  (2053, .aload_n 1, 1, 0, 0, 0, 0), (2054, .aload_n 0, 1, 0, 0, 0, 0), (2055, .iload 4, 2, 0, 0, 0, 0), (2057, .iconst 1, 1, 0, 0, 0, 0), (2058, .iadd, 1, 0, 0, 0, 0), 
  (2059, .iaload, 1, 0, 0, 0, 0), (2060, .aload_n 3, 1, 0, 0, 0, 0), (2061, .invokestatic 255, 3, 334, 3, 7, 1371), (2064, .istore 5, 2, 0, 0, 0, 0), 
  (2066, .aload_n 2, 1, 0, 0, 0, 0), (2067, .aload_n 0, 1, 0, 0, 0, 0), (2068, .iload 4, 2, 0, 0, 0, 0), (2070, .iconst 1, 1, 0, 0, 0, 0), (2071, .iadd, 1, 0, 0, 0, 0), 
  (2072, .iaload, 1, 0, 0, 0, 0), (2073, .invokevirtual 257, 3, 270, 2, 0, 2145), (2076, .istore 6, 2, 0, 0, 0, 0), (2078, .aload_n 2, 1, 0, 0, 0, 0), 
  (2079, .invokevirtual 153, 3, 168, 1, 0, 1730), (2082, .iload 5, 2, 0, 0, 0, 0), (2084, .if_icmp .eq 5, 3, 0, 0, 0, 0), (2087, .iconst 0, 1, 0, 0, 0, 0), 
  (2088, .ireturn, 1, 0, 0, 1, 0), (2089, .iload 5, 2, 0, 0, 0, 0), (2091, .ifCond .ne 15, 3, 0, 0, 0, 0), (2094, .aload_n 3, 1, 0, 0, 0, 0), (2095, .iconst 0, 1, 0, 0, 0, 0), 
  (2096, .laload, 1, 0, 0, 0, 0), (2097, .iload 6, 2, 0, 0, 0, 0), (2099, .i2l, 1, 0, 0, 0, 0), (2100, .lcmp, 1, 0, 0, 0, 0), (2101, .ifCond .eq 5, 3, 0, 0, 0, 0), 
  (2104, .iconst 0, 1, 0, 0, 0, 0), (2105, .ireturn, 1, 0, 0, 1, 0), (2106, .goto 608, 3, 0, 0, 0, 0), (2109, .aload_n 1, 1, 0, 0, 0, 0), 
  (2110, .invokevirtual 258, 3, 133, 1, 0, 622), (2113, .aload_n 2, 1, 0, 0, 0, 0), (2114, .invokevirtual 261, 3, 271, 1, 0, 2153), (2117, .if_icmp .eq 597, 3, 0, 0, 0, 0), 
  (2120, .iconst 0, 1, 0, 0, 0, 0), (2121, .ireturn, 1, 0, 0, 1, 0), (2122, .aload_n 1, 1, 0, 0, 0, 0), (2123, .invokevirtual 262, 3, 134, 1, 0, 634), 
  (2126, .aload_n 2, 1, 0, 0, 0, 0), (2127, .invokevirtual 265, 3, 273, 1, 0, 2157), (2130, .if_icmp .eq 584, 3, 0, 0, 0, 0), (2133, .iconst 0, 1, 0, 0, 0, 0), 
  (2134, .ireturn, 1, 0, 0, 1, 0), (2135, .aload_n 1, 1, 0, 0, 0, 0), (2136, .aload_n 0, 1, 0, 0, 0, 0), (2137, .iload 4, 2, 0, 0, 0, 0), (2139, .iconst 1, 1, 0, 0, 0, 0), 
  (2140, .iadd, 1, 0, 0, 0, 0), (2141, .iaload, 1, 0, 0, 0, 0), (2142, .aload_n 3, 1, 0, 0, 0, 0), (2143, .invokestatic 266, 3, 335, 3, 7, 1378), (2146, .istore 5, 2, 0, 0, 0, 0), 
  (2148, .aload_n 2, 1, 0, 0, 0, 0), (2149, .aload_n 0, 1, 0, 0, 0, 0), (2150, .iload 4, 2, 0, 0, 0, 0), (2152, .iconst 1, 1, 0, 0, 0, 0), (2153, .iadd, 1, 0, 0, 0, 0), 
  (2154, .iaload, 1, 0, 0, 0, 0), (2155, .invokevirtual 268, 3, 274, 2, 0, 2169), (2158, .istore 6, 2, 0, 0, 0, 0), (2160, .aload_n 2, 1, 0, 0, 0, 0), 
  (2161, .invokevirtual 153, 3, 168, 1, 0, 1730), (2164, .iload 5, 2, 0, 0, 0, 0), (2166, .if_icmp .eq 5, 3, 0, 0, 0, 0), (2169, .iconst 0, 1, 0, 0, 0, 0), 
  (2170, .ireturn, 1, 0, 0, 1, 0), (2171, .iload 5, 2, 0, 0, 0, 0), (2173, .ifCond .ne 15, 3, 0, 0, 0, 0), (2176, .aload_n 3, 1, 0, 0, 0, 0), (2177, .iconst 0, 1, 0, 0, 0, 0), 
  (2178, .laload, 1, 0, 0, 0, 0), (2179, .iload 6, 2, 0, 0, 0, 0), (2181, .i2l, 1, 0, 0, 0, 0), (2182, .lcmp, 1, 0, 0, 0, 0), (2183, .ifCond .eq 5, 3, 0, 0, 0, 0), 
  (2186, .iconst 0, 1, 0, 0, 0, 0), (2187, .ireturn, 1, 0, 0, 1, 0), (2188, .goto 526, 3, 0, 0, 0, 0), (2191, .aload_n 1, 1, 0, 0, 0, 0), (2192, .aload_n 0, 1, 0, 0, 0, 0), 
  (2193, .iload 4, 2, 0, 0, 0, 0), (2195, .iconst 1, 1, 0, 0, 0, 0), (2196, .iadd, 1, 0, 0, 0, 0), (2197, .iaload, 1, 0, 0, 0, 0), (2198, .aload_n 0, 1, 0, 0, 0, 0), 
  (2199, .iload 4, 2, 0, 0, 0, 0), (2201, .iconst 2, 1, 0, 0, 0, 0), (2202, .iadd, 1, 0, 0, 0, 0), (2203, .iaload, 1, 0, 0, 0, 0), (2204, .aload_n 3, 1, 0, 0, 0, 0), 
  (2205, .invokestatic 269, 3, 336, 4, 7, 1385), (2208, .istore 5, 2, 0, 0, 0, 0), (2210, .aload_n 2, 1, 0, 0, 0, 0), (2211, .aload_n 0, 1, 0, 0, 0, 0), 
  (2212, .iload 4, 2, 0, 0, 0, 0), (2214, .iconst 1, 1, 0, 0, 0, 0), (2215, .iadd, 1, 0, 0, 0, 0), (2216, .iaload, 1, 0, 0, 0, 0), (2217, .aload_n 0, 1, 0, 0, 0, 0), 
  (2218, .iload 4, 2, 0, 0, 0, 0), (2220, .iconst 2, 1, 0, 0, 0, 0), (2221, .iadd, 1, 0, 0, 0, 0), (2222, .iaload, 1, 0, 0, 0, 0), (2223, .invokevirtual 271, 3, 275, 3, 0, 2173), 
  (2226, .istore 6, 2, 0, 0, 0, 0), (2228, .aload_n 2, 1, 0, 0, 0, 0), (2229, .invokevirtual 153, 3, 168, 1, 0, 1730), (2232, .iload 5, 2, 0, 0, 0, 0), 
  (2234, .if_icmp .eq 5, 3, 0, 0, 0, 0), (2237, .iconst 0, 1, 0, 0, 0, 0), (2238, .ireturn, 1, 0, 0, 1, 0), (2239, .iload 5, 2, 0, 0, 0, 0), (2241, .ifCond .ne 15, 3, 0, 0, 0, 0), 
  (2244, .aload_n 3, 1, 0, 0, 0, 0), (2245, .iconst 0, 1, 0, 0, 0, 0), (2246, .laload, 1, 0, 0, 0, 0), (2247, .iload 6, 2, 0, 0, 0, 0), (2249, .i2l, 1, 0, 0, 0, 0), 
  (2250, .lcmp, 1, 0, 0, 0, 0), (2251, .ifCond .eq 5, 3, 0, 0, 0, 0), (2254, .iconst 0, 1, 0, 0, 0, 0), (2255, .ireturn, 1, 0, 0, 1, 0), (2256, .goto 458, 3, 0, 0, 0, 0), 
  (2259, .aload_n 1, 1, 0, 0, 0, 0), (2260, .aload_n 0, 1, 0, 0, 0, 0), (2261, .iload 4, 2, 0, 0, 0, 0), (2263, .iconst 1, 1, 0, 0, 0, 0), (2264, .iadd, 1, 0, 0, 0, 0), 
  (2265, .iaload, 1, 0, 0, 0, 0), (2266, .aload_n 3, 1, 0, 0, 0, 0), (2267, .invokestatic 272, 3, 337, 3, 7, 1392), (2270, .istore 5, 2, 0, 0, 0, 0), 
  (2272, .aload_n 2, 1, 0, 0, 0, 0), (2273, .aload_n 0, 1, 0, 0, 0, 0), (2274, .iload 4, 2, 0, 0, 0, 0), (2276, .iconst 1, 1, 0, 0, 0, 0), (2277, .iadd, 1, 0, 0, 0, 0), 
  (2278, .iaload, 1, 0, 0, 0, 0), (2279, .invokevirtual 274, 3, 276, 2, 0, 2177), (2282, .istore 6, 2, 0, 0, 0, 0), (2284, .aload_n 2, 1, 0, 0, 0, 0), 
  (2285, .invokevirtual 153, 3, 168, 1, 0, 1730), (2288, .iload 5, 2, 0, 0, 0, 0), (2290, .if_icmp .eq 5, 3, 0, 0, 0, 0), (2293, .iconst 0, 1, 0, 0, 0, 0), 
  (2294, .ireturn, 1, 0, 0, 1, 0), (2295, .iload 5, 2, 0, 0, 0, 0), (2297, .ifCond .ne 15, 3, 0, 0, 0, 0), (2300, .aload_n 3, 1, 0, 0, 0, 0), (2301, .iconst 0, 1, 0, 0, 0, 0), 
  (2302, .laload, 1, 0, 0, 0, 0), (2303, .iload 6, 2, 0, 0, 0, 0), (2305, .i2l, 1, 0, 0, 0, 0), (2306, .lcmp, 1, 0, 0, 0, 0), (2307, .ifCond .eq 5, 3, 0, 0, 0, 0), 
  (2310, .iconst 0, 1, 0, 0, 0, 0), (2311, .ireturn, 1, 0, 0, 1, 0), (2312, .goto 402, 3, 0, 0, 0, 0), (2315, .aload_n 1, 1, 0, 0, 0, 0), 
  (2316, .invokevirtual 275, 3, 138, 1, 0, 783), (2319, .aload_n 2, 1, 0, 0, 0, 0), (2320, .invokevirtual 278, 3, 280, 1, 0, 2181), (2323, .if_icmp .eq 391, 3, 0, 0, 0, 0), 
  (2326, .iconst 0, 1, 0, 0, 0, 0), (2327, .ireturn, 1, 0, 0, 1, 0), (2328, .aload_n 1, 1, 0, 0, 0, 0), (2329, .invokevirtual 279, 3, 139, 1, 0, 803), 
  (2332, .aload_n 2, 1, 0, 0, 0, 0), (2333, .invokevirtual 282, 3, 281, 1, 0, 2196), (2336, .if_icmp .eq 378, 3, 0, 0, 0, 0), (2339, .iconst 0, 1, 0, 0, 0, 0), 
  (2340, .ireturn, 1, 0, 0, 1, 0), (2341, .aload_n 1, 1, 0, 0, 0, 0), (2342, .aload_n 0, 1, 0, 0, 0, 0), (2343, .iload 4, 2, 0, 0, 0, 0), (2345, .iconst 1, 1, 0, 0, 0, 0), 
  (2346, .iadd, 1, 0, 0, 0, 0), (2347, .iaload, 1, 0, 0, 0, 0), (2348, .aload_n 3, 1, 0, 0, 0, 0), (2349, .invokestatic 283, 3, 338, 3, 7, 1399), (2352, .istore 5, 2, 0, 0, 0, 0), 
  (2354, .aload_n 2, 1, 0, 0, 0, 0), (2355, .aload_n 0, 1, 0, 0, 0, 0), (2356, .iload 4, 2, 0, 0, 0, 0), (2358, .iconst 1, 1, 0, 0, 0, 0), (2359, .iadd, 1, 0, 0, 0, 0), 
  (2360, .iaload, 1, 0, 0, 0, 0), (2361, .invokevirtual 285, 3, 285, 2, 0, 2200), (2364, .istore 6, 2, 0, 0, 0, 0), (2366, .aload_n 2, 1, 0, 0, 0, 0), 
  (2367, .invokevirtual 153, 3, 168, 1, 0, 1730), (2370, .iload 5, 2, 0, 0, 0, 0), (2372, .if_icmp .eq 5, 3, 0, 0, 0, 0), (2375, .iconst 0, 1, 0, 0, 0, 0), 
  (2376, .ireturn, 1, 0, 0, 1, 0), (2377, .iload 5, 2, 0, 0, 0, 0), (2379, .ifCond .ne 15, 3, 0, 0, 0, 0), (2382, .aload_n 3, 1, 0, 0, 0, 0), (2383, .iconst 0, 1, 0, 0, 0, 0), 
  (2384, .laload, 1, 0, 0, 0, 0), (2385, .iload 6, 2, 0, 0, 0, 0), (2387, .i2l, 1, 0, 0, 0, 0), (2388, .lcmp, 1, 0, 0, 0, 0), (2389, .ifCond .eq 5, 3, 0, 0, 0, 0), 
  (2392, .iconst 0, 1, 0, 0, 0, 0), (2393, .ireturn, 1, 0, 0, 1, 0), (2394, .goto 320, 3, 0, 0, 0, 0), (2397, .aload_n 1, 1, 0, 0, 0, 0), (2398, .aload_n 0, 1, 0, 0, 0, 0), 
  (2399, .iload 4, 2, 0, 0, 0, 0), (2401, .iconst 1, 1, 0, 0, 0, 0), (2402, .iadd, 1, 0, 0, 0, 0), (2403, .iaload, 1, 0, 0, 0, 0), (2404, .aload_n 0, 1, 0, 0, 0, 0), 
  (2405, .iload 4, 2, 0, 0, 0, 0), (2407, .iconst 2, 1, 0, 0, 0, 0), (2408, .iadd, 1, 0, 0, 0, 0), (2409, .iaload, 1, 0, 0, 0, 0), (2410, .aload_n 3, 1, 0, 0, 0, 0), 
  (2411, .invokestatic 286, 3, 339, 4, 7, 1415), (2414, .istore 5, 2, 0, 0, 0, 0), (2416, .aload_n 2, 1, 0, 0, 0, 0), (2417, .aload_n 0, 1, 0, 0, 0, 0), 
  (2418, .iload 4, 2, 0, 0, 0, 0), (2420, .iconst 1, 1, 0, 0, 0, 0), (2421, .iadd, 1, 0, 0, 0, 0), (2422, .iaload, 1, 0, 0, 0, 0), (2423, .aload_n 0, 1, 0, 0, 0, 0), 
  (2424, .iload 4, 2, 0, 0, 0, 0), (2426, .iconst 2, 1, 0, 0, 0, 0), (2427, .iadd, 1, 0, 0, 0, 0), (2428, .iaload, 1, 0, 0, 0, 0), (2429, .invokevirtual 288, 3, 286, 3, 0, 2216), 
  (2432, .istore 6, 2, 0, 0, 0, 0), (2434, .aload_n 2, 1, 0, 0, 0, 0), (2435, .invokevirtual 153, 3, 168, 1, 0, 1730), (2438, .iload 5, 2, 0, 0, 0, 0), 
  (2440, .if_icmp .eq 5, 3, 0, 0, 0, 0), (2443, .iconst 0, 1, 0, 0, 0, 0), (2444, .ireturn, 1, 0, 0, 1, 0), (2445, .iload 5, 2, 0, 0, 0, 0), (2447, .ifCond .ne 15, 3, 0, 0, 0, 0), 
  (2450, .aload_n 3, 1, 0, 0, 0, 0), (2451, .iconst 0, 1, 0, 0, 0, 0), (2452, .laload, 1, 0, 0, 0, 0), (2453, .iload 6, 2, 0, 0, 0, 0), (2455, .i2l, 1, 0, 0, 0, 0), 
  (2456, .lcmp, 1, 0, 0, 0, 0), (2457, .ifCond .eq 5, 3, 0, 0, 0, 0), (2460, .iconst 0, 1, 0, 0, 0, 0), (2461, .ireturn, 1, 0, 0, 1, 0), (2462, .goto 252, 3, 0, 0, 0, 0), 
  (2465, .aload_n 1, 1, 0, 0, 0, 0), (2466, .aload_n 0, 1, 0, 0, 0, 0), (2467, .iload 4, 2, 0, 0, 0, 0), (2469, .iconst 1, 1, 0, 0, 0, 0), (2470, .iadd, 1, 0, 0, 0, 0), 
  (2471, .iaload, 1, 0, 0, 0, 0), (2472, .aload_n 3, 1, 0, 0, 0, 0), (2473, .invokestatic 289, 3, 340, 3, 7, 1422), (2476, .istore 5, 2, 0, 0, 0, 0), 
  (2478, .aload_n 2, 1, 0, 0, 0, 0), (2479, .aload_n 0, 1, 0, 0, 0, 0), (2480, .iload 4, 2, 0, 0, 0, 0), (2482, .iconst 1, 1, 0, 0, 0, 0), (2483, .iadd, 1, 0, 0, 0, 0), 
  (2484, .iaload, 1, 0, 0, 0, 0), (2485, .invokevirtual 291, 3, 287, 2, 0, 2220), (2488, .istore 6, 2, 0, 0, 0, 0), (2490, .aload_n 2, 1, 0, 0, 0, 0), 
  (2491, .invokevirtual 153, 3, 168, 1, 0, 1730), (2494, .iload 5, 2, 0, 0, 0, 0), (2496, .if_icmp .eq 5, 3, 0, 0, 0, 0), (2499, .iconst 0, 1, 0, 0, 0, 0), 
  (2500, .ireturn, 1, 0, 0, 1, 0), (2501, .iload 5, 2, 0, 0, 0, 0), (2503, .ifCond .ne 15, 3, 0, 0, 0, 0), (2506, .aload_n 3, 1, 0, 0, 0, 0), (2507, .iconst 0, 1, 0, 0, 0, 0), 
  (2508, .laload, 1, 0, 0, 0, 0), (2509, .iload 6, 2, 0, 0, 0, 0), (2511, .i2l, 1, 0, 0, 0, 0), (2512, .lcmp, 1, 0, 0, 0, 0), (2513, .ifCond .eq 5, 3, 0, 0, 0, 0), 
  (2516, .iconst 0, 1, 0, 0, 0, 0), (2517, .ireturn, 1, 0, 0, 1, 0), (2518, .goto 196, 3, 0, 0, 0, 0), (2521, .aload_n 1, 1, 0, 0, 0, 0), (2522, .aload_n 0, 1, 0, 0, 0, 0), 
  (2523, .iload 4, 2, 0, 0, 0, 0), (2525, .iconst 1, 1, 0, 0, 0, 0), (2526, .iadd, 1, 0, 0, 0, 0), (2527, .iaload, 1, 0, 0, 0, 0), (2528, .aload_n 3, 1, 0, 0, 0, 0), 
  (2529, .invokestatic 292, 3, 341, 3, 7, 1437), (2532, .istore 5, 2, 0, 0, 0, 0), (2534, .aload_n 2, 1, 0, 0, 0, 0), (2535, .aload_n 0, 1, 0, 0, 0, 0), 
  (2536, .iload 4, 2, 0, 0, 0, 0), (2538, .iconst 1, 1, 0, 0, 0, 0), (2539, .iadd, 1, 0, 0, 0, 0), (2540, .iaload, 1, 0, 0, 0, 0), (2541, .invokevirtual 294, 3, 288, 2, 0, 2224), 
  (2544, .istore 6, 2, 0, 0, 0, 0), (2546, .aload_n 2, 1, 0, 0, 0, 0), (2547, .invokevirtual 153, 3, 168, 1, 0, 1730), (2550, .iload 5, 2, 0, 0, 0, 0), 
  (2552, .if_icmp .eq 5, 3, 0, 0, 0, 0), (2555, .iconst 0, 1, 0, 0, 0, 0), (2556, .ireturn, 1, 0, 0, 1, 0), (2557, .iload 5, 2, 0, 0, 0, 0), (2559, .ifCond .ne 15, 3, 0, 0, 0, 0), 
  (2562, .aload_n 3, 1, 0, 0, 0, 0), (2563, .iconst 0, 1, 0, 0, 0, 0), (2564, .laload, 1, 0, 0, 0, 0), (2565, .iload 6, 2, 0, 0, 0, 0), (2567, .i2l, 1, 0, 0, 0, 0), 
  (2568, .lcmp, 1, 0, 0, 0, 0), (2569, .ifCond .eq 5, 3, 0, 0, 0, 0), (2572, .iconst 0, 1, 0, 0, 0, 0), (2573, .ireturn, 1, 0, 0, 1, 0), (2574, .goto 140, 3, 0, 0, 0, 0), 
  (2577, .aload_n 1, 1, 0, 0, 0, 0), (2578, .aload_n 0, 1, 0, 0, 0, 0), (2579, .iload 4, 2, 0, 0, 0, 0), (2581, .iconst 1, 1, 0, 0, 0, 0), (2582, .iadd, 1, 0, 0, 0, 0), 
  (2583, .iaload, 1, 0, 0, 0, 0), (2584, .aload_n 3, 1, 0, 0, 0, 0), (2585, .invokestatic 295, 3, 342, 3, 7, 1444), (2588, .istore 5, 2, 0, 0, 0, 0), 
  (2590, .aload_n 2, 1, 0, 0, 0, 0), (2591, .aload_n 0, 1, 0, 0, 0, 0), (2592, .iload 4, 2, 0, 0, 0, 0), (2594, .iconst 1, 1, 0, 0, 0, 0), (2595, .iadd, 1, 0, 0, 0, 0), 
  (2596, .iaload, 1, 0, 0, 0, 0), (2597, .invokevirtual 297, 3, 294, 2, 0, 2228), (2600, .istore 6, 2, 0, 0, 0, 0), (2602, .aload_n 2, 1, 0, 0, 0, 0), 
  (2603, .invokevirtual 153, 3, 168, 1, 0, 1730), (2606, .iload 5, 2, 0, 0, 0, 0), (2608, .if_icmp .eq 5, 3, 0, 0, 0, 0), (2611, .iconst 0, 1, 0, 0, 0, 0), 
  (2612, .ireturn, 1, 0, 0, 1, 0), (2613, .iload 5, 2, 0, 0, 0, 0), (2615, .ifCond .ne 15, 3, 0, 0, 0, 0), (2618, .aload_n 3, 1, 0, 0, 0, 0), (2619, .iconst 0, 1, 0, 0, 0, 0), 
  (2620, .laload, 1, 0, 0, 0, 0), (2621, .iload 6, 2, 0, 0, 0, 0), (2623, .i2l, 1, 0, 0, 0, 0), (2624, .lcmp, 1, 0, 0, 0, 0), (2625, .ifCond .eq 5, 3, 0, 0, 0, 0), 
  (2628, .iconst 0, 1, 0, 0, 0, 0), (2629, .ireturn, 1, 0, 0, 1, 0), (2630, .goto 84, 3, 0, 0, 0, 0), (2633, .aload_n 1, 1, 0, 0, 0, 0), (2634, .aload_n 0, 1, 0, 0, 0, 0), 
  (2635, .iload 4, 2, 0, 0, 0, 0), (2637, .iconst 1, 1, 0, 0, 0, 0), (2638, .iadd, 1, 0, 0, 0, 0), (2639, .iaload, 1, 0, 0, 0, 0), (2640, .aload_n 3, 1, 0, 0, 0, 0), 
  (2641, .invokestatic 298, 3, 343, 3, 7, 1487), (2644, .istore 5, 2, 0, 0, 0, 0), (2646, .aload_n 2, 1, 0, 0, 0, 0), (2647, .aload_n 0, 1, 0, 0, 0, 0), 
  (2648, .iload 4, 2, 0, 0, 0, 0), (2650, .iconst 1, 1, 0, 0, 0, 0), (2651, .iadd, 1, 0, 0, 0, 0), (2652, .iaload, 1, 0, 0, 0, 0), (2653, .invokevirtual 300, 3, 295, 2, 0, 2261), 
  (2656, .istore 6, 2, 0, 0, 0, 0), (2658, .aload_n 2, 1, 0, 0, 0, 0), (2659, .invokevirtual 153, 3, 168, 1, 0, 1730), (2662, .iload 5, 2, 0, 0, 0, 0), 
  (2664, .if_icmp .eq 5, 3, 0, 0, 0, 0), (2667, .iconst 0, 1, 0, 0, 0, 0), (2668, .ireturn, 1, 0, 0, 1, 0), (2669, .iload 5, 2, 0, 0, 0, 0), (2671, .ifCond .ne 15, 3, 0, 0, 0, 0), 
  (2674, .aload_n 3, 1, 0, 0, 0, 0), (2675, .iconst 0, 1, 0, 0, 0, 0), (2676, .laload, 1, 0, 0, 0, 0), (2677, .iload 6, 2, 0, 0, 0, 0), (2679, .i2l, 1, 0, 0, 0, 0), 
  (2680, .lcmp, 1, 0, 0, 0, 0), (2681, .ifCond .eq 5, 3, 0, 0, 0, 0), (2684, .iconst 0, 1, 0, 0, 0, 0), (2685, .ireturn, 1, 0, 0, 1, 0), (2686, .goto 28, 3, 0, 0, 0, 0), 
  (2689, .aload_n 1, 1, 0, 0, 0, 0), (2690, .aload_n 0, 1, 0, 0, 0, 0), (2691, .iload 4, 2, 0, 0, 0, 0), (2693, .iconst 1, 1, 0, 0, 0, 0), (2694, .iadd, 1, 0, 0, 0, 0), 
  (2695, .iaload, 1, 0, 0, 0, 0), (2696, .invokevirtual 301, 3, 146, 2, 0, 807), (2699, .aload_n 2, 1, 0, 0, 0, 0), (2700, .aload_n 0, 1, 0, 0, 0, 0), (2701, .iload 4, 2, 0, 0, 0, 0), 
  (2703, .iconst 1, 1, 0, 0, 0, 0), (2704, .iadd, 1, 0, 0, 0, 0), (2705, .iaload, 1, 0, 0, 0, 0), (2706, .invokevirtual 304, 3, 296, 2, 0, 2265), 
  (2709, .if_icmp .eq 5, 3, 0, 0, 0, 0), (2712, .iconst 0, 1, 0, 0, 0, 0), (2713, .ireturn, 1, 0, 0, 1, 0), (2714, .iinc 4 6, 3, 0, 0, 0, 0), (2717, .goto (-2694), 3, 0, 0, 0, 0), 
  (2720, .iconst 1, 1, 0, 0, 0, 0), (2721, .ireturn, 1, 0, 0, 1, 0)]
noncomputable def cdt_a : List (List (Nat × Ent)) := [cd_0, cd_1, cd_2, cd_3, cd_4, cd_5, cd_6, cd_7, cd_8, cd_9, cd_10, cd_11, cd_12, cd_13, cd_14, cd_15, cd_16, cd_17, cd_18, cd_19, cd_20, cd_21, cd_22, cd_23, cd_24, cd_25, cd_26, cd_27, cd_28, cd_29, cd_30, cd_31, cd_32, cd_33, cd_34, cd_35, cd_36, cd_37, cd_38, cd_39, cd_40, cd_41, cd_42, cd_43, cd_44, cd_45, cd_46, cd_47, cd_48, cd_49, cd_50, cd_51, cd_52, cd_53, cd_54, cd_55, cd_56, cd_57, cd_58, cd_59, cd_60, cd_61, cd_62, cd_63, cd_64, cd_65, cd_66, cd_67, cd_68, cd_69, cd_70, cd_71, cd_72, cd_73, cd_74, cd_75, cd_76, cd_77, cd_78, cd_79, cd_80, cd_81, cd_82, cd_83, cd_84, cd_85, cd_86, cd_87, cd_88, cd_89, cd_90, cd_91, cd_92, cd_93, cd_94, cd_95, cd_96, cd_97, cd_98, cd_99, cd_100, cd_101, cd_102, cd_103, cd_104, cd_105, cd_106, cd_107, cd_108, cd_109, cd_110, cd_111, cd_112, cd_113, cd_114, cd_115, cd_116, cd_117, cd_118, cd_119, cd_120, cd_121, cd_122, cd_123, cd_124, cd_125, cd_126, cd_127, cd_128, cd_129, cd_130, cd_131, cd_132, cd_133, cd_134, cd_135, cd_136, cd_137, cd_138, cd_139, cd_140, cd_141, cd_142, cd_143, cd_144, cd_145, cd_146, cd_147, cd_148, cd_149, cd_150, cd_151, cd_152, cd_153, cd_154, cd_155, cd_156, cd_157, cd_158, cd_159, cd_160, cd_161, cd_162, cd_163, cd_164, cd_165, cd_166, cd_167, cd_168, cd_169, cd_170, cd_171, cd_172, cd_173, cd_174, cd_175, cd_176, cd_177, cd_178, cd_179, cd_180, cd_181, cd_182, cd_183, cd_184, cd_185, cd_186, cd_187, cd_188, cd_189, cd_190, cd_191, cd_192, cd_193, cd_194, cd_195, cd_196, cd_197, cd_198, cd_199, cd_200, cd_201, cd_202, cd_203, cd_204, cd_205, cd_206, cd_207, cd_208, cd_209, cd_210, cd_211, cd_212, cd_213, cd_214, cd_215, cd_216, cd_217, cd_218, cd_219, cd_220, cd_221, cd_222, cd_223, cd_224, cd_225, cd_226, cd_227, cd_228, cd_229, cd_230, cd_231, cd_232, cd_233, cd_234, cd_235, cd_236, cd_237, cd_238, cd_239, cd_240, cd_241, cd_242, cd_243, cd_244, cd_245, cd_246, cd_247, cd_248, cd_249, cd_250, cd_251, cd_252, cd_253, cd_254, cd_255, cd_256, cd_257, cd_258, cd_259, cd_260, cd_261, cd_262, cd_263, cd_264, cd_265, cd_266, cd_267, cd_268, cd_269, cd_270, cd_271, cd_272, cd_273, cd_274, cd_275, cd_276, cd_277, cd_278, cd_279, cd_280, cd_281, cd_282, cd_283, cd_284, cd_285, cd_286, cd_287, cd_288, cd_289, cd_290, cd_291, cd_292, cd_293, cd_294, cd_295, cd_296, cd_297, cd_298, cd_299, cd_300, cd_301, cd_302, cd_303, cd_304, cd_305, cd_306, cd_307, cd_308, cd_309, cd_310, cd_311, cd_312, cd_313, cd_314, cd_315, cd_316, cd_317, cd_318, cd_319, cd_320, cd_321, cd_322, cd_323, cd_324, cd_325, cd_326, cd_327, cd_328, cd_329, cd_330, cd_331, cd_332, cd_333, cd_334, cd_335, cd_336, cd_337, cd_338, cd_339, cd_340, cd_341, cd_342, cd_343, cd_344]
def rkt : List Nat := [0, 0, 1, 0, 0, 0, 0, 0, 0, 0, 0, 0, 0, 0, 4, 1, 1, 0, 1, 1, 1, 0, 0, 0, 0, 1, 1, 1, 2, 1, 3, 32, 0, 0, 4, 0, 1, 1, 1, 5, 2, 2, 31, 6, 6, 6, 5, 6, 1, 2, 2, 4, 3, 2, 0, 1, 2, 1, 1, 1, 1, 3, 2, 2, 2, 2, 1, 0, 0, 0, 0, 0, 4, 3, 2, 0, 1, 0, 1, 0, 0, 0, 0, 0, 0, 0, 0, 0, 0, 0, 0, 0, 1, 0, 0, 0, 1, 0, 4, 1, 0, 33, 0, 0, 0, 6, 6, 6, 5, 1, 1, 1, 1, 1, 1, 1, 1, 1, 1, 1, 1, 1, 1, 2, 2, 2, 0, 1, 6, 6, 1, 1, 1, 2, 6, 6, 6, 6, 6, 6, 6, 6, 6, 6, 5, 2, 0, 0, 0, 0, 0, 0, 0, 0, 0, 0, 0, 3, 5, 0, 5, 0, 5, 5, 0, 5, 0, 0, 0, 0, 0, 0, 0, 0, 1, 0, 0, 2, 4, 5, 2, 3, 0, 4, 4, 5, 0, 0, 1, 0, 5, 5, 6, 2, 7, 8, 9, 10, 11, 0, 0, 0, 0, 1, 0, 0, 1, 2, 2, 3, 4, 0, 0, 0, 8, 9, 7, 1, 2, 3, 4, 0, 6, 3, 3, 5, 3, 4, 1, 1, 1, 1, 10, 1, 11, 11, 11, 10, 10, 2, 2, 2, 10, 11, 11, 11, 11, 11, 10, 10, 11, 10, 10, 11, 10, 1, 1, 10, 10, 10, 0, 1, 2, 9, 9, 8, 0, 1, 2, 0, 2, 1, 9, 10, 10, 10, 10, 0, 1, 1, 10, 10, 11, 9, 10, 12, 12, 12, 12, 0, 1, 4, 1, 0, 11, 11, 1, 0, 0, 1, 3, 0, 0, 1, 2, 0, 0, 34, 1, 7, 7, 7, 6, 2, 2, 2, 2, 2, 2, 2, 2, 2, 2, 2, 2, 2, 3, 3, 3, 2, 7, 7, 2, 2, 2, 7, 7, 7, 7, 7, 7, 7, 6, 3, 35]
def rec_ids : List (Nat × Nat) := [(43, 3), (44, 2), (45, 1), (47, 0)]
def stt : List (String × Nat × String) := [("DropSwitch$Reader", 50, "port"), ("DropSwitch$Reader", 60, "police"), ("DropSwitch$Reader", 65, "pass"), ("DropSwitch$Reader", 67, "drop"), ("DropSwitch$Reader", 155, "if"), ("DropSwitch$Reader", 178, "not"), ("DropSwitch$Reader", 189, "any"), ("DropSwitch$Reader", 191, "at"), ("DropSwitch$Reader", 192, "from"), ("DropSwitch$Reader", 194, "to"), ("DropSwitch$Reader", 196, "size"), ("DropSwitch$Reader", 198, "class"), ("DropSwitch$Reader", 176, "and"), ("DropSwitch$Reader", 167, "or"), ("DropSwitch$Reader", 112, "buffer"), ("DropSwitch$Reader", 126, "age"), ("DropSwitch$Reader", 130, "wait"), ("DropSwitch", 366, "down"), ("DropSwitch", 368, "rule"), ("DropSwitch", 370, "policed"), ("DropSwitch", 372, "back"), ("DropSwitch", 374, "nowhere"), ("DropSwitch", 376, "buffer"), ("DropSwitch", 378, "full"), ("DropSwitch", 380, "pushed"), ("DropSwitch", 382, "stale"), ("DropSwitch", 384, "lost"), ("DropSwitchModel", 287, "pass"), ("DropSwitchModel", 289, "drop"), ("DropSwitchModel", 290, "port"), ("DropSwitchModel", 295, "police"), ("DropSwitchModel", 300, "buffer"), ("DropSwitchModel", 304, "age"), ("DropSwitchModel", 309, "wait"), ("DropSwitchModel", 279, "if"), ("DropSwitchModel", 237, "not"), ("DropSwitchModel", 251, "at"), ("DropSwitchModel", 255, "any"), ("DropSwitchModel", 243, "from"), ("DropSwitchModel", 245, "to"), ("DropSwitchModel", 247, "size"), ("DropSwitchModel", 249, "class"), ("DropSwitchModel", 275, "and"), ("DropSwitchModel", 277, "or"), ("DropSwitchModel", 531, "down"), ("DropSwitchModel", 533, "rule"), ("DropSwitchModel", 535, "policed"), ("DropSwitchModel", 537, "back"), ("DropSwitchModel", 539, "nowhere"), ("DropSwitchModel", 541, "full"), ("DropSwitchModel", 543, "pushed"), ("DropSwitchModel", 545, "stale"), ("DropSwitchModel", 547, "lost")]
def stb : List (List Int) := [[112, 111, 114, 116], [112, 111, 108, 105, 99, 101], [112, 97, 115, 115], [100, 114, 111, 112], [105, 102], [110, 111, 116], [97, 110, 121], [97, 116], [102, 114, 111, 109], [116, 111], [115, 105, 122, 101], [99, 108, 97, 115, 115], [97, 110, 100], [111, 114], [98, 117, 102, 102, 101, 114], [97, 103, 101], [119, 97, 105, 116], [100, 111, 119, 110], [114, 117, 108, 101], [112, 111, 108, 105, 99, 101, 100], [98, 97, 99, 107], [110, 111, 119, 104, 101, 114, 101], [98, 117, 102, 102, 101, 114], [102, 117, 108, 108], [112, 117, 115, 104, 101, 100], [115, 116, 97, 108, 101], [108, 111, 115, 116], [112, 97, 115, 115], [100, 114, 111, 112], [112, 111, 114, 116], [112, 111, 108, 105, 99, 101], [98, 117, 102, 102, 101, 114], [97, 103, 101], [119, 97, 105, 116], [105, 102], [110, 111, 116], [97, 116], [97, 110, 121], [102, 114, 111, 109], [116, 111], [115, 105, 122, 101], [99, 108, 97, 115, 115], [97, 110, 100], [111, 114], [100, 111, 119, 110], [114, 117, 108, 101], [112, 111, 108, 105, 99, 101, 100], [98, 97, 99, 107], [110, 111, 119, 104, 101, 114, 101], [102, 117, 108, 108], [112, 117, 115, 104, 101, 100], [115, 116, 97, 108, 101], [108, 111, 115, 116]]
def exc : List String := ["java/lang/IndexOutOfBoundsException", "java/lang/IllegalArgumentException", "java/lang/IllegalStateException", "java/util/NoSuchElementException"]
