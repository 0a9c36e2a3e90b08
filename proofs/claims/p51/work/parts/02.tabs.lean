/-! names of the classes and methods, as the claim's print of the program has them; the table of the methods (those that are never reached have the first one's record and no code); their code with what each instruction links -/
def RX0 : String := "DropSwitch$History"
def TX0 : u_T := fun k => match k with
  | 0 => ("DropSwitch$History", "events", "I", false)
  | 1 => ("DropSwitch$History", "packets", "I", false)
  | 2 => ("DropSwitch$History", "kind", "[I", true)
  | 3 => ("DropSwitch$History", "place", "[I", true)
  | 4 => ("DropSwitch$History", "packet", "[I", true)
  | 5 => ("DropSwitch$History", "arrival", "[I", true)
  | 6 => ("DropSwitch$History", "source", "[I", true)
  | 7 => ("DropSwitch$History", "target", "[I", true)
  | 8 => ("DropSwitch$History", "size", "[I", true)
  | 9 => ("DropSwitch$History", "rank", "[I", true)
  | _ => ("DropSwitch$History", "rules", "[I", true)
def tyX0 : Nat → FieldType := fun k => match k with
  | 0 => .int
  | 1 => .int
  | 2 => .array .int
  | 3 => .array .int
  | 4 => .array .int
  | 5 => .array .int
  | 6 => .array .int
  | 7 => .array .int
  | 8 => .array .int
  | 9 => .array .int
  | _ => .array .int
theorem nmX0 : ∀ a, a < 11 → ∀ b, b < 11 → a ≠ b → (TX0 a).2.1 ≠ (TX0 b).2.1 := by decide +kernel
theorem tyX0_ok : ∀ k, k < 11 → parseFieldDescriptor (TX0 k).2.2.1 = some (tyX0 k) := by decide +kernel
abbrev cX0_init : ByteArray := prog_2_method_1_code
def yX0_init : MethodName := ⟨RX0, "<init>", "()V"⟩
abbrev cX0_addEvent : ByteArray := prog_2_method_2_code
def yX0_addEvent : MethodName := ⟨RX0, "addEvent", "(II)V"⟩
abbrev cX0_addPacket : ByteArray := prog_2_method_3_code
def yX0_addPacket : MethodName := ⟨RX0, "addPacket", "(IIIII)V"⟩
abbrev cX0_cut : ByteArray := prog_2_method_4_code
def yX0_cut : MethodName := ⟨RX0, "cut", "(I)V"⟩
abbrev cX0_entryPort : ByteArray := prog_2_method_5_code
def yX0_entryPort : MethodName := ⟨RX0, "entryPort", "(I)I"⟩
abbrev cX0_sizeOf : ByteArray := prog_2_method_6_code
def yX0_sizeOf : MethodName := ⟨RX0, "sizeOf", "(I)I"⟩
abbrev cX0_rankOf : ByteArray := prog_2_method_7_code
def yX0_rankOf : MethodName := ⟨RX0, "rankOf", "(I)I"⟩
def RX1 : String := "DropSwitch$Limits"
def TX1 : u_T := fun k => match k with
  | 0 => ("DropSwitch$Limits", "ports", "I", false)
  | 1 => ("DropSwitch$Limits", "capacity", "[I", true)
  | 2 => ("DropSwitch$Limits", "speed", "[I", true)
  | 3 => ("DropSwitch$Limits", "rate", "[I", true)
  | 4 => ("DropSwitch$Limits", "burst", "[I", true)
  | 5 => ("DropSwitch$Limits", "buffer", "I", false)
  | 6 => ("DropSwitch$Limits", "wait", "I", false)
  | 7 => ("DropSwitch$Limits", "age", "I", false)
  | 8 => ("DropSwitch$Limits", "droppingRules", "I", false)
  | _ => ("DropSwitch$Limits", "idleRules", "I", false)
def tyX1 : Nat → FieldType := fun k => match k with
  | 0 => .int
  | 1 => .array .int
  | 2 => .array .int
  | 3 => .array .int
  | 4 => .array .int
  | 5 => .int
  | 6 => .int
  | 7 => .int
  | 8 => .int
  | _ => .int
theorem nmX1 : ∀ a, a < 10 → ∀ b, b < 10 → a ≠ b → (TX1 a).2.1 ≠ (TX1 b).2.1 := by decide +kernel
theorem tyX1_ok : ∀ k, k < 10 → parseFieldDescriptor (TX1 k).2.2.1 = some (tyX1 k) := by decide +kernel
abbrev cX1_init : ByteArray := prog_3_method_1_code
def yX1_init : MethodName := ⟨RX1, "<init>", "()V"⟩
abbrev cX1_reset : ByteArray := prog_3_method_2_code
def yX1_reset : MethodName := ⟨RX1, "reset", "()V"⟩
abbrev cX1_copyFrom : ByteArray := prog_3_method_3_code
def yX1_copyFrom : MethodName := ⟨RX1, "copyFrom", "(LDropSwitch$Limits;)V"⟩
abbrev cX1_hasPolicer : ByteArray := prog_3_method_4_code
def yX1_hasPolicer : MethodName := ⟨RX1, "hasPolicer", "(I)Z"⟩
abbrev cX1_isDropping : ByteArray := prog_3_method_5_code
def yX1_isDropping : MethodName := ⟨RX1, "isDropping", "(I)Z"⟩
def RX2 : String := "DropSwitch$Line"
def TX2 : u_T := fun k => match k with
  | 0 => ("DropSwitch$Line", "bytes", "[B", true)
  | _ => ("DropSwitch$Line", "length", "I", false)
def tyX2 : Nat → FieldType := fun k => match k with
  | 0 => .array .byte
  | _ => .int
theorem nmX2 : ∀ a, a < 2 → ∀ b, b < 2 → a ≠ b → (TX2 a).2.1 ≠ (TX2 b).2.1 := by decide +kernel
theorem tyX2_ok : ∀ k, k < 2 → parseFieldDescriptor (TX2 k).2.2.1 = some (tyX2 k) := by decide +kernel
abbrev cX2_init : ByteArray := prog_4_method_1_code
def yX2_init : MethodName := ⟨RX2, "<init>", "()V"⟩
abbrev cX2_add : ByteArray := prog_4_method_2_code
def yX2_add : MethodName := ⟨RX2, "add", "(I)V"⟩
abbrev cX2_addWord : ByteArray := prog_4_method_3_code
def yX2_addWord : MethodName := ⟨RX2, "addWord", "(Ljava/lang/String;)V"⟩
abbrev cX2_addNumber : ByteArray := prog_4_method_4_code
def yX2_addNumber : MethodName := ⟨RX2, "addNumber", "(I)V"⟩
abbrev cX2_addName : ByteArray := prog_4_method_5_code
def yX2_addName : MethodName := ⟨RX2, "addName", "(I)V"⟩
def RX3 : String := "DropSwitch$Log"
def TX3 : u_T := fun k => match k with
  | 0 => ("DropSwitch$Log", "drops", "I", false)
  | 1 => ("DropSwitch$Log", "dropRow", "[I", true)
  | 2 => ("DropSwitch$Log", "fates", "[I", true)
  | 3 => ("DropSwitch$Log", "deliveries", "[I", true)
  | 4 => ("DropSwitch$Log", "peakUnits", "[I", true)
  | _ => ("DropSwitch$Log", "peakEvent", "[I", true)
def tyX3 : Nat → FieldType := fun k => match k with
  | 0 => .int
  | 1 => .array .int
  | 2 => .array .int
  | 3 => .array .int
  | 4 => .array .int
  | _ => .array .int
theorem nmX3 : ∀ a, a < 6 → ∀ b, b < 6 → a ≠ b → (TX3 a).2.1 ≠ (TX3 b).2.1 := by decide +kernel
theorem tyX3_ok : ∀ k, k < 6 → parseFieldDescriptor (TX3 k).2.2.1 = some (tyX3 k) := by decide +kernel
abbrev cX3_init : ByteArray := prog_5_method_1_code
def yX3_init : MethodName := ⟨RX3, "<init>", "()V"⟩
abbrev cX3_clear : ByteArray := prog_5_method_2_code
def yX3_clear : MethodName := ⟨RX3, "clear", "()V"⟩
abbrev cX3_addDrop : ByteArray := prog_5_method_3_code
def yX3_addDrop : MethodName := ⟨RX3, "addDrop", "(IIIII)V"⟩
abbrev cX3_addDelivery : ByteArray := prog_5_method_4_code
def yX3_addDelivery : MethodName := ⟨RX3, "addDelivery", "(II)V"⟩
abbrev cX3_setFate : ByteArray := prog_5_method_5_code
def yX3_setFate : MethodName := ⟨RX3, "setFate", "(III)V"⟩
abbrev cX3_fateOf : ByteArray := prog_5_method_6_code
def yX3_fateOf : MethodName := ⟨RX3, "fateOf", "(II)I"⟩
abbrev cX3_notePeaks : ByteArray := prog_5_method_7_code
def yX3_notePeaks : MethodName := ⟨RX3, "notePeaks", "(ILDropSwitch$State;)V"⟩
abbrev cX3_dropPart : ByteArray := prog_5_method_8_code
def yX3_dropPart : MethodName := ⟨RX3, "dropPart", "(II)I"⟩
abbrev cX3_dropsWith : ByteArray := prog_5_method_9_code
def yX3_dropsWith : MethodName := ⟨RX3, "dropsWith", "(I)I"⟩
abbrev cX3_dropsWith_ : ByteArray := prog_5_method_10_code
def yX3_dropsWith_ : MethodName := ⟨RX3, "dropsWith", "(II)I"⟩
def RX4 : String := "DropSwitch$Reader"
def TX4 : u_T := fun k => match k with
  | 0 => ("DropSwitch$Reader", "setup", "LDropSwitch$Setup;", false)
  | 1 => ("DropSwitch$Reader", "badOffset", "I", false)
  | 2 => ("DropSwitch$Reader", "badKind", "I", false)
  | 3 => ("DropSwitch$Reader", "text", "[B", true)
  | 4 => ("DropSwitch$Reader", "length", "I", false)
  | 5 => ("DropSwitch$Reader", "at", "I", false)
  | 6 => ("DropSwitch$Reader", "start", "I", false)
  | 7 => ("DropSwitch$Reader", "token", "I", false)
  | 8 => ("DropSwitch$Reader", "name", "I", false)
  | 9 => ("DropSwitch$Reader", "port", "I", false)
  | _ => ("DropSwitch$Reader", "number", "I", false)
def tyX4 : Nat → FieldType := fun k => match k with
  | 0 => .object "DropSwitch$Setup"
  | 1 => .int
  | 2 => .int
  | 3 => .array .byte
  | 4 => .int
  | 5 => .int
  | 6 => .int
  | 7 => .int
  | 8 => .int
  | 9 => .int
  | _ => .int
theorem nmX4 : ∀ a, a < 11 → ∀ b, b < 11 → a ≠ b → (TX4 a).2.1 ≠ (TX4 b).2.1 := by decide +kernel
theorem tyX4_ok : ∀ k, k < 11 → parseFieldDescriptor (TX4 k).2.2.1 = some (tyX4 k) := by decide +kernel
abbrev cX4_init : ByteArray := prog_6_method_1_code
def yX4_init : MethodName := ⟨RX4, "<init>", "([B)V"⟩
abbrev cX4_read : ByteArray := prog_6_method_2_code
def yX4_read : MethodName := ⟨RX4, "read", "(I)Z"⟩
abbrev cX4_next : ByteArray := prog_6_method_3_code
def yX4_next : MethodName := ⟨RX4, "next", "()V"⟩
abbrev cX4_fail : ByteArray := prog_6_method_4_code
def yX4_fail : MethodName := ⟨RX4, "fail", "(I)Z"⟩
abbrev cX4_isWord : ByteArray := prog_6_method_5_code
def yX4_isWord : MethodName := ⟨RX4, "isWord", "(Ljava/lang/String;)Z"⟩
abbrev cX4_isSign : ByteArray := prog_6_method_6_code
def yX4_isSign : MethodName := ⟨RX4, "isSign", "(C)Z"⟩
abbrev cX4_readSign : ByteArray := prog_6_method_7_code
def yX4_readSign : MethodName := ⟨RX4, "readSign", "(C)Z"⟩
abbrev cX4_readNumber : ByteArray := prog_6_method_8_code
def yX4_readNumber : MethodName := ⟨RX4, "readNumber", "(II)Z"⟩
abbrev cX4_readName : ByteArray := prog_6_method_9_code
def yX4_readName : MethodName := ⟨RX4, "readName", "(Z)Z"⟩
abbrev cX4_readLimit : ByteArray := prog_6_method_10_code
def yX4_readLimit : MethodName := ⟨RX4, "readLimit", "()Z"⟩
abbrev cX4_readPort : ByteArray := prog_6_method_11_code
def yX4_readPort : MethodName := ⟨RX4, "readPort", "()Z"⟩
abbrev cX4_readPolicer : ByteArray := prog_6_method_12_code
def yX4_readPolicer : MethodName := ⟨RX4, "readPolicer", "()Z"⟩
abbrev cX4_readRule : ByteArray := prog_6_method_13_code
def yX4_readRule : MethodName := ⟨RX4, "readRule", "()Z"⟩
abbrev cX4_readCondition : ByteArray := prog_6_method_14_code
def yX4_readCondition : MethodName := ⟨RX4, "readCondition", "(I)Z"⟩
abbrev cX4_readAll : ByteArray := prog_6_method_15_code
def yX4_readAll : MethodName := ⟨RX4, "readAll", "(I)Z"⟩
abbrev cX4_readAtom : ByteArray := prog_6_method_16_code
def yX4_readAtom : MethodName := ⟨RX4, "readAtom", "(I)Z"⟩
abbrev cX4_atomKind : ByteArray := prog_6_method_17_code
def yX4_atomKind : MethodName := ⟨RX4, "atomKind", "()I"⟩
abbrev cX4_readNested : ByteArray := prog_6_method_18_code
def yX4_readNested : MethodName := ⟨RX4, "readNested", "(I)Z"⟩
def RX5 : String := "DropSwitch$Run"
def TX5 : u_T := fun k => match k with
  | 0 => ("DropSwitch$Run", "limits", "LDropSwitch$Limits;", true)
  | 1 => ("DropSwitch$Run", "state", "LDropSwitch$State;", true)
  | 2 => ("DropSwitch$Run", "log", "LDropSwitch$Log;", true)
  | 3 => ("DropSwitch$Run", "history", "LDropSwitch$History;", true)
  | _ => ("DropSwitch$Run", "event", "I", false)
def tyX5 : Nat → FieldType := fun k => match k with
  | 0 => .object "DropSwitch$Limits"
  | 1 => .object "DropSwitch$State"
  | 2 => .object "DropSwitch$Log"
  | 3 => .object "DropSwitch$History"
  | _ => .int
theorem nmX5 : ∀ a, a < 5 → ∀ b, b < 5 → a ≠ b → (TX5 a).2.1 ≠ (TX5 b).2.1 := by decide +kernel
theorem tyX5_ok : ∀ k, k < 5 → parseFieldDescriptor (TX5 k).2.2.1 = some (tyX5 k) := by decide +kernel
abbrev cX5_init : ByteArray := prog_7_method_1_code
def yX5_init : MethodName := ⟨RX5, "<init>", "(LDropSwitch$History;)V"⟩
abbrev cX5_start : ByteArray := prog_7_method_2_code
def yX5_start : MethodName := ⟨RX5, "start", "()V"⟩
abbrev cX5_happen : ByteArray := prog_7_method_4_code
def yX5_happen : MethodName := ⟨RX5, "happen", "(I)I"⟩
abbrev cX5_takeIn : ByteArray := prog_7_method_5_code
def yX5_takeIn : MethodName := ⟨RX5, "takeIn", "(II)I"⟩
abbrev cX5_refuse : ByteArray := prog_7_method_6_code
def yX5_refuse : MethodName := ⟨RX5, "refuse", "(III)I"⟩
abbrev cX5_decidingRule : ByteArray := prog_7_method_7_code
def yX5_decidingRule : MethodName := ⟨RX5, "decidingRule", "(I)I"⟩
abbrev cX5_waysOut : ByteArray := prog_7_method_8_code
def yX5_waysOut : MethodName := ⟨RX5, "waysOut", "(II)I"⟩
abbrev cX5_putCopy : ByteArray := prog_7_method_9_code
def yX5_putCopy : MethodName := ⟨RX5, "putCopy", "(II)I"⟩
abbrev cX5_unitsBelow : ByteArray := prog_7_method_10_code
def yX5_unitsBelow : MethodName := ⟨RX5, "unitsBelow", "(II)I"⟩
abbrev cX5_leastImportant : ByteArray := prog_7_method_11_code
def yX5_leastImportant : MethodName := ⟨RX5, "leastImportant", "(I)I"⟩
abbrev cX5_mostImportant : ByteArray := prog_7_method_12_code
def yX5_mostImportant : MethodName := ⟨RX5, "mostImportant", "(I)I"⟩
abbrev cX5_takeOut : ByteArray := prog_7_method_13_code
def yX5_takeOut : MethodName := ⟨RX5, "takeOut", "(II)I"⟩
abbrev cX5_passTick : ByteArray := prog_7_method_14_code
def yX5_passTick : MethodName := ⟨RX5, "passTick", "()I"⟩
abbrev cX5_deliverFrom : ByteArray := prog_7_method_15_code
def yX5_deliverFrom : MethodName := ⟨RX5, "deliverFrom", "(I)I"⟩
abbrev cX5_dropStale : ByteArray := prog_7_method_16_code
def yX5_dropStale : MethodName := ⟨RX5, "dropStale", "(I)V"⟩
abbrev cX5_loseLink : ByteArray := prog_7_method_17_code
def yX5_loseLink : MethodName := ⟨RX5, "loseLink", "(I)I"⟩
def RX6 : String := "DropSwitch$Setup"
def TX6 : u_T := fun k => match k with
  | 0 => ("DropSwitch$Setup", "limits", "LDropSwitch$Limits;", true)
  | 1 => ("DropSwitch$Setup", "names", "[I", true)
  | 2 => ("DropSwitch$Setup", "rules", "I", false)
  | 3 => ("DropSwitch$Setup", "firstItem", "[I", true)
  | 4 => ("DropSwitch$Setup", "items", "[I", true)
  | _ => ("DropSwitch$Setup", "itemCount", "I", false)
def tyX6 : Nat → FieldType := fun k => match k with
  | 0 => .object "DropSwitch$Limits"
  | 1 => .array .int
  | 2 => .int
  | 3 => .array .int
  | 4 => .array .int
  | _ => .int
theorem nmX6 : ∀ a, a < 6 → ∀ b, b < 6 → a ≠ b → (TX6 a).2.1 ≠ (TX6 b).2.1 := by decide +kernel
theorem tyX6_ok : ∀ k, k < 6 → parseFieldDescriptor (TX6 k).2.2.1 = some (tyX6 k) := by decide +kernel
abbrev cX6_init : ByteArray := prog_8_method_1_code
def yX6_init : MethodName := ⟨RX6, "<init>", "()V"⟩
abbrev cX6_reset : ByteArray := prog_8_method_2_code
def yX6_reset : MethodName := ⟨RX6, "reset", "()V"⟩
abbrev cX6_addPort : ByteArray := prog_8_method_3_code
def yX6_addPort : MethodName := ⟨RX6, "addPort", "(III)V"⟩
abbrev cX6_portNamed : ByteArray := prog_8_method_4_code
def yX6_portNamed : MethodName := ⟨RX6, "portNamed", "(I)I"⟩
abbrev cX6_nameOf : ByteArray := prog_8_method_5_code
def yX6_nameOf : MethodName := ⟨RX6, "nameOf", "(I)I"⟩
abbrev cX6_addItem : ByteArray := prog_8_method_6_code
def yX6_addItem : MethodName := ⟨RX6, "addItem", "(II)V"⟩
abbrev cX6_addRule : ByteArray := prog_8_method_7_code
def yX6_addRule : MethodName := ⟨RX6, "addRule", "(Z)V"⟩
abbrev cX6_rulesHolding : ByteArray := prog_8_method_8_code
def yX6_rulesHolding : MethodName := ⟨RX6, "rulesHolding", "(LDropSwitch$History;I)I"⟩
abbrev cX6_holds : ByteArray := prog_8_method_9_code
def yX6_holds : MethodName := ⟨RX6, "holds", "(ILDropSwitch$History;I)Z"⟩
abbrev cX6_isTrue : ByteArray := prog_8_method_10_code
def yX6_isTrue : MethodName := ⟨RX6, "isTrue", "(ILDropSwitch$History;I)Z"⟩
abbrev cX6_comparison : ByteArray := prog_8_method_11_code
def yX6_comparison : MethodName := ⟨RX6, "comparison", "(II)I"⟩
abbrev cX6_compares : ByteArray := prog_8_method_12_code
def yX6_compares : MethodName := ⟨RX6, "compares", "(II)Z"⟩
def RX7 : String := "DropSwitch$State"
def TX7 : u_T := fun k => match k with
  | 0 => ("DropSwitch$State", "time", "I", false)
  | 1 => ("DropSwitch$State", "downLinks", "I", false)
  | 2 => ("DropSwitch$State", "allowance", "[I", true)
  | 3 => ("DropSwitch$State", "units", "[I", true)
  | 4 => ("DropSwitch$State", "copies", "[I", true)
  | 5 => ("DropSwitch$State", "packetRow", "[I", true)
  | 6 => ("DropSwitch$State", "timeRow", "[I", true)
  | 7 => ("DropSwitch$State", "entryPort", "[I", true)
  | _ => ("DropSwitch$State", "entryTime", "[I", true)
def tyX7 : Nat → FieldType := fun k => match k with
  | 0 => .int
  | 1 => .int
  | 2 => .array .int
  | 3 => .array .int
  | 4 => .array .int
  | 5 => .array .int
  | 6 => .array .int
  | 7 => .array .int
  | _ => .array .int
theorem nmX7 : ∀ a, a < 9 → ∀ b, b < 9 → a ≠ b → (TX7 a).2.1 ≠ (TX7 b).2.1 := by decide +kernel
theorem tyX7_ok : ∀ k, k < 9 → parseFieldDescriptor (TX7 k).2.2.1 = some (tyX7 k) := by decide +kernel
abbrev cX7_init : ByteArray := prog_9_method_1_code
def yX7_init : MethodName := ⟨RX7, "<init>", "()V"⟩
abbrev cX7_start : ByteArray := prog_9_method_2_code
def yX7_start : MethodName := ⟨RX7, "start", "(LDropSwitch$Limits;)V"⟩
abbrev cX7_copyFrom : ByteArray := prog_9_method_3_code
def yX7_copyFrom : MethodName := ⟨RX7, "copyFrom", "(LDropSwitch$State;)V"⟩
abbrev cX7_hasLink : ByteArray := prog_9_method_4_code
def yX7_hasLink : MethodName := ⟨RX7, "hasLink", "(I)Z"⟩
abbrev cX7_setLink : ByteArray := prog_9_method_5_code
def yX7_setLink : MethodName := ⟨RX7, "setLink", "(IZ)V"⟩
abbrev cX7_spend : ByteArray := prog_9_method_6_code
def yX7_spend : MethodName := ⟨RX7, "spend", "(II)Z"⟩
abbrev cX7_allUnits : ByteArray := prog_9_method_7_code
def yX7_allUnits : MethodName := ⟨RX7, "allUnits", "()I"⟩
abbrev cX7_packetAt : ByteArray := prog_9_method_8_code
def yX7_packetAt : MethodName := ⟨RX7, "packetAt", "(II)I"⟩
abbrev cX7_ageOf : ByteArray := prog_9_method_9_code
def yX7_ageOf : MethodName := ⟨RX7, "ageOf", "(II)I"⟩
abbrev cX7_putLast : ByteArray := prog_9_method_10_code
def yX7_putLast : MethodName := ⟨RX7, "putLast", "(III)V"⟩
abbrev cX7_remove : ByteArray := prog_9_method_11_code
def yX7_remove : MethodName := ⟨RX7, "remove", "(III)V"⟩
abbrev cX7_learn : ByteArray := prog_9_method_12_code
def yX7_learn : MethodName := ⟨RX7, "learn", "(II)V"⟩
abbrev cX7_forget : ByteArray := prog_9_method_13_code
def yX7_forget : MethodName := ⟨RX7, "forget", "(I)V"⟩
abbrev cX7_wayTo : ByteArray := prog_9_method_14_code
def yX7_wayTo : MethodName := ⟨RX7, "wayTo", "(II)I"⟩
def RX8 : String := "DropSwitch$Suppositions"
def TX8 : u_T := fun k => match k with
  | 0 => ("DropSwitch$Suppositions", "values", "[I", true)
  | _ => ("DropSwitch$Suppositions", "leftOut", "[Z", true)
def tyX8 : Nat → FieldType := fun k => match k with
  | 0 => .array .int
  | _ => .array .boolean
theorem nmX8 : ∀ a, a < 2 → ∀ b, b < 2 → a ≠ b → (TX8 a).2.1 ≠ (TX8 b).2.1 := by decide +kernel
theorem tyX8_ok : ∀ k, k < 2 → parseFieldDescriptor (TX8 k).2.2.1 = some (tyX8 k) := by decide +kernel
abbrev cX8_init : ByteArray := prog_10_method_1_code
def yX8_init : MethodName := ⟨RX8, "<init>", "()V"⟩
abbrev cX8_clear : ByteArray := prog_10_method_2_code
def yX8_clear : MethodName := ⟨RX8, "clear", "()V"⟩
def RX9 : String := "DropSwitch"
def TX9 : u_T := fun k => match k with
  | 0 => ("DropSwitch", "input", "[B", true)
  | 1 => ("DropSwitch", "inputLength", "I", false)
  | 2 => ("DropSwitch", "badOffset", "I", false)
  | 3 => ("DropSwitch", "badKind", "I", false)
  | 4 => ("DropSwitch", "reader", "LDropSwitch$Reader;", true)
  | 5 => ("DropSwitch", "setup", "LDropSwitch$Setup;", false)
  | 6 => ("DropSwitch", "history", "LDropSwitch$History;", true)
  | 7 => ("DropSwitch", "checkpointStates", "[LDropSwitch$State;", true)
  | 8 => ("DropSwitch", "present", "LDropSwitch$Run;", true)
  | 9 => ("DropSwitch", "trial", "LDropSwitch$Run;", true)
  | 10 => ("DropSwitch", "suppositions", "LDropSwitch$Suppositions;", true)
  | 11 => ("DropSwitch", "supposed", "LDropSwitch$Run;", true)
  | 12 => ("DropSwitch", "changes", "I", false)
  | 13 => ("DropSwitch", "supposedAt", "I", false)
  | 14 => ("DropSwitch", "triedAt", "[I", true)
  | 15 => ("DropSwitch", "savedWithout", "[J", true)
  | _ => ("DropSwitch", "line", "LDropSwitch$Line;", true)
def tyX9 : Nat → FieldType := fun k => match k with
  | 0 => .array .byte
  | 1 => .int
  | 2 => .int
  | 3 => .int
  | 4 => .object "DropSwitch$Reader"
  | 5 => .object "DropSwitch$Setup"
  | 6 => .object "DropSwitch$History"
  | 7 => .array (.object "DropSwitch$State")
  | 8 => .object "DropSwitch$Run"
  | 9 => .object "DropSwitch$Run"
  | 10 => .object "DropSwitch$Suppositions"
  | 11 => .object "DropSwitch$Run"
  | 12 => .int
  | 13 => .int
  | 14 => .array .int
  | 15 => .array .long
  | _ => .object "DropSwitch$Line"
theorem nmX9 : ∀ a, a < 17 → ∀ b, b < 17 → a ≠ b → (TX9 a).2.1 ≠ (TX9 b).2.1 := by decide +kernel
theorem tyX9_ok : ∀ k, k < 17 → parseFieldDescriptor (TX9 k).2.2.1 = some (tyX9 k) := by decide +kernel
abbrev cX9_init : ByteArray := prog_1_method_1_code
def yX9_init : MethodName := ⟨RX9, "<init>", "()V"⟩
abbrev cX9_append : ByteArray := prog_1_method_2_code
def yX9_append : MethodName := ⟨RX9, "append", "(IIIII)I"⟩
abbrev cX9_truncate : ByteArray := prog_1_method_3_code
def yX9_truncate : MethodName := ⟨RX9, "truncate", "(I)Z"⟩
abbrev cX9_load : ByteArray := prog_1_method_4_code
def yX9_load : MethodName := ⟨RX9, "load", "()I"⟩
abbrev cX9_errorOffset : ByteArray := prog_1_method_5_code
def yX9_errorOffset : MethodName := ⟨RX9, "errorOffset", "()I"⟩
abbrev cX9_errorKind : ByteArray := prog_1_method_6_code
def yX9_errorKind : MethodName := ⟨RX9, "errorKind", "()I"⟩
abbrev cX9_count : ByteArray := prog_1_method_7_code
def yX9_count : MethodName := ⟨RX9, "count", "(I)I"⟩
abbrev cX9_arrive : ByteArray := prog_1_method_8_code
def yX9_arrive : MethodName := ⟨RX9, "arrive", "(IIIII)I"⟩
abbrev cX9_tick : ByteArray := prog_1_method_9_code
def yX9_tick : MethodName := ⟨RX9, "tick", "()I"⟩
abbrev cX9_link : ByteArray := prog_1_method_10_code
def yX9_link : MethodName := ⟨RX9, "link", "(IZ)I"⟩
abbrev cX9_packetOf : ByteArray := prog_1_method_13_code
def yX9_packetOf : MethodName := ⟨RX9, "packetOf", "(I)I"⟩
abbrev cX9_arrivalOf : ByteArray := prog_1_method_14_code
def yX9_arrivalOf : MethodName := ⟨RX9, "arrivalOf", "(I)I"⟩
abbrev cX9_fill : ByteArray := prog_1_method_15_code
def yX9_fill : MethodName := ⟨RX9, "fill", "(I)I"⟩
abbrev cX9_queueLength : ByteArray := prog_1_method_16_code
def yX9_queueLength : MethodName := ⟨RX9, "queueLength", "(I)I"⟩
abbrev cX9_queued : ByteArray := prog_1_method_17_code
def yX9_queued : MethodName := ⟨RX9, "queued", "(II)I"⟩
abbrev cX9_isUp : ByteArray := prog_1_method_18_code
def yX9_isUp : MethodName := ⟨RX9, "isUp", "(I)Z"⟩
abbrev cX9_delivered : ByteArray := prog_1_method_22_code
def yX9_delivered : MethodName := ⟨RX9, "delivered", "(I)I"⟩
abbrev cX9_fate : ByteArray := prog_1_method_23_code
def yX9_fate : MethodName := ⟨RX9, "fate", "(II)I"⟩
abbrev cX9_dropField : ByteArray := prog_1_method_24_code
def yX9_dropField : MethodName := ⟨RX9, "dropField", "(II)I"⟩
abbrev cX9_firstDrop : ByteArray := prog_1_method_25_code
def yX9_firstDrop : MethodName := ⟨RX9, "firstDrop", "(I)I"⟩
abbrev cX9_dropsBy : ByteArray := prog_1_method_26_code
def yX9_dropsBy : MethodName := ⟨RX9, "dropsBy", "(I)I"⟩
abbrev cX9_pushedBy : ByteArray := prog_1_method_28_code
def yX9_pushedBy : MethodName := ⟨RX9, "pushedBy", "(I)I"⟩
abbrev cX9_formatDrop : ByteArray := prog_1_method_47_code
def yX9_formatDrop : MethodName := ⟨RX9, "formatDrop", "(I)I"⟩
abbrev cX9_needPort : ByteArray := prog_1_method_50_code
def yX9_needPort : MethodName := ⟨RX9, "needPort", "(I)V"⟩
abbrev cX9_needEvent : ByteArray := prog_1_method_52_code
def yX9_needEvent : MethodName := ⟨RX9, "needEvent", "(I)V"⟩
abbrev cX9_needPacket : ByteArray := prog_1_method_54_code
def yX9_needPacket : MethodName := ⟨RX9, "needPacket", "(I)V"⟩
abbrev cX9_needDrop : ByteArray := prog_1_method_55_code
def yX9_needDrop : MethodName := ⟨RX9, "needDrop", "(I)V"⟩
abbrev cX9_needAddress : ByteArray := prog_1_method_56_code
def yX9_needAddress : MethodName := ⟨RX9, "needAddress", "(I)V"⟩
abbrev cX9_needCause : ByteArray := prog_1_method_57_code
def yX9_needCause : MethodName := ⟨RX9, "needCause", "(I)V"⟩
abbrev cX9_needRoom : ByteArray := prog_1_method_58_code
def yX9_needRoom : MethodName := ⟨RX9, "needRoom", "()V"⟩
abbrev cX9_appendWord : ByteArray := prog_1_method_59_code
def yX9_appendWord : MethodName := ⟨RX9, "appendWord", "(I)V"⟩
abbrev cX9_startOver : ByteArray := prog_1_method_60_code
def yX9_startOver : MethodName := ⟨RX9, "startOver", "()V"⟩
abbrev cX9_goOn : ByteArray := prog_1_method_61_code
def yX9_goOn : MethodName := ⟨RX9, "goOn", "()I"⟩
abbrev cX9_causeWord : ByteArray := prog_1_method_69_code
def yX9_causeWord : MethodName := ⟨RX9, "causeWord", "(I)Ljava/lang/String;"⟩
def RX10 : String := "DropSwitchLaw$Made"
def TX10 : u_T := fun k => match k with
  | 0 => ("DropSwitchLaw$Made", "x", "LDropSwitch;", true)
  | 1 => ("DropSwitchLaw$Made", "ports", "I", true)
  | 2 => ("DropSwitchLaw$Made", "rules", "I", true)
  | 3 => ("DropSwitchLaw$Made", "space", "I", true)
  | 4 => ("DropSwitchLaw$Made", "capacity", "[I", true)
  | _ => ("DropSwitchLaw$Made", "good", "Z", true)
def tyX10 : Nat → FieldType := fun k => match k with
  | 0 => .object "DropSwitch"
  | 1 => .int
  | 2 => .int
  | 3 => .int
  | 4 => .array .int
  | _ => .boolean
theorem nmX10 : ∀ a, a < 6 → ∀ b, b < 6 → a ≠ b → (TX10 a).2.1 ≠ (TX10 b).2.1 := by decide +kernel
theorem tyX10_ok : ∀ k, k < 6 → parseFieldDescriptor (TX10 k).2.2.1 = some (tyX10 k) := by decide +kernel
abbrev cX10_init : ByteArray := prog_12_method_1_code
def yX10_init : MethodName := ⟨RX10, "<init>", "(LDropSwitchLaw$Random;)V"⟩
abbrev cX10_goes : ByteArray := prog_12_method_2_code
def yX10_goes : MethodName := ⟨RX10, "goes", "(LDropSwitchLaw$Random;)Z"⟩
def RX11 : String := "DropSwitchLaw$Random"
def TX11 : u_T := fun k => match k with
  | _ => ("DropSwitchLaw$Random", "v", "I", false)
def tyX11 : Nat → FieldType := fun k => match k with
  | _ => .int
theorem nmX11 : ∀ a, a < 1 → ∀ b, b < 1 → a ≠ b → (TX11 a).2.1 ≠ (TX11 b).2.1 := by decide +kernel
theorem tyX11_ok : ∀ k, k < 1 → parseFieldDescriptor (TX11 k).2.2.1 = some (tyX11 k) := by decide +kernel
abbrev cX11_init : ByteArray := prog_13_method_1_code
def yX11_init : MethodName := ⟨RX11, "<init>", "(I)V"⟩
abbrev cX11_next : ByteArray := prog_13_method_2_code
def yX11_next : MethodName := ⟨RX11, "next", "(I)I"⟩
def RX12 : String := "DropSwitchModel"
def TX12 : u_T := fun k => match k with
  | _ => ("", "", "", false)
def tyX12 : Nat → FieldType := fun k => match k with
  | _ => .int
theorem nmX12 : ∀ a, a < 0 → ∀ b, b < 0 → a ≠ b → (TX12 a).2.1 ≠ (TX12 b).2.1 := by decide +kernel
theorem tyX12_ok : ∀ k, k < 0 → parseFieldDescriptor (TX12 k).2.2.1 = some (tyX12 k) := by decide +kernel
def RJ5 : String := "java/lang/AbstractStringBuilder"
def TJ5 : u_T := fun k => match k with
  | _ => ("", "", "", false)
def tyJ5 : Nat → FieldType := fun k => match k with
  | _ => .int
theorem nmJ5 : ∀ a, a < 0 → ∀ b, b < 0 → a ≠ b → (TJ5 a).2.1 ≠ (TJ5 b).2.1 := by decide +kernel
theorem tyJ5_ok : ∀ k, k < 0 → parseFieldDescriptor (TJ5 k).2.2.1 = some (tyJ5 k) := by decide +kernel
abbrev cJ5_init_d00df : ByteArray := prog_16_method_2_code
def yJ5_init_d00df : MethodName := ⟨RJ5, "<init>", "(I)V"⟩
abbrev cJ5_length_8abf5 : ByteArray := prog_16_method_6_code
def yJ5_length_8abf5 : MethodName := ⟨RJ5, "length", "()I"⟩
abbrev cJ5_ensureCapacityInternal_d00df : ByteArray := prog_16_method_9_code
def yJ5_ensureCapacityInternal_d00df : MethodName := ⟨RJ5, "ensureCapacityInternal", "(I)V"⟩
abbrev cJ5_newCapacity_0f7a4 : ByteArray := prog_16_method_10_code
def yJ5_newCapacity_0f7a4 : MethodName := ⟨RJ5, "newCapacity", "(I)I"⟩
abbrev cJ5_inflate_da8c8 : ByteArray := prog_16_method_11_code
def yJ5_inflate_da8c8 : MethodName := ⟨RJ5, "inflate", "()V"⟩
abbrev cJ5_append_cf1ce : ByteArray := prog_16_method_22_code
def yJ5_append_cf1ce : MethodName := ⟨RJ5, "append", "(Ljava/lang/String;)Ljava/lang/AbstractStringBuilder;"⟩
abbrev cJ5_appendNull_278bc : ByteArray := prog_16_method_26_code
def yJ5_appendNull_278bc : MethodName := ⟨RJ5, "appendNull", "()Ljava/lang/AbstractStringBuilder;"⟩
abbrev cJ5_append_3fe6f : ByteArray := prog_16_method_31_code
def yJ5_append_3fe6f : MethodName := ⟨RJ5, "append", "(C)Ljava/lang/AbstractStringBuilder;"⟩
abbrev cJ5_append_c97b9 : ByteArray := prog_16_method_32_code
def yJ5_append_c97b9 : MethodName := ⟨RJ5, "append", "(I)Ljava/lang/AbstractStringBuilder;"⟩
abbrev cJ5_getValue_6d5f1 : ByteArray := prog_16_method_64_code
def yJ5_getValue_6d5f1 : MethodName := ⟨RJ5, "getValue", "()[B"⟩
abbrev cJ5_isLatin1_aae02 : ByteArray := prog_16_method_68_code
def yJ5_isLatin1_aae02 : MethodName := ⟨RJ5, "isLatin1", "()Z"⟩
abbrev cJ5_inflateIfNeededFor_a7421 : ByteArray := prog_16_method_71_code
def yJ5_inflateIfNeededFor_a7421 : MethodName := ⟨RJ5, "inflateIfNeededFor", "(Ljava/lang/String;)V"⟩
abbrev cJ5_putStringAt_47b60 : ByteArray := prog_16_method_73_code
def yJ5_putStringAt_47b60 : MethodName := ⟨RJ5, "putStringAt", "(ILjava/lang/String;)V"⟩
def RJ6 : String := "java/lang/Integer"
def TJ6 : u_T := fun k => match k with
  | _ => ("", "", "", false)
def tyJ6 : Nat → FieldType := fun k => match k with
  | _ => .int
theorem nmJ6 : ∀ a, a < 0 → ∀ b, b < 0 → a ≠ b → (TJ6 a).2.1 ≠ (TJ6 b).2.1 := by decide +kernel
theorem tyJ6_ok : ∀ k, k < 0 → parseFieldDescriptor (TJ6 k).2.2.1 = some (tyJ6 k) := by decide +kernel
abbrev cJ6_getChars_ba4f3 : ByteArray := prog_25_method_12_code
def yJ6_getChars_ba4f3 : MethodName := ⟨RJ6, "getChars", "(II[B)I"⟩
abbrev cJ6_stringSize_0f7a4 : ByteArray := prog_25_method_13_code
def yJ6_stringSize_0f7a4 : MethodName := ⟨RJ6, "stringSize", "(I)I"⟩
abbrev cJ6_compare_7cf53 : ByteArray := prog_25_method_40_code
def yJ6_compare_7cf53 : MethodName := ⟨RJ6, "compare", "(II)I"⟩
def RJ9 : String := "java/lang/Math"
def TJ9 : u_T := fun k => match k with
  | _ => ("", "", "", false)
def tyJ9 : Nat → FieldType := fun k => match k with
  | _ => .int
theorem nmJ9 : ∀ a, a < 0 → ∀ b, b < 0 → a ≠ b → (TJ9 a).2.1 ≠ (TJ9 b).2.1 := by decide +kernel
theorem tyJ9_ok : ∀ k, k < 0 → parseFieldDescriptor (TJ9 k).2.2.1 = some (tyJ9 k) := by decide +kernel
abbrev cJ9_max_7cf53 : ByteArray := prog_26_method_65_code
def yJ9_max_7cf53 : MethodName := ⟨RJ9, "max", "(II)I"⟩
abbrev cJ9_min_7cf53 : ByteArray := prog_26_method_69_code
def yJ9_min_7cf53 : MethodName := ⟨RJ9, "min", "(II)I"⟩
def RJ0 : String := "java/lang/String"
def TJ0 : u_T := fun k => match k with
  | 0 => ("java/lang/String", "value", "[B", true)
  | 1 => ("java/lang/String", "coder", "B", true)
  | 2 => ("java/lang/String", "hash", "I", false)
  | _ => ("java/lang/String", "hashIsZero", "Z", false)
def tyJ0 : Nat → FieldType := fun k => match k with
  | 0 => .array .byte
  | 1 => .byte
  | 2 => .int
  | _ => .boolean
theorem nmJ0 : ∀ a, a < 4 → ∀ b, b < 4 → a ≠ b → (TJ0 a).2.1 ≠ (TJ0 b).2.1 := by decide +kernel
theorem tyJ0_ok : ∀ k, k < 4 → parseFieldDescriptor (TJ0 k).2.2.1 = some (tyJ0 k) := by decide +kernel
abbrev cJ0_init_81219 : ByteArray := prog_29_method_53_code
def yJ0_init_81219 : MethodName := ⟨RJ0, "<init>", "(Ljava/lang/StringBuilder;)V"⟩
abbrev cJ0_length_8abf5 : ByteArray := prog_29_method_54_code
def yJ0_length_8abf5 : MethodName := ⟨RJ0, "length", "()I"⟩
abbrev cJ0_charAt_5068e : ByteArray := prog_29_method_56_code
def yJ0_charAt_5068e : MethodName := ⟨RJ0, "charAt", "(I)C"⟩
abbrev cJ0_getBytes_840e7 : ByteArray := prog_29_method_147_code
def yJ0_getBytes_840e7 : MethodName := ⟨RJ0, "getBytes", "([BIB)V"⟩
abbrev cJ0_init_db425 : ByteArray := prog_29_method_150_code
def yJ0_init_db425 : MethodName := ⟨RJ0, "<init>", "(Ljava/lang/AbstractStringBuilder;Ljava/lang/Void;)V"⟩
abbrev cJ0_coder_7d493 : ByteArray := prog_29_method_152_code
def yJ0_coder_7d493 : MethodName := ⟨RJ0, "coder", "()B"⟩
abbrev cJ0_isLatin1_aae02 : ByteArray := prog_29_method_154_code
def yJ0_isLatin1_aae02 : MethodName := ⟨RJ0, "isLatin1", "()Z"⟩
abbrev cJ0_checkIndex_df160 : ByteArray := prog_29_method_155_code
def yJ0_checkIndex_df160 : MethodName := ⟨RJ0, "checkIndex", "(II)V"⟩
abbrev cJ0_checkBoundsOffCount_cabcc : ByteArray := prog_29_method_157_code
def yJ0_checkBoundsOffCount_cabcc : MethodName := ⟨RJ0, "checkBoundsOffCount", "(III)I"⟩
abbrev cJ0_checkBoundsBeginEnd_23922 : ByteArray := prog_29_method_158_code
def yJ0_checkBoundsBeginEnd_23922 : MethodName := ⟨RJ0, "checkBoundsBeginEnd", "(III)V"⟩
def RJ4 : String := "java/lang/StringBuilder"
def TJ4 : u_T := fun k => match k with
  | 0 => ("java/lang/AbstractStringBuilder", "value", "[B", false)
  | 1 => ("java/lang/AbstractStringBuilder", "coder", "B", false)
  | 2 => ("java/lang/AbstractStringBuilder", "maybeLatin1", "Z", false)
  | _ => ("java/lang/AbstractStringBuilder", "count", "I", false)
def tyJ4 : Nat → FieldType := fun k => match k with
  | 0 => .array .byte
  | 1 => .byte
  | 2 => .boolean
  | _ => .int
theorem nmJ4 : ∀ a, a < 4 → ∀ b, b < 4 → a ≠ b → (TJ4 a).2.1 ≠ (TJ4 b).2.1 := by decide +kernel
theorem tyJ4_ok : ∀ k, k < 4 → parseFieldDescriptor (TJ4 k).2.2.1 = some (tyJ4 k) := by decide +kernel
abbrev cJ4_init_da8c8 : ByteArray := prog_30_method_1_code
def yJ4_init_da8c8 : MethodName := ⟨RJ4, "<init>", "()V"⟩
abbrev cJ4_append_15ec4 : ByteArray := prog_30_method_7_code
def yJ4_append_15ec4 : MethodName := ⟨RJ4, "append", "(Ljava/lang/String;)Ljava/lang/StringBuilder;"⟩
abbrev cJ4_append_cf468 : ByteArray := prog_30_method_14_code
def yJ4_append_cf468 : MethodName := ⟨RJ4, "append", "(C)Ljava/lang/StringBuilder;"⟩
abbrev cJ4_append_bf812 : ByteArray := prog_30_method_15_code
def yJ4_append_bf812 : MethodName := ⟨RJ4, "append", "(I)Ljava/lang/StringBuilder;"⟩
abbrev cJ4_toString_0e30d : ByteArray := prog_30_method_42_code
def yJ4_toString_0e30d : MethodName := ⟨RJ4, "toString", "()Ljava/lang/String;"⟩
abbrev cJ4_length_8abf5 : ByteArray := prog_30_method_93_code
def yJ4_length_8abf5 : MethodName := ⟨RJ4, "length", "()I"⟩
def RJ1 : String := "java/lang/StringLatin1"
def TJ1 : u_T := fun k => match k with
  | _ => ("", "", "", false)
def tyJ1 : Nat → FieldType := fun k => match k with
  | _ => .int
theorem nmJ1 : ∀ a, a < 0 → ∀ b, b < 0 → a ≠ b → (TJ1 a).2.1 ≠ (TJ1 b).2.1 := by decide +kernel
theorem tyJ1_ok : ∀ k, k < 0 → parseFieldDescriptor (TJ1 k).2.2.1 = some (tyJ1 k) := by decide +kernel
abbrev cJ1_charAt_3b067 : ByteArray := prog_31_method_2_code
def yJ1_charAt_3b067 : MethodName := ⟨RJ1, "charAt", "([BI)C"⟩
abbrev cJ1_canEncode_fc78d : ByteArray := prog_31_method_3_code
def yJ1_canEncode_fc78d : MethodName := ⟨RJ1, "canEncode", "(C)Z"⟩
abbrev cJ1_inflate_0e8fd : ByteArray := prog_31_method_50_code
def yJ1_inflate_0e8fd : MethodName := ⟨RJ1, "inflate", "([BI[BII)V"⟩
def RJ2 : String := "java/lang/StringUTF16"
def TJ2 : u_T := fun k => match k with
  | _ => ("", "", "", false)
def tyJ2 : Nat → FieldType := fun k => match k with
  | _ => .int
theorem nmJ2 : ∀ a, a < 0 → ∀ b, b < 0 → a ≠ b → (TJ2 a).2.1 ≠ (TJ2 b).2.1 := by decide +kernel
theorem tyJ2_ok : ∀ k, k < 0 → parseFieldDescriptor (TJ2 k).2.2.1 = some (tyJ2 k) := by decide +kernel
abbrev cJ2_newBytesFor_77867 : ByteArray := prog_32_method_2_code
def yJ2_newBytesFor_77867 : MethodName := ⟨RJ2, "newBytesFor", "(I)[B"⟩
abbrev cJ2_newBytesLength_0f7a4 : ByteArray := prog_32_method_3_code
def yJ2_newBytesLength_0f7a4 : MethodName := ⟨RJ2, "newBytesLength", "(I)I"⟩
abbrev cJ2_putChar_b72d1 : ByteArray := prog_32_method_4_code
def yJ2_putChar_b72d1 : MethodName := ⟨RJ2, "putChar", "([BII)V"⟩
abbrev cJ2_getChar_3b067 : ByteArray := prog_32_method_5_code
def yJ2_getChar_3b067 : MethodName := ⟨RJ2, "getChar", "([BI)C"⟩
abbrev cJ2_length_9d52b : ByteArray := prog_32_method_6_code
def yJ2_length_9d52b : MethodName := ⟨RJ2, "length", "([B)I"⟩
abbrev cJ2_coderFromArrayLen_85cad : ByteArray := prog_32_method_15_code
def yJ2_coderFromArrayLen_85cad : MethodName := ⟨RJ2, "coderFromArrayLen", "([BI)B"⟩
abbrev cJ2_compress_39247 : ByteArray := prog_32_method_17_code
def yJ2_compress_39247 : MethodName := ⟨RJ2, "compress", "([BII)[B"⟩
abbrev cJ2_compress_5af95 : ByteArray := prog_32_method_22_code
def yJ2_compress_5af95 : MethodName := ⟨RJ2, "compress", "([BI[BII)I"⟩
abbrev cJ2_putCharSB_b72d1 : ByteArray := prog_32_method_71_code
def yJ2_putCharSB_b72d1 : MethodName := ⟨RJ2, "putCharSB", "([BII)V"⟩
abbrev cJ2_getChars_46870 : ByteArray := prog_32_method_77_code
def yJ2_getChars_46870 : MethodName := ⟨RJ2, "getChars", "(III[B)I"⟩
abbrev cJ2_putCharsAt_cd4e5 : ByteArray := prog_32_method_81_code
def yJ2_putCharsAt_cd4e5 : MethodName := ⟨RJ2, "putCharsAt", "([BICCCC)I"⟩
abbrev cJ2_charAt_3b067 : ByteArray := prog_32_method_83_code
def yJ2_charAt_3b067 : MethodName := ⟨RJ2, "charAt", "([BI)C"⟩
abbrev cJ2_inflate_0e8fd : ByteArray := prog_32_method_86_code
def yJ2_inflate_0e8fd : MethodName := ⟨RJ2, "inflate", "([BI[BII)V"⟩
abbrev cJ2_getChars_ba4f3 : ByteArray := prog_32_method_89_code
def yJ2_getChars_ba4f3 : MethodName := ⟨RJ2, "getChars", "(II[B)I"⟩
abbrev cJ2_checkIndex_2214a : ByteArray := prog_32_method_91_code
def yJ2_checkIndex_2214a : MethodName := ⟨RJ2, "checkIndex", "(I[B)V"⟩
abbrev cJ2_checkBoundsBeginEnd_d044e : ByteArray := prog_32_method_93_code
def yJ2_checkBoundsBeginEnd_d044e : MethodName := ⟨RJ2, "checkBoundsBeginEnd", "(II[B)V"⟩
abbrev cJ2_checkBoundsOffCount_d044e : ByteArray := prog_32_method_94_code
def yJ2_checkBoundsOffCount_d044e : MethodName := ⟨RJ2, "checkBoundsOffCount", "(II[B)V"⟩
def RJ10 : String := "java/lang/System"
def TJ10 : u_T := fun k => match k with
  | _ => ("", "", "", false)
def tyJ10 : Nat → FieldType := fun k => match k with
  | _ => .int
theorem nmJ10 : ∀ a, a < 0 → ∀ b, b < 0 → a ≠ b → (TJ10 a).2.1 ≠ (TJ10 b).2.1 := by decide +kernel
theorem tyJ10_ok : ∀ k, k < 0 → parseFieldDescriptor (TJ10 k).2.2.1 = some (tyJ10 k) := by decide +kernel
def RJ7 : String := "java/util/Arrays"
def TJ7 : u_T := fun k => match k with
  | _ => ("", "", "", false)
def tyJ7 : Nat → FieldType := fun k => match k with
  | _ => .int
theorem nmJ7 : ∀ a, a < 0 → ∀ b, b < 0 → a ≠ b → (TJ7 a).2.1 ≠ (TJ7 b).2.1 := by decide +kernel
theorem tyJ7_ok : ∀ k, k < 0 → parseFieldDescriptor (TJ7 k).2.2.1 = some (tyJ7 k) := by decide +kernel
abbrev cJ7_fill_53178 : ByteArray := prog_37_method_103_code
def yJ7_fill_53178 : MethodName := ⟨RJ7, "fill", "([II)V"⟩
abbrev cJ7_copyOf_9075b : ByteArray := prog_37_method_121_code
def yJ7_copyOf_9075b : MethodName := ⟨RJ7, "copyOf", "([BI)[B"⟩
abbrev cJ7_checkLength_df160 : ByteArray := prog_37_method_131_code
def yJ7_checkLength_df160 : MethodName := ⟨RJ7, "checkLength", "(II)V"⟩
abbrev cJ7_copyOfRange_39247 : ByteArray := prog_37_method_132_code
def yJ7_copyOfRange_39247 : MethodName := ⟨RJ7, "copyOfRange", "([BII)[B"⟩
abbrev cJ7_copyOfRangeByte_39247 : ByteArray := prog_37_method_133_code
def yJ7_copyOfRangeByte_39247 : MethodName := ⟨RJ7, "copyOfRangeByte", "([BII)[B"⟩
def RJ8 : String := "jdk/internal/util/ArraysSupport"
def TJ8 : u_T := fun k => match k with
  | _ => ("", "", "", false)
def tyJ8 : Nat → FieldType := fun k => match k with
  | _ => .int
theorem nmJ8 : ∀ a, a < 0 → ∀ b, b < 0 → a ≠ b → (TJ8 a).2.1 ≠ (TJ8 b).2.1 := by decide +kernel
theorem tyJ8_ok : ∀ k, k < 0 → parseFieldDescriptor (TJ8 k).2.2.1 = some (tyJ8 k) := by decide +kernel
abbrev cJ8_newLength_cabcc : ByteArray := prog_39_method_27_code
def yJ8_newLength_cabcc : MethodName := ⟨RJ8, "newLength", "(III)I"⟩
abbrev cJ8_hugeLength_7cf53 : ByteArray := prog_39_method_28_code
def yJ8_hugeLength_7cf53 : MethodName := ⟨RJ8, "hugeLength", "(II)I"⟩
def RJ3 : String := "jdk/internal/util/Preconditions"
def TJ3 : u_T := fun k => match k with
  | _ => ("", "", "", false)
def tyJ3 : Nat → FieldType := fun k => match k with
  | _ => .int
theorem nmJ3 : ∀ a, a < 0 → ∀ b, b < 0 → a ≠ b → (TJ3 a).2.1 ≠ (TJ3 b).2.1 := by decide +kernel
theorem tyJ3_ok : ∀ k, k < 0 → parseFieldDescriptor (TJ3 k).2.2.1 = some (tyJ3 k) := by decide +kernel
abbrev cJ3_checkIndex_8e157 : ByteArray := prog_40_method_11_code
def yJ3_checkIndex_8e157 : MethodName := ⟨RJ3, "checkIndex", "(IILjava/util/function/BiFunction;)I"⟩
abbrev cJ3_checkFromToIndex_8c36e : ByteArray := prog_40_method_12_code
def yJ3_checkFromToIndex_8c36e : MethodName := ⟨RJ3, "checkFromToIndex", "(IIILjava/util/function/BiFunction;)I"⟩
abbrev cJ3_checkFromIndexSize_8c36e : ByteArray := prog_40_method_13_code
def yJ3_checkFromIndexSize_8c36e : MethodName := ⟨RJ3, "checkFromIndexSize", "(IIILjava/util/function/BiFunction;)I"⟩
def RL : String := "DropSwitchLaw"
abbrev cL_draw : ByteArray := method_2_code
def yL_draw : MethodName := ⟨RL, "draw", "([II)I"⟩
abbrev cL_loads : ByteArray := method_3_code
def yL_loads : MethodName := ⟨RL, "loads", "(LDropSwitch;Ljava/lang/String;I)Z"⟩
abbrev cL_law : ByteArray := code
def yL_law : MethodName := ⟨RL, "law", "([I)Z"⟩
abbrev vwCl : List vw_C := [(RX0, TX0, 11), (RX1, TX1, 10), (RX2, TX2, 2), (RX3, TX3, 6), (RX4, TX4, 11), (RX5, TX5, 5), (RX6, TX6, 6), (RX7, TX7, 9), (RX8, TX8, 2), (RX9, TX9, 17), (RX10, TX10, 6), (RX11, TX11, 1), (RJ0, TJ0, 4), (RJ4, TJ4, 4)]
abbrev Ent : Type := Instr × Nat × Nat × Nat × Nat × Nat
abbrev Mrec : Type := MethodName × ByteArray × Nat × Option FieldType × List (Nat × Nat × Nat × Nat) × Nat × Nat × Nat × Nat × Nat × Nat
/-- a method: name, code, locals, what it returns, its table of handlers, its kind (0 of an object, 1 static), its receiver's class's number, the places of its words: code, initialized, instance or static, selects -/
noncomputable def mtb_0 : List Mrec := [
  (yX0_init, cX0_init, 1, none, [], 0, 0, 504, 48, 503, 0),
  (yX0_addEvent, cX0_addEvent, 3, none, [], 0, 0, 1225, 48, 1223, 1224),
  (yX0_addPacket, cX0_addPacket, 6, none, [], 0, 0, 1221, 48, 1219, 1220),
  (yX0_cut, cX0_cut, 3, none, [], 0, 0, 690, 48, 688, 689),
  (yX0_entryPort, cX0_entryPort, 2, (some .int), [], 0, 0, 1240, 48, 1238, 1239),
  (yX0_sizeOf, cX0_sizeOf, 2, (some .int), [], 0, 0, 1290, 48, 1288, 1289),
  (yX0_rankOf, cX0_rankOf, 2, (some .int), [], 0, 0, 1318, 48, 1316, 1317),
  (yX1_init, cX1_init, 1, none, [], 0, 1, 373, 47, 372, 0),
  (yX1_reset, cX1_reset, 1, none, [], 0, 1, 437, 47, 435, 436),
  (yX1_copyFrom, cX1_copyFrom, 2, none, [], 0, 1, 701, 47, 699, 700),
  (yX1_hasPolicer, cX1_hasPolicer, 2, (some .boolean), [], 0, 1, 1286, 47, 1284, 1285),
  (yX1_isDropping, cX1_isDropping, 2, (some .boolean), [], 0, 1, 1282, 47, 1280, 1281),
  (yX2_init, cX2_init, 1, none, [], 0, 2, 671, 53, 670, 0),
  (yX2_add, cX2_add, 2, none, [], 0, 2, 270, 53, 268, 269),
  (yX2_addWord, cX2_addWord, 3, none, [], 0, 2, 288, 53, 286, 287),
  (yX2_addNumber, cX2_addNumber, 2, none, [], 0, 2, 266, 53, 264, 265),
  (yX2_addName, cX2_addName, 4, none, [], 0, 2, 344, 53, 342, 343),
  (yX3_init, cX3_init, 1, none, [], 0, 3, 611, 51, 610, 0),
  (yX3_clear, cX3_clear, 1, none, [], 0, 3, 717, 51, 715, 716),
  (yX3_addDrop, cX3_addDrop, 7, none, [], 0, 3, 1270, 51, 1268, 1269),
  (yX3_addDelivery, cX3_addDelivery, 3, none, [], 0, 3, 1357, 51, 1355, 1356),
  (yX3_setFate, cX3_setFate, 4, none, [], 0, 3, 1274, 51, 1272, 1273),
  (yX3_fateOf, cX3_fateOf, 3, (some .int), [], 0, 3, 206, 51, 204, 205),
  (yX3_notePeaks, cX3_notePeaks, 4, none, [], 0, 3, 1381, 51, 1379, 1380),
  (yX3_dropPart, cX3_dropPart, 3, (some .int), [], 0, 3, 218, 51, 216, 217),
  (yX3_dropsWith, cX3_dropsWith, 4, (some .int), [], 0, 3, 249, 51, 247, 248),
  (yX3_dropsWith_, cX3_dropsWith_, 5, (some .int), [], 0, 3, 258, 51, 256, 257),
  (yX0_init, cX0_init, 1, none, [], 0, 0, 504, 48, 503, 0),
  (yX0_init, cX0_init, 1, none, [], 0, 0, 504, 48, 503, 0),
  (yX0_init, cX0_init, 1, none, [], 0, 0, 504, 48, 503, 0),
  (yX4_init, cX4_init, 2, none, [], 0, 4, 361, 45, 360, 0),
  (yX4_read, cX4_read, 4, (some .boolean), [], 0, 4, 1048, 45, 1046, 1047),
  (yX4_next, cX4_next, 1, none, [], 0, 4, 1054, 45, 1053, 8),
  (yX4_fail, cX4_fail, 2, (some .boolean), [], 0, 4, 1069, 45, 1068, 11),
  (yX4_isWord, cX4_isWord, 3, (some .boolean), [], 0, 4, 1059, 45, 1058, 9),
  (yX4_isSign, cX4_isSign, 2, (some .boolean), [], 0, 4, 1114, 45, 1113, 19),
  (yX4_readSign, cX4_readSign, 2, (some .boolean), [], 0, 4, 1152, 45, 1151, 23),
  (yX4_readNumber, cX4_readNumber, 4, (some .boolean), [], 0, 4, 1081, 45, 1080, 13),
  (yX4_readName, cX4_readName, 3, (some .boolean), [], 0, 4, 1073, 45, 1072, 12),
  (yX4_readLimit, cX4_readLimit, 1, (some .boolean), [], 0, 4, 1145, 45, 1144, 22),
  (yX4_readPort, cX4_readPort, 2, (some .boolean), [], 0, 4, 1065, 45, 1064, 10),
  (yX4_readPolicer, cX4_readPolicer, 2, (some .boolean), [], 0, 4, 1090, 45, 1089, 14),
  (yX4_readRule, cX4_readRule, 2, (some .boolean), [], 0, 4, 1096, 45, 1095, 15),
  (yX4_readCondition, cX4_readCondition, 3, (some .boolean), [], 0, 4, 1101, 45, 1100, 16),
  (yX4_readAll, cX4_readAll, 3, (some .boolean), [], 0, 4, 1105, 45, 1104, 17),
  (yX4_readAtom, cX4_readAtom, 5, (some .boolean), [], 0, 4, 1109, 45, 1108, 18),
  (yX4_atomKind, cX4_atomKind, 1, (some .int), [], 0, 4, 1126, 45, 1125, 21),
  (yX4_readNested, cX4_readNested, 3, (some .boolean), [], 0, 4, 1118, 45, 1117, 20),
  (yX5_init, cX5_init, 2, none, [], 0, 5, 561, 49, 560, 0),
  (yX5_start, cX5_start, 1, none, [], 0, 5, 708, 49, 706, 707),
  (yX0_init, cX0_init, 1, none, [], 0, 0, 504, 48, 503, 0),
  (yX5_happen, cX5_happen, 4, (some .int), [], 0, 5, 1254, 49, 1252, 1253),
  (yX5_takeIn, cX5_takeIn, 7, (some .int), [], 0, 5, 1258, 49, 1257, 28),
  (yX5_refuse, cX5_refuse, 4, (some .int), [], 0, 5, 1266, 49, 1265, 29),
  (yX5_decidingRule, cX5_decidingRule, 4, (some .int), [], 0, 5, 1278, 49, 1277, 30),
  (yX5_waysOut, cX5_waysOut, 6, (some .int), [], 0, 5, 1302, 49, 1301, 31),
  (yX5_putCopy, cX5_putCopy, 7, (some .int), [], 0, 5, 1310, 49, 1309, 32),
  (yX5_unitsBelow, cX5_unitsBelow, 6, (some .int), [], 0, 5, 1322, 49, 1321, 33),
  (yX5_leastImportant, cX5_leastImportant, 6, (some .int), [], 0, 5, 1327, 49, 1326, 34),
  (yX5_mostImportant, cX5_mostImportant, 6, (some .int), [], 0, 5, 1353, 49, 1352, 38),
  (yX5_takeOut, cX5_takeOut, 4, (some .int), [], 0, 5, 1331, 49, 1330, 35),
  (yX5_passTick, cX5_passTick, 3, (some .int), [], 0, 5, 1344, 49, 1343, 36),
  (yX5_deliverFrom, cX5_deliverFrom, 4, (some .int), [], 0, 5, 1348, 49, 1347, 37),
  (yX5_dropStale, cX5_dropStale, 4, none, [], 0, 5, 1361, 49, 1360, 39)]
noncomputable def mtb_1 : List Mrec := [
  (yX5_loseLink, cX5_loseLink, 4, (some .int), [], 0, 5, 1373, 49, 1372, 40),
  (yX6_init, cX6_init, 1, none, [], 0, 6, 367, 46, 366, 0),
  (yX6_reset, cX6_reset, 1, none, [], 0, 6, 433, 46, 431, 432),
  (yX6_addPort, cX6_addPort, 5, none, [], 0, 6, 1085, 46, 1083, 1084),
  (yX6_portNamed, cX6_portNamed, 3, (some .int), [], 0, 6, 1077, 46, 1075, 1076),
  (yX6_nameOf, cX6_nameOf, 2, (some .int), [], 0, 6, 340, 46, 338, 339),
  (yX6_addItem, cX6_addItem, 3, none, [], 0, 6, 1122, 46, 1120, 1121),
  (yX6_addRule, cX6_addRule, 2, none, [], 0, 6, 1141, 46, 1139, 1140),
  (yX6_rulesHolding, cX6_rulesHolding, 5, (some .int), [], 0, 6, 1229, 46, 1227, 1228),
  (yX6_holds, cX6_holds, 6, (some .boolean), [], 0, 6, 1233, 46, 1232, 26),
  (yX6_isTrue, cX6_isTrue, 4, (some .boolean), [], 1, 6, 1236, 46, 1235, 0),
  (yX6_comparison, cX6_comparison, 2, (some .int), [], 1, 6, 1135, 46, 1134, 0),
  (yX6_compares, cX6_compares, 2, (some .boolean), [], 1, 6, 1243, 46, 1242, 0),
  (yX7_init, cX7_init, 1, none, [], 0, 7, 569, 50, 568, 0),
  (yX7_start, cX7_start, 3, none, [], 0, 7, 712, 50, 710, 711),
  (yX7_copyFrom, cX7_copyFrom, 4, none, [], 0, 7, 722, 50, 720, 721),
  (yX7_hasLink, cX7_hasLink, 2, (some .boolean), [], 0, 7, 1262, 50, 1260, 1261),
  (yX7_setLink, cX7_setLink, 3, none, [], 0, 7, 1369, 50, 1367, 1368),
  (yX7_spend, cX7_spend, 3, (some .boolean), [], 0, 7, 1294, 50, 1292, 1293),
  (yX7_allUnits, cX7_allUnits, 3, (some .int), [], 0, 7, 1314, 50, 1312, 1313),
  (yX7_packetAt, cX7_packetAt, 3, (some .int), [], 0, 7, 194, 50, 192, 193),
  (yX7_ageOf, cX7_ageOf, 3, (some .int), [], 0, 7, 1365, 50, 1363, 1364),
  (yX7_putLast, cX7_putLast, 5, none, [], 0, 7, 1339, 50, 1337, 1338),
  (yX7_remove, cX7_remove, 6, none, [], 0, 7, 1335, 50, 1333, 1334),
  (yX7_learn, cX7_learn, 3, none, [], 0, 7, 1298, 50, 1296, 1297),
  (yX7_forget, cX7_forget, 3, none, [], 0, 7, 1377, 50, 1375, 1376),
  (yX7_wayTo, cX7_wayTo, 4, (some .int), [], 0, 7, 1306, 50, 1304, 1305),
  (yX8_init, cX8_init, 1, none, [], 0, 8, 657, 52, 656, 0),
  (yX8_clear, cX8_clear, 2, none, [], 0, 8, 694, 52, 692, 693),
  (yX0_init, cX0_init, 1, none, [], 0, 0, 504, 48, 503, 0),
  (yX0_init, cX0_init, 1, none, [], 0, 0, 504, 48, 503, 0),
  (yX0_init, cX0_init, 1, none, [], 0, 0, 504, 48, 503, 0),
  (yX0_init, cX0_init, 1, none, [], 0, 0, 504, 48, 503, 0),
  (yX0_init, cX0_init, 1, none, [], 0, 0, 504, 48, 503, 0),
  (yX9_init, cX9_init, 2, none, [], 0, 9, 355, 44, 354, 0),
  (yX9_append, cX9_append, 6, (some .int), [], 0, 9, 1032, 44, 1030, 1031),
  (yX9_truncate, cX9_truncate, 2, (some .boolean), [], 0, 9, 1040, 44, 1038, 1039),
  (yX9_load, cX9_load, 3, (some .int), [], 0, 9, 1044, 44, 1042, 1043),
  (yX9_errorOffset, cX9_errorOffset, 1, (some .int), [], 0, 9, 1156, 44, 1154, 1155),
  (yX9_errorKind, cX9_errorKind, 1, (some .int), [], 0, 9, 1160, 44, 1158, 1159),
  (yX9_count, cX9_count, 2, (some .int), [], 0, 9, 76, 44, 74, 75),
  (yX9_arrive, cX9_arrive, 7, (some .int), [], 0, 9, 1194, 44, 1192, 1193),
  (yX9_tick, cX9_tick, 1, (some .int), [], 0, 9, 1385, 44, 1383, 1384),
  (yX9_link, cX9_link, 3, (some .int), [], 0, 9, 1390, 44, 1388, 1389),
  (yX0_init, cX0_init, 1, none, [], 0, 0, 504, 48, 503, 0),
  (yX0_init, cX0_init, 1, none, [], 0, 0, 504, 48, 503, 0),
  (yX9_packetOf, cX9_packetOf, 2, (some .int), [], 0, 9, 146, 44, 144, 145),
  (yX9_arrivalOf, cX9_arrivalOf, 2, (some .int), [], 0, 9, 170, 44, 168, 169),
  (yX9_fill, cX9_fill, 2, (some .int), [], 0, 9, 178, 44, 176, 177),
  (yX9_queueLength, cX9_queueLength, 2, (some .int), [], 0, 9, 186, 44, 184, 185),
  (yX9_queued, cX9_queued, 3, (some .int), [], 0, 9, 190, 44, 188, 189),
  (yX9_isUp, cX9_isUp, 2, (some .boolean), [], 0, 9, 1394, 44, 1392, 1393),
  (yX0_init, cX0_init, 1, none, [], 0, 0, 504, 48, 503, 0),
  (yX0_init, cX0_init, 1, none, [], 0, 0, 504, 48, 503, 0),
  (yX0_init, cX0_init, 1, none, [], 0, 0, 504, 48, 503, 0),
  (yX9_delivered, cX9_delivered, 2, (some .int), [], 0, 9, 198, 44, 196, 197),
  (yX9_fate, cX9_fate, 3, (some .int), [], 0, 9, 202, 44, 200, 201),
  (yX9_dropField, cX9_dropField, 3, (some .int), [], 0, 9, 210, 44, 208, 209),
  (yX9_firstDrop, cX9_firstDrop, 3, (some .int), [], 0, 9, 222, 44, 220, 221),
  (yX9_dropsBy, cX9_dropsBy, 2, (some .int), [], 0, 9, 226, 44, 224, 225),
  (yX0_init, cX0_init, 1, none, [], 0, 0, 504, 48, 503, 0),
  (yX9_pushedBy, cX9_pushedBy, 2, (some .int), [], 0, 9, 254, 44, 252, 253),
  (yX0_init, cX0_init, 1, none, [], 0, 0, 504, 48, 503, 0),
  (yX0_init, cX0_init, 1, none, [], 0, 0, 504, 48, 503, 0)]
noncomputable def mtb_2 : List Mrec := [
  (yX0_init, cX0_init, 1, none, [], 0, 0, 504, 48, 503, 0),
  (yX0_init, cX0_init, 1, none, [], 0, 0, 504, 48, 503, 0),
  (yX0_init, cX0_init, 1, none, [], 0, 0, 504, 48, 503, 0),
  (yX0_init, cX0_init, 1, none, [], 0, 0, 504, 48, 503, 0),
  (yX0_init, cX0_init, 1, none, [], 0, 0, 504, 48, 503, 0),
  (yX0_init, cX0_init, 1, none, [], 0, 0, 504, 48, 503, 0),
  (yX0_init, cX0_init, 1, none, [], 0, 0, 504, 48, 503, 0),
  (yX0_init, cX0_init, 1, none, [], 0, 0, 504, 48, 503, 0),
  (yX0_init, cX0_init, 1, none, [], 0, 0, 504, 48, 503, 0),
  (yX0_init, cX0_init, 1, none, [], 0, 0, 504, 48, 503, 0),
  (yX0_init, cX0_init, 1, none, [], 0, 0, 504, 48, 503, 0),
  (yX0_init, cX0_init, 1, none, [], 0, 0, 504, 48, 503, 0),
  (yX0_init, cX0_init, 1, none, [], 0, 0, 504, 48, 503, 0),
  (yX0_init, cX0_init, 1, none, [], 0, 0, 504, 48, 503, 0),
  (yX0_init, cX0_init, 1, none, [], 0, 0, 504, 48, 503, 0),
  (yX0_init, cX0_init, 1, none, [], 0, 0, 504, 48, 503, 0),
  (yX9_formatDrop, cX9_formatDrop, 4, (some .int), [], 0, 9, 262, 44, 260, 261),
  (yX0_init, cX0_init, 1, none, [], 0, 0, 504, 48, 503, 0),
  (yX0_init, cX0_init, 1, none, [], 0, 0, 504, 48, 503, 0),
  (yX9_needPort, cX9_needPort, 2, none, [], 0, 9, 182, 44, 181, 3),
  (yX0_init, cX0_init, 1, none, [], 0, 0, 504, 48, 503, 0),
  (yX9_needEvent, cX9_needEvent, 2, none, [], 0, 9, 151, 44, 149, 1),
  (yX0_init, cX0_init, 1, none, [], 0, 0, 504, 48, 503, 0),
  (yX9_needPacket, cX9_needPacket, 2, none, [], 0, 9, 174, 44, 173, 2),
  (yX9_needDrop, cX9_needDrop, 2, none, [], 0, 9, 214, 44, 213, 4),
  (yX9_needAddress, cX9_needAddress, 2, none, [], 0, 9, 1198, 44, 1197, 24),
  (yX9_needCause, cX9_needCause, 2, none, [], 0, 9, 230, 44, 229, 5),
  (yX9_needRoom, cX9_needRoom, 1, none, [], 0, 9, 1202, 44, 1201, 25),
  (yX9_appendWord, cX9_appendWord, 3, none, [], 0, 9, 1036, 44, 1035, 7),
  (yX9_startOver, cX9_startOver, 1, none, [], 0, 9, 686, 44, 685, 6),
  (yX9_goOn, cX9_goOn, 2, (some .int), [], 0, 9, 1250, 44, 1249, 27),
  (yX0_init, cX0_init, 1, none, [], 0, 0, 504, 48, 503, 0),
  (yX0_init, cX0_init, 1, none, [], 0, 0, 504, 48, 503, 0),
  (yX0_init, cX0_init, 1, none, [], 0, 0, 504, 48, 503, 0),
  (yX0_init, cX0_init, 1, none, [], 0, 0, 504, 48, 503, 0),
  (yX0_init, cX0_init, 1, none, [], 0, 0, 504, 48, 503, 0),
  (yX0_init, cX0_init, 1, none, [], 0, 0, 504, 48, 503, 0),
  (yX0_init, cX0_init, 1, none, [], 0, 0, 504, 48, 503, 0),
  (yX9_causeWord, cX9_causeWord, 1, (some (.object "java/lang/String")), [], 1, 9, 274, 44, 273, 0),
  (yX10_init, cX10_init, 4, none, [], 0, 10, 350, 43, 349, 0),
  (yX0_init, cX0_init, 1, none, [], 0, 0, 504, 48, 503, 0),
  (yX0_init, cX0_init, 1, none, [], 0, 0, 504, 48, 503, 0),
  (yX0_init, cX0_init, 1, none, [], 0, 0, 504, 48, 503, 0),
  (yX10_goes, cX10_goes, 6, (some .boolean), [], 0, 10, 1189, 43, 1187, 1188),
  (yX11_init, cX11_init, 2, none, [], 0, 11, 1400, 42, 1399, 0),
  (yX11_next, cX11_next, 2, (some .int), [], 0, 11, 779, 42, 777, 778),
  (yJ5_init_d00df, cJ5_init_d00df, 2, none, [], 0, 13, 788, 56, 787, 0),
  (yJ5_length_8abf5, cJ5_length_8abf5, 1, (some .int), [], 0, 13, 988, 56, 982, 0),
  (yJ5_ensureCapacityInternal_d00df, cJ5_ensureCapacityInternal_d00df, 3, none, [], 0, 13, 826, 56, 825, 824),
  (yJ5_newCapacity_0f7a4, cJ5_newCapacity_0f7a4, 6, (some .int), [], 0, 13, 830, 56, 829, 828),
  (yJ5_inflate_da8c8, cJ5_inflate_da8c8, 2, none, [], 0, 13, 889, 56, 888, 887),
  (yJ5_append_cf1ce, cJ5_append_cf1ce, 3, (some (.object "java/lang/AbstractStringBuilder")), [], 0, 13, 818, 56, 817, 0),
  (yJ5_appendNull_278bc, cJ5_appendNull_278bc, 3, (some (.object "java/lang/AbstractStringBuilder")), [], 0, 13, 822, 56, 821, 820),
  (yJ5_append_3fe6f, cJ5_append_3fe6f, 2, (some (.object "java/lang/AbstractStringBuilder")), [], 0, 13, 919, 56, 918, 0),
  (yJ5_append_c97b9, cJ5_append_c97b9, 4, (some (.object "java/lang/AbstractStringBuilder")), [], 0, 13, 933, 56, 932, 0),
  (yJ5_getValue_6d5f1, cJ5_getValue_6d5f1, 1, (some (.array .byte)), [], 0, 13, 980, 56, 977, 979),
  (yJ5_isLatin1_aae02, cJ5_isLatin1_aae02, 1, (some .boolean), [], 0, 13, 860, 56, 857, 859),
  (yJ5_inflateIfNeededFor_a7421, cJ5_inflateIfNeededFor_a7421, 2, none, [], 0, 13, 884, 56, 883, 882),
  (yJ5_putStringAt_47b60, cJ5_putStringAt_47b60, 3, none, [], 0, 13, 880, 56, 879, 878),
  (yJ6_getChars_ba4f3, cJ6_getChars_ba4f3, 7, (some .int), [], 1, 99, 939, 65, 938, 0),
  (yJ6_stringSize_0f7a4, cJ6_stringSize_0f7a4, 4, (some .int), [], 1, 99, 936, 65, 935, 0),
  (yX0_init, cX0_init, 1, none, [], 0, 0, 504, 48, 503, 0),
  (yJ0_init_81219, cJ0_init_81219, 2, none, [], 0, 12, 971, 58, 970, 0),
  (yJ0_getBytes_840e7, cJ0_getBytes_840e7, 4, none, [], 0, 12, 908, 58, 906, 907)]
noncomputable def mtb_3 : List Mrec := [
  (yJ0_init_db425, cJ0_init_db425, 5, none, [], 0, 12, 974, 58, 973, 0),
  (yJ0_checkBoundsOffCount_cabcc, cJ0_checkBoundsOffCount_cabcc, 3, (some .int), [], 1, 12, 901, 58, 900, 0),
  (yJ0_checkBoundsBeginEnd_23922, cJ0_checkBoundsBeginEnd_23922, 3, none, [], 1, 12, 869, 58, 868, 0),
  (yJ4_init_da8c8, cJ4_init_da8c8, 1, none, [], 0, 13, 785, 57, 784, 0),
  (yJ4_append_15ec4, cJ4_append_15ec4, 2, (some (.object "java/lang/StringBuilder")), [], 0, 13, 815, 57, 813, 814),
  (yJ4_append_cf468, cJ4_append_cf468, 2, (some (.object "java/lang/StringBuilder")), [], 0, 13, 916, 57, 914, 915),
  (yJ4_append_bf812, cJ4_append_bf812, 2, (some (.object "java/lang/StringBuilder")), [], 0, 13, 930, 57, 928, 929),
  (yJ4_toString_0e30d, cJ4_toString_0e30d, 1, (some (.object "java/lang/String")), [], 0, 13, 966, 57, 964, 965),
  (yJ4_length_8abf5, cJ4_length_8abf5, 1, (some .int), [], 0, 13, 986, 57, 985, 984),
  (yJ1_canEncode_fc78d, cJ1_canEncode_fc78d, 1, (some .boolean), [], 1, 99, 922, 63, 921, 0),
  (yJ1_inflate_0e8fd, cJ1_inflate_0e8fd, 5, none, [], 1, 99, 892, 63, 891, 0),
  (yJ7_copyOf_9075b, cJ7_copyOf_9075b, 3, (some (.array .byte)), [], 1, 99, 844, 54, 843, 0),
  (yJ7_checkLength_df160, cJ7_checkLength_df160, 2, none, [], 1, 99, 998, 54, 997, 0),
  (yJ7_copyOfRange_39247, cJ7_copyOfRange_39247, 3, (some (.array .byte)), [], 1, 99, 992, 54, 991, 0),
  (yJ7_copyOfRangeByte_39247, cJ7_copyOfRangeByte_39247, 5, (some (.array .byte)), [], 1, 99, 995, 54, 994, 0),
  (yJ8_newLength_cabcc, cJ8_newLength_cabcc, 4, (some .int), [], 1, 99, 833, 60, 832, 0),
  (yJ8_hugeLength_7cf53, cJ8_hugeLength_7cf53, 3, (some .int), [], 1, 99, 840, 60, 839, 0),
  (yJ3_checkFromToIndex_8c36e, cJ3_checkFromToIndex_8c36e, 4, (some .int), [], 1, 99, 872, 62, 871, 0),
  (yJ3_checkFromIndexSize_8c36e, cJ3_checkFromIndexSize_8c36e, 4, (some .int), [], 1, 99, 904, 62, 903, 0),
  (yL_draw, cL_draw, 2, (some .int), [], 1, 99, 1408, 41, 1407, 0),
  (yL_loads, cL_loads, 6, (some .boolean), [], 1, 99, 1026, 41, 1025, 0),
  (yX0_init, cX0_init, 1, none, [], 0, 0, 504, 48, 503, 0),
  (yX0_init, cX0_init, 1, none, [], 0, 0, 504, 48, 503, 0),
  (yX0_init, cX0_init, 1, none, [], 0, 0, 504, 48, 503, 0),
  (yX0_init, cX0_init, 1, none, [], 0, 0, 504, 48, 503, 0),
  (yX0_init, cX0_init, 1, none, [], 0, 0, 504, 48, 503, 0),
  (yX0_init, cX0_init, 1, none, [], 0, 0, 504, 48, 503, 0),
  (yX0_init, cX0_init, 1, none, [], 0, 0, 504, 48, 503, 0),
  (yX0_init, cX0_init, 1, none, [], 0, 0, 504, 48, 503, 0),
  (yX0_init, cX0_init, 1, none, [], 0, 0, 504, 48, 503, 0),
  (yX0_init, cX0_init, 1, none, [], 0, 0, 504, 48, 503, 0),
  (yX0_init, cX0_init, 1, none, [], 0, 0, 504, 48, 503, 0),
  (yX0_init, cX0_init, 1, none, [], 0, 0, 504, 48, 503, 0),
  (yX0_init, cX0_init, 1, none, [], 0, 0, 504, 48, 503, 0),
  (yX0_init, cX0_init, 1, none, [], 0, 0, 504, 48, 503, 0),
  (yX0_init, cX0_init, 1, none, [], 0, 0, 504, 48, 503, 0),
  (yX0_init, cX0_init, 1, none, [], 0, 0, 504, 48, 503, 0),
  (yX0_init, cX0_init, 1, none, [], 0, 0, 504, 48, 503, 0),
  (yX0_init, cX0_init, 1, none, [], 0, 0, 504, 48, 503, 0),
  (yX0_init, cX0_init, 1, none, [], 0, 0, 504, 48, 503, 0),
  (yX0_init, cX0_init, 1, none, [], 0, 0, 504, 48, 503, 0),
  (yX0_init, cX0_init, 1, none, [], 0, 0, 504, 48, 503, 0),
  (yX0_init, cX0_init, 1, none, [], 0, 0, 504, 48, 503, 0),
  (yX0_init, cX0_init, 1, none, [], 0, 0, 504, 48, 503, 0),
  (yX0_init, cX0_init, 1, none, [], 0, 0, 504, 48, 503, 0),
  (yX0_init, cX0_init, 1, none, [], 0, 0, 504, 48, 503, 0),
  (yX0_init, cX0_init, 1, none, [], 0, 0, 504, 48, 503, 0),
  (yX0_init, cX0_init, 1, none, [], 0, 0, 504, 48, 503, 0),
  (yX0_init, cX0_init, 1, none, [], 0, 0, 504, 48, 503, 0),
  (yX0_init, cX0_init, 1, none, [], 0, 0, 504, 48, 503, 0),
  (yX0_init, cX0_init, 1, none, [], 0, 0, 504, 48, 503, 0),
  (yX0_init, cX0_init, 1, none, [], 0, 0, 504, 48, 503, 0),
  (yX0_init, cX0_init, 1, none, [], 0, 0, 504, 48, 503, 0),
  (yX0_init, cX0_init, 1, none, [], 0, 0, 504, 48, 503, 0),
  (yX0_init, cX0_init, 1, none, [], 0, 0, 504, 48, 503, 0),
  (yX0_init, cX0_init, 1, none, [], 0, 0, 504, 48, 503, 0),
  (yX0_init, cX0_init, 1, none, [], 0, 0, 504, 48, 503, 0),
  (yX0_init, cX0_init, 1, none, [], 0, 0, 504, 48, 503, 0),
  (yX0_init, cX0_init, 1, none, [], 0, 0, 504, 48, 503, 0),
  (yX0_init, cX0_init, 1, none, [], 0, 0, 504, 48, 503, 0),
  (yX0_init, cX0_init, 1, none, [], 0, 0, 504, 48, 503, 0),
  (yX0_init, cX0_init, 1, none, [], 0, 0, 504, 48, 503, 0),
  (yX0_init, cX0_init, 1, none, [], 0, 0, 504, 48, 503, 0),
  (yX0_init, cX0_init, 1, none, [], 0, 0, 504, 48, 503, 0)]
noncomputable def mtb_4 : List Mrec := [
  (yX0_init, cX0_init, 1, none, [], 0, 0, 504, 48, 503, 0),
  (yX0_init, cX0_init, 1, none, [], 0, 0, 504, 48, 503, 0),
  (yX0_init, cX0_init, 1, none, [], 0, 0, 504, 48, 503, 0),
  (yX0_init, cX0_init, 1, none, [], 0, 0, 504, 48, 503, 0),
  (yX0_init, cX0_init, 1, none, [], 0, 0, 504, 48, 503, 0),
  (yX0_init, cX0_init, 1, none, [], 0, 0, 504, 48, 503, 0),
  (yX0_init, cX0_init, 1, none, [], 0, 0, 504, 48, 503, 0),
  (yX0_init, cX0_init, 1, none, [], 0, 0, 504, 48, 503, 0),
  (yX0_init, cX0_init, 1, none, [], 0, 0, 504, 48, 503, 0),
  (yX0_init, cX0_init, 1, none, [], 0, 0, 504, 48, 503, 0),
  (yX0_init, cX0_init, 1, none, [], 0, 0, 504, 48, 503, 0),
  (yX0_init, cX0_init, 1, none, [], 0, 0, 504, 48, 503, 0),
  (yX0_init, cX0_init, 1, none, [], 0, 0, 504, 48, 503, 0),
  (yX0_init, cX0_init, 1, none, [], 0, 0, 504, 48, 503, 0),
  (yX0_init, cX0_init, 1, none, [], 0, 0, 504, 48, 503, 0),
  (yX0_init, cX0_init, 1, none, [], 0, 0, 504, 48, 503, 0),
  (yX0_init, cX0_init, 1, none, [], 0, 0, 504, 48, 503, 0),
  (yX0_init, cX0_init, 1, none, [], 0, 0, 504, 48, 503, 0),
  (yX0_init, cX0_init, 1, none, [], 0, 0, 504, 48, 503, 0),
  (yX0_init, cX0_init, 1, none, [], 0, 0, 504, 48, 503, 0),
  (yX0_init, cX0_init, 1, none, [], 0, 0, 504, 48, 503, 0),
  (yX0_init, cX0_init, 1, none, [], 0, 0, 504, 48, 503, 0),
  (yX0_init, cX0_init, 1, none, [], 0, 0, 504, 48, 503, 0),
  (yX0_init, cX0_init, 1, none, [], 0, 0, 504, 48, 503, 0),
  (yX0_init, cX0_init, 1, none, [], 0, 0, 504, 48, 503, 0),
  (yX0_init, cX0_init, 1, none, [], 0, 0, 504, 48, 503, 0),
  (yX0_init, cX0_init, 1, none, [], 0, 0, 504, 48, 503, 0),
  (yX0_init, cX0_init, 1, none, [], 0, 0, 504, 48, 503, 0),
  (yX0_init, cX0_init, 1, none, [], 0, 0, 504, 48, 503, 0),
  (yX0_init, cX0_init, 1, none, [], 0, 0, 504, 48, 503, 0),
  (yX0_init, cX0_init, 1, none, [], 0, 0, 504, 48, 503, 0),
  (yX0_init, cX0_init, 1, none, [], 0, 0, 504, 48, 503, 0),
  (yX0_init, cX0_init, 1, none, [], 0, 0, 504, 48, 503, 0),
  (yX0_init, cX0_init, 1, none, [], 0, 0, 504, 48, 503, 0),
  (yX0_init, cX0_init, 1, none, [], 0, 0, 504, 48, 503, 0),
  (yX0_init, cX0_init, 1, none, [], 0, 0, 504, 48, 503, 0),
  (yX0_init, cX0_init, 1, none, [], 0, 0, 504, 48, 503, 0),
  (yX0_init, cX0_init, 1, none, [], 0, 0, 504, 48, 503, 0),
  (yX0_init, cX0_init, 1, none, [], 0, 0, 504, 48, 503, 0),
  (yX0_init, cX0_init, 1, none, [], 0, 0, 504, 48, 503, 0),
  (yX0_init, cX0_init, 1, none, [], 0, 0, 504, 48, 503, 0),
  (yJ6_compare_7cf53, cJ6_compare_7cf53, 2, (some .int), [], 1, 99, 1246, 65, 1245, 0),
  (yX0_init, cX0_init, 1, none, [], 0, 0, 504, 48, 503, 0),
  (yJ0_length_8abf5, cJ0_length_8abf5, 1, (some .int), [], 0, 12, 292, 58, 290, 291),
  (yJ0_charAt_5068e, cJ0_charAt_5068e, 2, (some .char), [], 0, 12, 302, 58, 300, 301),
  (yJ0_coder_7d493, cJ0_coder_7d493, 1, (some .byte), [], 0, 12, 296, 58, 294, 295),
  (yJ0_isLatin1_aae02, cJ0_isLatin1_aae02, 1, (some .boolean), [], 0, 12, 306, 58, 304, 305),
  (yJ0_checkIndex_df160, cJ0_checkIndex_df160, 2, none, [], 1, 12, 312, 58, 311, 0),
  (yJ1_charAt_3b067, cJ1_charAt_3b067, 2, (some .char), [], 1, 99, 309, 63, 308, 0),
  (yJ7_fill_53178, cJ7_fill_53178, 4, none, [], 1, 99, 697, 54, 696, 0),
  (yJ3_checkIndex_8e157, cJ3_checkIndex_8e157, 3, (some .int), [], 1, 99, 317, 62, 316, 0),
  (yX0_init, cX0_init, 1, none, [], 0, 0, 504, 48, 503, 0),
  (yX0_init, cX0_init, 1, none, [], 0, 0, 504, 48, 503, 0),
  (yX0_init, cX0_init, 1, none, [], 0, 0, 504, 48, 503, 0),
  (yX0_init, cX0_init, 1, none, [], 0, 0, 504, 48, 503, 0),
  (yX0_init, cX0_init, 1, none, [], 0, 0, 504, 48, 503, 0),
  (yX0_init, cX0_init, 1, none, [], 0, 0, 504, 48, 503, 0),
  (yX0_init, cX0_init, 1, none, [], 0, 0, 504, 48, 503, 0),
  (yX0_init, cX0_init, 1, none, [], 0, 0, 504, 48, 503, 0),
  (yX0_init, cX0_init, 1, none, [], 0, 0, 504, 48, 503, 0),
  (yX0_init, cX0_init, 1, none, [], 0, 0, 504, 48, 503, 0),
  (yX0_init, cX0_init, 1, none, [], 0, 0, 504, 48, 503, 0),
  (yX0_init, cX0_init, 1, none, [], 0, 0, 504, 48, 503, 0),
  (yX0_init, cX0_init, 1, none, [], 0, 0, 504, 48, 503, 0)]
noncomputable def mtb_5 : List Mrec := [
  (yX0_init, cX0_init, 1, none, [], 0, 0, 504, 48, 503, 0),
  (yX0_init, cX0_init, 1, none, [], 0, 0, 504, 48, 503, 0),
  (yX0_init, cX0_init, 1, none, [], 0, 0, 504, 48, 503, 0),
  (yX0_init, cX0_init, 1, none, [], 0, 0, 504, 48, 503, 0),
  (yX0_init, cX0_init, 1, none, [], 0, 0, 504, 48, 503, 0),
  (yX0_init, cX0_init, 1, none, [], 0, 0, 504, 48, 503, 0),
  (yX0_init, cX0_init, 1, none, [], 0, 0, 504, 48, 503, 0),
  (yX0_init, cX0_init, 1, none, [], 0, 0, 504, 48, 503, 0),
  (yX0_init, cX0_init, 1, none, [], 0, 0, 504, 48, 503, 0),
  (yX0_init, cX0_init, 1, none, [], 0, 0, 504, 48, 503, 0),
  (yX0_init, cX0_init, 1, none, [], 0, 0, 504, 48, 503, 0),
  (yX0_init, cX0_init, 1, none, [], 0, 0, 504, 48, 503, 0),
  (yX0_init, cX0_init, 1, none, [], 0, 0, 504, 48, 503, 0),
  (yX0_init, cX0_init, 1, none, [], 0, 0, 504, 48, 503, 0),
  (yX0_init, cX0_init, 1, none, [], 0, 0, 504, 48, 503, 0),
  (yX0_init, cX0_init, 1, none, [], 0, 0, 504, 48, 503, 0),
  (yX0_init, cX0_init, 1, none, [], 0, 0, 504, 48, 503, 0),
  (yX0_init, cX0_init, 1, none, [], 0, 0, 504, 48, 503, 0),
  (yX0_init, cX0_init, 1, none, [], 0, 0, 504, 48, 503, 0),
  (yX0_init, cX0_init, 1, none, [], 0, 0, 504, 48, 503, 0),
  (yX0_init, cX0_init, 1, none, [], 0, 0, 504, 48, 503, 0),
  (yX0_init, cX0_init, 1, none, [], 0, 0, 504, 48, 503, 0),
  (yX0_init, cX0_init, 1, none, [], 0, 0, 504, 48, 503, 0),
  (yX0_init, cX0_init, 1, none, [], 0, 0, 504, 48, 503, 0),
  (yL_law, cL_law, 15, (some .boolean), [], 1, 99, 0, 41, 0, 0)]
noncomputable def mtb : List Mrec := mtb_0 ++ (mtb_1 ++ (mtb_2 ++ (mtb_3 ++ (mtb_4 ++ (mtb_5)))))
/-- DropSwitch$History <init> ()V -/
noncomputable def cd_0 : List (Nat × Ent) := [
  (0, .aload_n 0, 1, 0, 0, 0, 0), (1, .invokespecial 3, 3, 0, 1, 4, 505), (4, .aload_n 0, 1, 0, 0, 0, 0), (5, .bipush 120, 2, 0, 0, 0, 0), (7, .newarray .int, 2, 1, 0, 0, 0), 
  (9, .putfield 9, 3, 0, 2, 12, 510), (12, .aload_n 0, 1, 0, 0, 0, 0), (13, .bipush 120, 2, 0, 0, 0, 0), (15, .newarray .int, 2, 1, 0, 0, 0), (17, .putfield 15, 3, 0, 3, 12, 512), 
  (20, .aload_n 0, 1, 0, 0, 0, 0), (21, .bipush 120, 2, 0, 0, 0, 0), (23, .newarray .int, 2, 1, 0, 0, 0), (25, .putfield 18, 3, 0, 4, 12, 514), (28, .aload_n 0, 1, 0, 0, 0, 0), 
  (29, .bipush 120, 2, 0, 0, 0, 0), (31, .newarray .int, 2, 1, 0, 0, 0), (33, .putfield 21, 3, 0, 5, 12, 517), (36, .aload_n 0, 1, 0, 0, 0, 0), (37, .bipush 120, 2, 0, 0, 0, 0), 
  (39, .newarray .int, 2, 1, 0, 0, 0), (41, .putfield 24, 3, 0, 6, 12, 519), (44, .aload_n 0, 1, 0, 0, 0, 0), (45, .bipush 120, 2, 0, 0, 0, 0), (47, .newarray .int, 2, 1, 0, 0, 0), 
  (49, .putfield 27, 3, 0, 7, 12, 522), (52, .aload_n 0, 1, 0, 0, 0, 0), (53, .bipush 120, 2, 0, 0, 0, 0), (55, .newarray .int, 2, 1, 0, 0, 0), (57, .putfield 30, 3, 0, 8, 12, 525), 
  (60, .aload_n 0, 1, 0, 0, 0, 0), (61, .bipush 120, 2, 0, 0, 0, 0), (63, .newarray .int, 2, 1, 0, 0, 0), (65, .putfield 33, 3, 0, 9, 12, 527), (68, .aload_n 0, 1, 0, 0, 0, 0), 
  (69, .bipush 120, 2, 0, 0, 0, 0), (71, .newarray .int, 2, 1, 0, 0, 0), (73, .putfield 36, 3, 0, 10, 12, 529), (76, .return_, 1, 0, 0, 0, 0)]
/-- DropSwitch$History addEvent (II)V -/
noncomputable def cd_1 : List (Nat × Ent) := [
  (0, .aload_n 0, 1, 0, 0, 0, 0), (1, .getfield 39, 3, 0, 0, 0, 506), (4, .bipush 120, 2, 0, 0, 0, 0), (6, .if_icmp .lt 4, 3, 0, 0, 0, 0), (9, .return_, 1, 0, 0, 0, 0), 
  (10, .aload_n 0, 1, 0, 0, 0, 0), (11, .getfield 9, 3, 0, 2, 2, 510), (14, .aload_n 0, 1, 0, 0, 0, 0), (15, .getfield 39, 3, 0, 0, 0, 506), (18, .iload_n 1, 1, 0, 0, 0, 0), 
  (19, .iastore, 1, 0, 0, 0, 0), (20, .aload_n 0, 1, 0, 0, 0, 0), (21, .getfield 15, 3, 0, 3, 2, 512), (24, .aload_n 0, 1, 0, 0, 0, 0), (25, .getfield 39, 3, 0, 0, 0, 506), 
  (28, .iload_n 2, 1, 0, 0, 0, 0), (29, .iastore, 1, 0, 0, 0, 0), (30, .aload_n 0, 1, 0, 0, 0, 0), (31, .getfield 18, 3, 0, 4, 2, 514), (34, .aload_n 0, 1, 0, 0, 0, 0), 
  (35, .getfield 39, 3, 0, 0, 0, 506), (38, .iconst (-1), 1, 0, 0, 0, 0), (39, .iastore, 1, 0, 0, 0, 0), (40, .aload_n 0, 1, 0, 0, 0, 0), (41, .dup, 1, 0, 0, 0, 0), 
  (42, .getfield 39, 3, 0, 0, 0, 506), (45, .iconst 1, 1, 0, 0, 0, 0), (46, .iadd, 1, 0, 0, 0, 0), (47, .putfield 39, 3, 0, 0, 0, 506), (50, .return_, 1, 0, 0, 0, 0)]
/-- DropSwitch$History addPacket (IIIII)V -/
noncomputable def cd_2 : List (Nat × Ent) := [
  (0, .aload_n 0, 1, 0, 0, 0, 0), (1, .getfield 39, 3, 0, 0, 0, 506), (4, .bipush 120, 2, 0, 0, 0, 0), (6, .if_icmp .ge 12, 3, 0, 0, 0, 0), (9, .aload_n 0, 1, 0, 0, 0, 0), 
  (10, .getfield 43, 3, 0, 1, 0, 508), (13, .bipush 120, 2, 0, 0, 0, 0), (15, .if_icmp .lt 4, 3, 0, 0, 0, 0), (18, .return_, 1, 0, 0, 0, 0), (19, .aload_n 0, 1, 0, 0, 0, 0), 
  (20, .getfield 21, 3, 0, 5, 2, 517), (23, .aload_n 0, 1, 0, 0, 0, 0), (24, .getfield 43, 3, 0, 1, 0, 508), (27, .aload_n 0, 1, 0, 0, 0, 0), (28, .getfield 39, 3, 0, 0, 0, 506), 
  (31, .iastore, 1, 0, 0, 0, 0), (32, .aload_n 0, 1, 0, 0, 0, 0), (33, .getfield 24, 3, 0, 6, 2, 519), (36, .aload_n 0, 1, 0, 0, 0, 0), (37, .getfield 43, 3, 0, 1, 0, 508), 
  (40, .iload_n 2, 1, 0, 0, 0, 0), (41, .iastore, 1, 0, 0, 0, 0), (42, .aload_n 0, 1, 0, 0, 0, 0), (43, .getfield 27, 3, 0, 7, 2, 522), (46, .aload_n 0, 1, 0, 0, 0, 0), 
  (47, .getfield 43, 3, 0, 1, 0, 508), (50, .iload_n 3, 1, 0, 0, 0, 0), (51, .iastore, 1, 0, 0, 0, 0), (52, .aload_n 0, 1, 0, 0, 0, 0), (53, .getfield 30, 3, 0, 8, 2, 525), 
  (56, .aload_n 0, 1, 0, 0, 0, 0), (57, .getfield 43, 3, 0, 1, 0, 508), (60, .iload 4, 2, 0, 0, 0, 0), (62, .iastore, 1, 0, 0, 0, 0), (63, .aload_n 0, 1, 0, 0, 0, 0), 
  (64, .getfield 33, 3, 0, 9, 2, 527), (67, .aload_n 0, 1, 0, 0, 0, 0), (68, .getfield 43, 3, 0, 1, 0, 508), (71, .iload 5, 2, 0, 0, 0, 0), (73, .iastore, 1, 0, 0, 0, 0), 
  (74, .aload_n 0, 1, 0, 0, 0, 0), (75, .iconst 0, 1, 0, 0, 0, 0), (76, .iload_n 1, 1, 0, 0, 0, 0), (77, .invokevirtual 46, 3, 1, 3, 0, 1222), (80, .aload_n 0, 1, 0, 0, 0, 0), 
  (81, .getfield 18, 3, 0, 4, 2, 514), (84, .aload_n 0, 1, 0, 0, 0, 0), (85, .getfield 39, 3, 0, 0, 0, 506), (88, .iconst 1, 1, 0, 0, 0, 0), (89, .isub, 1, 0, 0, 0, 0), 
  (90, .aload_n 0, 1, 0, 0, 0, 0), (91, .getfield 43, 3, 0, 1, 0, 508), (94, .iastore, 1, 0, 0, 0, 0), (95, .aload_n 0, 1, 0, 0, 0, 0), (96, .dup, 1, 0, 0, 0, 0), 
  (97, .getfield 43, 3, 0, 1, 0, 508), (100, .iconst 1, 1, 0, 0, 0, 0), (101, .iadd, 1, 0, 0, 0, 0), (102, .putfield 43, 3, 0, 1, 0, 508), (105, .return_, 1, 0, 0, 0, 0)]
/-- DropSwitch$History cut (I)V -/
noncomputable def cd_3 : List (Nat × Ent) := [
  (0, .aload_n 0, 1, 0, 0, 0, 0), (1, .iload_n 1, 1, 0, 0, 0, 0), (2, .putfield 39, 3, 0, 0, 0, 506), (5, .aload_n 0, 1, 0, 0, 0, 0), (6, .iconst 0, 1, 0, 0, 0, 0), 
  (7, .putfield 43, 3, 0, 1, 0, 508), (10, .iconst 0, 1, 0, 0, 0, 0), (11, .istore_n 2, 1, 0, 0, 0, 0), (12, .iload_n 2, 1, 0, 0, 0, 0), (13, .iload_n 1, 1, 0, 0, 0, 0), 
  (14, .if_icmp .ge 28, 3, 0, 0, 0, 0), (17, .aload_n 0, 1, 0, 0, 0, 0), (18, .getfield 9, 3, 0, 2, 2, 510), (21, .iload_n 2, 1, 0, 0, 0, 0), (22, .iaload, 1, 0, 0, 0, 0), 
  (23, .ifCond .ne 13, 3, 0, 0, 0, 0), (26, .aload_n 0, 1, 0, 0, 0, 0), (27, .dup, 1, 0, 0, 0, 0), (28, .getfield 43, 3, 0, 1, 0, 508), (31, .iconst 1, 1, 0, 0, 0, 0), 
  (32, .iadd, 1, 0, 0, 0, 0), (33, .putfield 43, 3, 0, 1, 0, 508), (36, .iinc 2 1, 3, 0, 0, 0, 0), (39, .goto (-27), 3, 0, 0, 0, 0), (42, .return_, 1, 0, 0, 0, 0)]
/-- DropSwitch$History entryPort (I)I -/
noncomputable def cd_4 : List (Nat × Ent) := [
  (0, .aload_n 0, 1, 0, 0, 0, 0), (1, .getfield 15, 3, 0, 3, 2, 512), (4, .aload_n 0, 1, 0, 0, 0, 0), (5, .getfield 21, 3, 0, 5, 2, 517), (8, .iload_n 1, 1, 0, 0, 0, 0), 
  (9, .iaload, 1, 0, 0, 0, 0), (10, .iaload, 1, 0, 0, 0, 0), (11, .ireturn, 1, 0, 0, 0, 0)]
/-- DropSwitch$History sizeOf (I)I -/
noncomputable def cd_5 : List (Nat × Ent) := [
  (0, .iload_n 1, 1, 0, 0, 0, 0), (1, .ifCond .lt 20, 3, 0, 0, 0, 0), (4, .iload_n 1, 1, 0, 0, 0, 0), (5, .aload_n 0, 1, 0, 0, 0, 0), (6, .getfield 43, 3, 0, 1, 0, 508), 
  (9, .if_icmp .ge 12, 3, 0, 0, 0, 0), (12, .aload_n 0, 1, 0, 0, 0, 0), (13, .getfield 30, 3, 0, 8, 2, 525), (16, .iload_n 1, 1, 0, 0, 0, 0), (17, .iaload, 1, 0, 0, 0, 0), 
  (18, .goto 4, 3, 0, 0, 0, 0), (21, .iconst 0, 1, 0, 0, 0, 0), (22, .ireturn, 1, 0, 0, 0, 0)]
/-- DropSwitch$History rankOf (I)I -/
noncomputable def cd_6 : List (Nat × Ent) := [
  (0, .iload_n 1, 1, 0, 0, 0, 0), (1, .ifCond .lt 20, 3, 0, 0, 0, 0), (4, .iload_n 1, 1, 0, 0, 0, 0), (5, .aload_n 0, 1, 0, 0, 0, 0), (6, .getfield 43, 3, 0, 1, 0, 508), 
  (9, .if_icmp .ge 12, 3, 0, 0, 0, 0), (12, .aload_n 0, 1, 0, 0, 0, 0), (13, .getfield 33, 3, 0, 9, 2, 527), (16, .iload_n 1, 1, 0, 0, 0, 0), (17, .iaload, 1, 0, 0, 0, 0), 
  (18, .goto 4, 3, 0, 0, 0, 0), (21, .iconst 0, 1, 0, 0, 0, 0), (22, .ireturn, 1, 0, 0, 0, 0)]
/-- DropSwitch$Limits <init> ()V -/
noncomputable def cd_7 : List (Nat × Ent) := [
  (0, .aload_n 0, 1, 0, 0, 0, 0), (1, .invokespecial 3, 3, 0, 1, 4, 374), (4, .aload_n 0, 1, 0, 0, 0, 0), (5, .iconst 4, 1, 0, 0, 0, 0), (6, .newarray .int, 2, 1, 0, 0, 0), 
  (8, .putfield 9, 3, 1, 1, 12, 380), (11, .aload_n 0, 1, 0, 0, 0, 0), (12, .iconst 4, 1, 0, 0, 0, 0), (13, .newarray .int, 2, 1, 0, 0, 0), (15, .putfield 15, 3, 1, 2, 12, 383), 
  (18, .aload_n 0, 1, 0, 0, 0, 0), (19, .iconst 4, 1, 0, 0, 0, 0), (20, .newarray .int, 2, 1, 0, 0, 0), (22, .putfield 18, 3, 1, 3, 12, 386), (25, .aload_n 0, 1, 0, 0, 0, 0), 
  (26, .iconst 4, 1, 0, 0, 0, 0), (27, .newarray .int, 2, 1, 0, 0, 0), (29, .putfield 21, 3, 1, 4, 12, 390), (32, .return_, 1, 0, 0, 0, 0)]
/-- DropSwitch$Limits reset ()V -/
noncomputable def cd_8 : List (Nat × Ent) := [
  (0, .aload_n 0, 1, 0, 0, 0, 0), (1, .iconst 0, 1, 0, 0, 0, 0), (2, .putfield 24, 3, 1, 0, 0, 375), (5, .aload_n 0, 1, 0, 0, 0, 0), (6, .sipush 400, 3, 0, 0, 0, 0), 
  (9, .putfield 28, 3, 1, 5, 0, 395), (12, .aload_n 0, 1, 0, 0, 0, 0), (13, .bipush 99, 2, 0, 0, 0, 0), (15, .putfield 31, 3, 1, 6, 0, 398), (18, .aload_n 0, 1, 0, 0, 0, 0), 
  (19, .bipush 100, 2, 0, 0, 0, 0), (21, .putfield 34, 3, 1, 7, 0, 401), (24, .aload_n 0, 1, 0, 0, 0, 0), (25, .iconst 0, 1, 0, 0, 0, 0), (26, .putfield 37, 3, 1, 8, 0, 404), 
  (29, .aload_n 0, 1, 0, 0, 0, 0), (30, .iconst 0, 1, 0, 0, 0, 0), (31, .putfield 40, 3, 1, 9, 0, 406), (34, .return_, 1, 0, 0, 0, 0)]
/-- DropSwitch$Limits copyFrom (LDropSwitch$Limits;)V -/
noncomputable def cd_9 : List (Nat × Ent) := [
  (0, .aload_n 0, 1, 0, 0, 0, 0), (1, .aload_n 1, 1, 0, 0, 0, 0), (2, .getfield 24, 3, 1, 0, 0, 375), (5, .putfield 24, 3, 1, 0, 0, 375), (8, .aload_n 1, 1, 0, 0, 0, 0), 
  (9, .getfield 9, 3, 1, 1, 2, 380), (12, .iconst 0, 1, 0, 0, 0, 0), (13, .aload_n 0, 1, 0, 0, 0, 0), (14, .getfield 9, 3, 1, 1, 2, 380), (17, .iconst 0, 1, 0, 0, 0, 0), 
  (18, .iconst 4, 1, 0, 0, 0, 0), (19, .invokestatic 43, 3, 0, 5, 6, 702), (22, .aload_n 1, 1, 0, 0, 0, 0), (23, .getfield 15, 3, 1, 2, 2, 383), (26, .iconst 0, 1, 0, 0, 0, 0), 
  (27, .aload_n 0, 1, 0, 0, 0, 0), (28, .getfield 15, 3, 1, 2, 2, 383), (31, .iconst 0, 1, 0, 0, 0, 0), (32, .iconst 4, 1, 0, 0, 0, 0), (33, .invokestatic 43, 3, 0, 5, 6, 702), 
  (36, .aload_n 1, 1, 0, 0, 0, 0), (37, .getfield 18, 3, 1, 3, 2, 386), (40, .iconst 0, 1, 0, 0, 0, 0), (41, .aload_n 0, 1, 0, 0, 0, 0), (42, .getfield 18, 3, 1, 3, 2, 386), 
  (45, .iconst 0, 1, 0, 0, 0, 0), (46, .iconst 4, 1, 0, 0, 0, 0), (47, .invokestatic 43, 3, 0, 5, 6, 702), (50, .aload_n 1, 1, 0, 0, 0, 0), (51, .getfield 21, 3, 1, 4, 2, 390), 
  (54, .iconst 0, 1, 0, 0, 0, 0), (55, .aload_n 0, 1, 0, 0, 0, 0), (56, .getfield 21, 3, 1, 4, 2, 390), (59, .iconst 0, 1, 0, 0, 0, 0), (60, .iconst 4, 1, 0, 0, 0, 0), 
  (61, .invokestatic 43, 3, 0, 5, 6, 702), (64, .aload_n 0, 1, 0, 0, 0, 0), (65, .aload_n 1, 1, 0, 0, 0, 0), (66, .getfield 28, 3, 1, 5, 0, 395), (69, .putfield 28, 3, 1, 5, 0, 395), 
  (72, .aload_n 0, 1, 0, 0, 0, 0), (73, .aload_n 1, 1, 0, 0, 0, 0), (74, .getfield 31, 3, 1, 6, 0, 398), (77, .putfield 31, 3, 1, 6, 0, 398), (80, .aload_n 0, 1, 0, 0, 0, 0), 
  (81, .aload_n 1, 1, 0, 0, 0, 0), (82, .getfield 34, 3, 1, 7, 0, 401), (85, .putfield 34, 3, 1, 7, 0, 401), (88, .aload_n 0, 1, 0, 0, 0, 0), (89, .aload_n 1, 1, 0, 0, 0, 0), 
  (90, .getfield 37, 3, 1, 8, 0, 404), (93, .putfield 37, 3, 1, 8, 0, 404), (96, .aload_n 0, 1, 0, 0, 0, 0), (97, .aload_n 1, 1, 0, 0, 0, 0), (98, .getfield 40, 3, 1, 9, 0, 406), 
  (101, .putfield 40, 3, 1, 9, 0, 406), (104, .return_, 1, 0, 0, 0, 0)]
/-- DropSwitch$Limits hasPolicer (I)Z -/
noncomputable def cd_10 : List (Nat × Ent) := [
  (0, .aload_n 0, 1, 0, 0, 0, 0), (1, .getfield 18, 3, 1, 3, 2, 386), (4, .iload_n 1, 1, 0, 0, 0, 0), (5, .iaload, 1, 0, 0, 0, 0), (6, .iconst (-1), 1, 0, 0, 0, 0), 
  (7, .if_icmp .eq 7, 3, 0, 0, 0, 0), (10, .iconst 1, 1, 0, 0, 0, 0), (11, .goto 4, 3, 0, 0, 0, 0), (14, .iconst 0, 1, 0, 0, 0, 0), (15, .ireturn, 1, 0, 0, 1, 0)]
/-- DropSwitch$Limits isDropping (I)Z -/
noncomputable def cd_11 : List (Nat × Ent) := [
  (0, .aload_n 0, 1, 0, 0, 0, 0), (1, .getfield 37, 3, 1, 8, 0, 404), (4, .iload_n 1, 1, 0, 0, 0, 0), (5, .ishr, 1, 0, 0, 0, 0), (6, .iconst 1, 1, 0, 0, 0, 0), 
  (7, .iand, 1, 0, 0, 0, 0), (8, .ifCond .eq 7, 3, 0, 0, 0, 0), (11, .iconst 1, 1, 0, 0, 0, 0), (12, .goto 4, 3, 0, 0, 0, 0), (15, .iconst 0, 1, 0, 0, 0, 0), 
  (16, .ireturn, 1, 0, 0, 1, 0)]
/-- DropSwitch$Line <init> ()V -/
noncomputable def cd_12 : List (Nat × Ent) := [
  (0, .aload_n 0, 1, 0, 0, 0, 0), (1, .invokespecial 3, 3, 0, 1, 4, 672), (4, .aload_n 0, 1, 0, 0, 0, 0), (5, .sipush 600, 3, 0, 0, 0, 0), (8, .newarray .byte, 2, 3, 0, 0, 0), 
  (10, .putfield 11, 3, 2, 0, 12, 673), (13, .return_, 1, 0, 0, 0, 0)]
/-- DropSwitch$Line add (I)V -/
noncomputable def cd_13 : List (Nat × Ent) := [
  (0, .aload_n 0, 1, 0, 0, 0, 0), (1, .getfield 15, 3, 2, 1, 0, 674), (4, .aload_n 0, 1, 0, 0, 0, 0), (5, .getfield 11, 3, 2, 0, 2, 673), (8, .arraylength, 1, 0, 0, 0, 0), 
  (9, .if_icmp .ge 24, 3, 0, 0, 0, 0), (12, .aload_n 0, 1, 0, 0, 0, 0), (13, .getfield 11, 3, 2, 0, 2, 673), (16, .aload_n 0, 1, 0, 0, 0, 0), (17, .getfield 15, 3, 2, 1, 0, 674), 
  (20, .iload_n 1, 1, 0, 0, 0, 0), (21, .i2b, 1, 0, 0, 0, 0), (22, .bastore, 1, 0, 0, 0, 0), (23, .aload_n 0, 1, 0, 0, 0, 0), (24, .dup, 1, 0, 0, 0, 0), 
  (25, .getfield 15, 3, 2, 1, 0, 674), (28, .iconst 1, 1, 0, 0, 0, 0), (29, .iadd, 1, 0, 0, 0, 0), (30, .putfield 15, 3, 2, 1, 0, 674), (33, .return_, 1, 0, 0, 0, 0)]
/-- DropSwitch$Line addWord (Ljava/lang/String;)V -/
noncomputable def cd_14 : List (Nat × Ent) := [
  (0, .iconst 0, 1, 0, 0, 0, 0), (1, .istore_n 2, 1, 0, 0, 0, 0), (2, .iload_n 2, 1, 0, 0, 0, 0), (3, .aload_n 1, 1, 0, 0, 0, 0), (4, .invokevirtual 19, 3, 299, 1, 0, 289), 
  (7, .if_icmp .ge 18, 3, 0, 0, 0, 0), (10, .aload_n 0, 1, 0, 0, 0, 0), (11, .aload_n 1, 1, 0, 0, 0, 0), (12, .iload_n 2, 1, 0, 0, 0, 0), (13, .invokevirtual 24, 3, 300, 2, 0, 299), 
  (16, .invokevirtual 28, 3, 13, 2, 0, 267), (19, .iinc 2 1, 3, 0, 0, 0, 0), (22, .goto (-20), 3, 0, 0, 0, 0), (25, .return_, 1, 0, 0, 0, 0)]
/-- DropSwitch$Line addNumber (I)V -/
noncomputable def cd_15 : List (Nat × Ent) := [
  (0, .iload_n 1, 1, 0, 0, 0, 0), (1, .bipush 100, 2, 0, 0, 0, 0), (3, .if_icmp .lt 17, 3, 0, 0, 0, 0), (6, .aload_n 0, 1, 0, 0, 0, 0), (7, .bipush 48, 2, 0, 0, 0, 0), 
  (9, .iload_n 1, 1, 0, 0, 0, 0), (10, .bipush 100, 2, 0, 0, 0, 0), (12, .idiv, 1, 0, 0, 0, 0), (13, .bipush 10, 2, 0, 0, 0, 0), (15, .irem, 1, 0, 0, 0, 0), 
  (16, .iadd, 1, 0, 0, 0, 0), (17, .invokevirtual 28, 3, 13, 2, 0, 267), (20, .iload_n 1, 1, 0, 0, 0, 0), (21, .bipush 10, 2, 0, 0, 0, 0), (23, .if_icmp .lt 17, 3, 0, 0, 0, 0), 
  (26, .aload_n 0, 1, 0, 0, 0, 0), (27, .bipush 48, 2, 0, 0, 0, 0), (29, .iload_n 1, 1, 0, 0, 0, 0), (30, .bipush 10, 2, 0, 0, 0, 0), (32, .idiv, 1, 0, 0, 0, 0), 
  (33, .bipush 10, 2, 0, 0, 0, 0), (35, .irem, 1, 0, 0, 0, 0), (36, .iadd, 1, 0, 0, 0, 0), (37, .invokevirtual 28, 3, 13, 2, 0, 267), (40, .aload_n 0, 1, 0, 0, 0, 0), 
  (41, .bipush 48, 2, 0, 0, 0, 0), (43, .iload_n 1, 1, 0, 0, 0, 0), (44, .bipush 10, 2, 0, 0, 0, 0), (46, .irem, 1, 0, 0, 0, 0), (47, .iadd, 1, 0, 0, 0, 0), 
  (48, .invokevirtual 28, 3, 13, 2, 0, 267), (51, .return_, 1, 0, 0, 0, 0)]
/-- DropSwitch$Line addName (I)V -/
noncomputable def cd_16 : List (Nat × Ent) := [
  (0, .bipush 25, 2, 0, 0, 0, 0), (2, .istore_n 2, 1, 0, 0, 0, 0), (3, .iload_n 2, 1, 0, 0, 0, 0), (4, .ifCond .lt 30, 3, 0, 0, 0, 0), (7, .iload_n 1, 1, 0, 0, 0, 0), 
  (8, .iload_n 2, 1, 0, 0, 0, 0), (9, .ishr, 1, 0, 0, 0, 0), (10, .bipush 31, 2, 0, 0, 0, 0), (12, .iand, 1, 0, 0, 0, 0), (13, .istore_n 3, 1, 0, 0, 0, 0), 
  (14, .iload_n 3, 1, 0, 0, 0, 0), (15, .ifCond .eq 13, 3, 0, 0, 0, 0), (18, .aload_n 0, 1, 0, 0, 0, 0), (19, .bipush 97, 2, 0, 0, 0, 0), (21, .iload_n 3, 1, 0, 0, 0, 0), 
  (22, .iadd, 1, 0, 0, 0, 0), (23, .iconst 1, 1, 0, 0, 0, 0), (24, .isub, 1, 0, 0, 0, 0), (25, .invokevirtual 28, 3, 13, 2, 0, 267), (28, .iinc 2 (-5), 3, 0, 0, 0, 0), 
  (31, .goto (-28), 3, 0, 0, 0, 0), (34, .return_, 1, 0, 0, 0, 0)]
/-- DropSwitch$Log <init> ()V -/
noncomputable def cd_17 : List (Nat × Ent) := [
  (0, .aload_n 0, 1, 0, 0, 0, 0), (1, .invokespecial 3, 3, 0, 1, 4, 612), (4, .aload_n 0, 1, 0, 0, 0, 0), (5, .sipush 1800, 3, 0, 0, 0, 0), (8, .newarray .int, 2, 1, 0, 0, 0), 
  (10, .putfield 9, 3, 3, 1, 12, 615), (13, .aload_n 0, 1, 0, 0, 0, 0), (14, .sipush 600, 3, 0, 0, 0, 0), (17, .newarray .int, 2, 1, 0, 0, 0), (19, .putfield 15, 3, 3, 2, 12, 616), 
  (22, .aload_n 0, 1, 0, 0, 0, 0), (23, .iconst 4, 1, 0, 0, 0, 0), (24, .newarray .int, 2, 1, 0, 0, 0), (26, .putfield 18, 3, 3, 3, 12, 617), (29, .aload_n 0, 1, 0, 0, 0, 0), 
  (30, .iconst 4, 1, 0, 0, 0, 0), (31, .newarray .int, 2, 1, 0, 0, 0), (33, .putfield 21, 3, 3, 4, 12, 619), (36, .aload_n 0, 1, 0, 0, 0, 0), (37, .iconst 4, 1, 0, 0, 0, 0), 
  (38, .newarray .int, 2, 1, 0, 0, 0), (40, .putfield 24, 3, 3, 5, 12, 620), (43, .return_, 1, 0, 0, 0, 0)]
/-- DropSwitch$Log clear ()V -/
noncomputable def cd_18 : List (Nat × Ent) := [
  (0, .aload_n 0, 1, 0, 0, 0, 0), (1, .iconst 0, 1, 0, 0, 0, 0), (2, .putfield 27, 3, 3, 0, 0, 613), (5, .aload_n 0, 1, 0, 0, 0, 0), (6, .getfield 15, 3, 3, 2, 2, 616), 
  (9, .iconst 0, 1, 0, 0, 0, 0), (10, .invokestatic 31, 3, 305, 2, 1, 718), (13, .aload_n 0, 1, 0, 0, 0, 0), (14, .getfield 18, 3, 3, 3, 2, 617), (17, .iconst 0, 1, 0, 0, 0, 0), 
  (18, .invokestatic 31, 3, 305, 2, 1, 718), (21, .aload_n 0, 1, 0, 0, 0, 0), (22, .getfield 21, 3, 3, 4, 2, 619), (25, .iconst 0, 1, 0, 0, 0, 0), 
  (26, .invokestatic 31, 3, 305, 2, 1, 718), (29, .aload_n 0, 1, 0, 0, 0, 0), (30, .getfield 24, 3, 3, 5, 2, 620), (33, .iconst (-1), 1, 0, 0, 0, 0), 
  (34, .invokestatic 31, 3, 305, 2, 1, 718), (37, .return_, 1, 0, 0, 0, 0)]
/-- DropSwitch$Log addDrop (IIIII)V -/
noncomputable def cd_19 : List (Nat × Ent) := [
  (0, .aload_n 0, 1, 0, 0, 0, 0), (1, .iload_n 2, 1, 0, 0, 0, 0), (2, .iload_n 3, 1, 0, 0, 0, 0), (3, .iconst 3, 1, 0, 0, 0, 0), (4, .invokevirtual 37, 3, 21, 4, 0, 1271), 
  (7, .aload_n 0, 1, 0, 0, 0, 0), (8, .getfield 27, 3, 3, 0, 0, 613), (11, .sipush 360, 3, 0, 0, 0, 0), (14, .if_icmp .lt 4, 3, 0, 0, 0, 0), (17, .return_, 1, 0, 0, 0, 0), 
  (18, .aload_n 0, 1, 0, 0, 0, 0), (19, .getfield 27, 3, 3, 0, 0, 613), (22, .iconst 5, 1, 0, 0, 0, 0), (23, .imul, 1, 0, 0, 0, 0), (24, .istore 6, 2, 0, 0, 0, 0), 
  (26, .aload_n 0, 1, 0, 0, 0, 0), (27, .getfield 9, 3, 3, 1, 2, 615), (30, .iload 6, 2, 0, 0, 0, 0), (32, .iconst 0, 1, 0, 0, 0, 0), (33, .iadd, 1, 0, 0, 0, 0), 
  (34, .iload_n 1, 1, 0, 0, 0, 0), (35, .iastore, 1, 0, 0, 0, 0), (36, .aload_n 0, 1, 0, 0, 0, 0), (37, .getfield 9, 3, 3, 1, 2, 615), (40, .iload 6, 2, 0, 0, 0, 0), 
  (42, .iconst 1, 1, 0, 0, 0, 0), (43, .iadd, 1, 0, 0, 0, 0), (44, .iload_n 2, 1, 0, 0, 0, 0), (45, .iastore, 1, 0, 0, 0, 0), (46, .aload_n 0, 1, 0, 0, 0, 0), 
  (47, .getfield 9, 3, 3, 1, 2, 615), (50, .iload 6, 2, 0, 0, 0, 0), (52, .iconst 2, 1, 0, 0, 0, 0), (53, .iadd, 1, 0, 0, 0, 0), (54, .iload_n 3, 1, 0, 0, 0, 0), 
  (55, .iastore, 1, 0, 0, 0, 0), (56, .aload_n 0, 1, 0, 0, 0, 0), (57, .getfield 9, 3, 3, 1, 2, 615), (60, .iload 6, 2, 0, 0, 0, 0), (62, .iconst 3, 1, 0, 0, 0, 0), 
  (63, .iadd, 1, 0, 0, 0, 0), (64, .iload 4, 2, 0, 0, 0, 0), (66, .iastore, 1, 0, 0, 0, 0), (67, .aload_n 0, 1, 0, 0, 0, 0), (68, .getfield 9, 3, 3, 1, 2, 615), 
  (71, .iload 6, 2, 0, 0, 0, 0), (73, .iconst 4, 1, 0, 0, 0, 0), (74, .iadd, 1, 0, 0, 0, 0), (75, .iload 5, 2, 0, 0, 0, 0), (77, .iastore, 1, 0, 0, 0, 0), 
  (78, .aload_n 0, 1, 0, 0, 0, 0), (79, .dup, 1, 0, 0, 0, 0), (80, .getfield 27, 3, 3, 0, 0, 613), (83, .iconst 1, 1, 0, 0, 0, 0), (84, .iadd, 1, 0, 0, 0, 0), 
  (85, .putfield 27, 3, 3, 0, 0, 613), (88, .return_, 1, 0, 0, 0, 0)]
/-- DropSwitch$Log addDelivery (II)V -/
noncomputable def cd_20 : List (Nat × Ent) := [
  (0, .aload_n 0, 1, 0, 0, 0, 0), (1, .iload_n 1, 1, 0, 0, 0, 0), (2, .iload_n 2, 1, 0, 0, 0, 0), (3, .iconst 2, 1, 0, 0, 0, 0), (4, .invokevirtual 37, 3, 21, 4, 0, 1271), 
  (7, .aload_n 0, 1, 0, 0, 0, 0), (8, .getfield 18, 3, 3, 3, 2, 617), (11, .iload_n 2, 1, 0, 0, 0, 0), (12, .dup2, 1, 0, 0, 0, 0), (13, .iaload, 1, 0, 0, 0, 0), 
  (14, .iconst 1, 1, 0, 0, 0, 0), (15, .iadd, 1, 0, 0, 0, 0), (16, .iastore, 1, 0, 0, 0, 0), (17, .return_, 1, 0, 0, 0, 0)]
/-- DropSwitch$Log setFate (III)V -/
noncomputable def cd_21 : List (Nat × Ent) := [
  (0, .iload_n 1, 1, 0, 0, 0, 0), (1, .ifCond .lt 22, 3, 0, 0, 0, 0), (4, .iload_n 1, 1, 0, 0, 0, 0), (5, .bipush 120, 2, 0, 0, 0, 0), (7, .if_icmp .ge 16, 3, 0, 0, 0, 0), 
  (10, .aload_n 0, 1, 0, 0, 0, 0), (11, .getfield 15, 3, 3, 2, 2, 616), (14, .iload_n 1, 1, 0, 0, 0, 0), (15, .iconst 5, 1, 0, 0, 0, 0), (16, .imul, 1, 0, 0, 0, 0), 
  (17, .iload_n 2, 1, 0, 0, 0, 0), (18, .iadd, 1, 0, 0, 0, 0), (19, .iconst 1, 1, 0, 0, 0, 0), (20, .iadd, 1, 0, 0, 0, 0), (21, .iload_n 3, 1, 0, 0, 0, 0), 
  (22, .iastore, 1, 0, 0, 0, 0), (23, .return_, 1, 0, 0, 0, 0)]
/-- DropSwitch$Log fateOf (II)I -/
noncomputable def cd_22 : List (Nat × Ent) := [
  (0, .aload_n 0, 1, 0, 0, 0, 0), (1, .getfield 15, 3, 3, 2, 2, 616), (4, .iload_n 1, 1, 0, 0, 0, 0), (5, .iconst 5, 1, 0, 0, 0, 0), (6, .imul, 1, 0, 0, 0, 0), 
  (7, .iload_n 2, 1, 0, 0, 0, 0), (8, .iadd, 1, 0, 0, 0, 0), (9, .iconst 1, 1, 0, 0, 0, 0), (10, .iadd, 1, 0, 0, 0, 0), (11, .iaload, 1, 0, 0, 0, 0), (12, .ireturn, 1, 0, 0, 0, 0)]
/-- DropSwitch$Log notePeaks (ILDropSwitch$State;)V -/
noncomputable def cd_23 : List (Nat × Ent) := [
  (0, .iconst 0, 1, 0, 0, 0, 0), (1, .istore_n 3, 1, 0, 0, 0, 0), (2, .iload_n 3, 1, 0, 0, 0, 0), (3, .iconst 4, 1, 0, 0, 0, 0), (4, .if_icmp .ge 43, 3, 0, 0, 0, 0), 
  (7, .aload_n 2, 1, 0, 0, 0, 0), (8, .getfield 41, 3, 7, 3, 2, 578), (11, .iload_n 3, 1, 0, 0, 0, 0), (12, .iaload, 1, 0, 0, 0, 0), (13, .aload_n 0, 1, 0, 0, 0, 0), 
  (14, .getfield 21, 3, 3, 4, 2, 619), (17, .iload_n 3, 1, 0, 0, 0, 0), (18, .iaload, 1, 0, 0, 0, 0), (19, .if_icmp .le 22, 3, 0, 0, 0, 0), (22, .aload_n 0, 1, 0, 0, 0, 0), 
  (23, .getfield 21, 3, 3, 4, 2, 619), (26, .iload_n 3, 1, 0, 0, 0, 0), (27, .aload_n 2, 1, 0, 0, 0, 0), (28, .getfield 41, 3, 7, 3, 2, 578), (31, .iload_n 3, 1, 0, 0, 0, 0), 
  (32, .iaload, 1, 0, 0, 0, 0), (33, .iastore, 1, 0, 0, 0, 0), (34, .aload_n 0, 1, 0, 0, 0, 0), (35, .getfield 24, 3, 3, 5, 2, 620), (38, .iload_n 3, 1, 0, 0, 0, 0), 
  (39, .iload_n 1, 1, 0, 0, 0, 0), (40, .iastore, 1, 0, 0, 0, 0), (41, .iinc 3 1, 3, 0, 0, 0, 0), (44, .goto (-42), 3, 0, 0, 0, 0), (47, .return_, 1, 0, 0, 0, 0)]
/-- DropSwitch$Log dropPart (II)I -/
noncomputable def cd_24 : List (Nat × Ent) := [
  (0, .aload_n 0, 1, 0, 0, 0, 0), (1, .getfield 9, 3, 3, 1, 2, 615), (4, .iload_n 1, 1, 0, 0, 0, 0), (5, .iconst 5, 1, 0, 0, 0, 0), (6, .imul, 1, 0, 0, 0, 0), 
  (7, .iload_n 2, 1, 0, 0, 0, 0), (8, .iadd, 1, 0, 0, 0, 0), (9, .iaload, 1, 0, 0, 0, 0), (10, .ireturn, 1, 0, 0, 0, 0)]
/-- DropSwitch$Log dropsWith (I)I -/
noncomputable def cd_25 : List (Nat × Ent) := [
  (0, .iconst 0, 1, 0, 0, 0, 0), (1, .istore_n 2, 1, 0, 0, 0, 0), (2, .iconst 0, 1, 0, 0, 0, 0), (3, .istore_n 3, 1, 0, 0, 0, 0), (4, .iload_n 3, 1, 0, 0, 0, 0), 
  (5, .aload_n 0, 1, 0, 0, 0, 0), (6, .getfield 27, 3, 3, 0, 0, 613), (9, .if_icmp .ge 22, 3, 0, 0, 0, 0), (12, .aload_n 0, 1, 0, 0, 0, 0), (13, .iload_n 3, 1, 0, 0, 0, 0), 
  (14, .iconst 3, 1, 0, 0, 0, 0), (15, .invokevirtual 46, 3, 24, 3, 0, 250), (18, .iload_n 1, 1, 0, 0, 0, 0), (19, .if_icmp .ne 6, 3, 0, 0, 0, 0), (22, .iinc 2 1, 3, 0, 0, 0, 0), 
  (25, .iinc 3 1, 3, 0, 0, 0, 0), (28, .goto (-24), 3, 0, 0, 0, 0), (31, .iload_n 2, 1, 0, 0, 0, 0), (32, .ireturn, 1, 0, 0, 0, 0)]
/-- DropSwitch$Log dropsWith (II)I -/
noncomputable def cd_26 : List (Nat × Ent) := [
  (0, .iconst 0, 1, 0, 0, 0, 0), (1, .istore_n 3, 1, 0, 0, 0, 0), (2, .iconst 0, 1, 0, 0, 0, 0), (3, .istore 4, 2, 0, 0, 0, 0), (5, .iload 4, 2, 0, 0, 0, 0), 
  (7, .aload_n 0, 1, 0, 0, 0, 0), (8, .getfield 27, 3, 3, 0, 0, 613), (11, .if_icmp .ge 34, 3, 0, 0, 0, 0), (14, .aload_n 0, 1, 0, 0, 0, 0), (15, .iload 4, 2, 0, 0, 0, 0), 
  (17, .iconst 3, 1, 0, 0, 0, 0), (18, .invokevirtual 46, 3, 24, 3, 0, 250), (21, .iload_n 1, 1, 0, 0, 0, 0), (22, .if_icmp .ne 17, 3, 0, 0, 0, 0), (25, .aload_n 0, 1, 0, 0, 0, 0), 
  (26, .iload 4, 2, 0, 0, 0, 0), (28, .iconst 4, 1, 0, 0, 0, 0), (29, .invokevirtual 46, 3, 24, 3, 0, 250), (32, .iload_n 2, 1, 0, 0, 0, 0), (33, .if_icmp .ne 6, 3, 0, 0, 0, 0), 
  (36, .iinc 3 1, 3, 0, 0, 0, 0), (39, .iinc 4 1, 3, 0, 0, 0, 0), (42, .goto (-37), 3, 0, 0, 0, 0), (45, .iload_n 3, 1, 0, 0, 0, 0), (46, .ireturn, 1, 0, 0, 0, 0)]
/-- DropSwitch$Reader <init> ([B)V -/
noncomputable def cd_30 : List (Nat × Ent) := [
  (0, .aload_n 0, 1, 0, 0, 0, 0), (1, .invokespecial 3, 3, 0, 1, 4, 362), (4, .aload_n 0, 1, 0, 0, 0, 0), (5, .new 9, 3, 6, 6, 0, 363), (8, .dup, 1, 0, 0, 0, 0), 
  (9, .invokespecial 11, 3, 65, 1, 2, 365), (12, .putfield 12, 3, 4, 0, 2, 461), (15, .aload_n 0, 1, 0, 0, 0, 0), (16, .iconst (-1), 1, 0, 0, 0, 0), 
  (17, .putfield 18, 3, 4, 1, 0, 463), (20, .aload_n 0, 1, 0, 0, 0, 0), (21, .iconst 0, 1, 0, 0, 0, 0), (22, .putfield 22, 3, 4, 2, 0, 465), (25, .aload_n 0, 1, 0, 0, 0, 0), 
  (26, .aload_n 1, 1, 0, 0, 0, 0), (27, .putfield 25, 3, 4, 3, 12, 467), (30, .return_, 1, 0, 0, 0, 0)]
/-- DropSwitch$Reader read (I)Z -/
noncomputable def cd_31 : List (Nat × Ent) := [
  (0, .aload_n 0, 1, 0, 0, 0, 0), (1, .iload_n 1, 1, 0, 0, 0, 0), (2, .aload_n 0, 1, 0, 0, 0, 0), (3, .getfield 25, 3, 4, 3, 2, 467), (6, .arraylength, 1, 0, 0, 0, 0), 
  (7, .invokestatic 29, 3, 0, 2, 5, 1049), (10, .putfield 35, 3, 4, 4, 0, 468), (13, .aload_n 0, 1, 0, 0, 0, 0), (14, .iconst 0, 1, 0, 0, 0, 0), (15, .putfield 38, 3, 4, 5, 0, 469), 
  (18, .aload_n 0, 1, 0, 0, 0, 0), (19, .iconst (-1), 1, 0, 0, 0, 0), (20, .putfield 18, 3, 4, 1, 0, 463), (23, .aload_n 0, 1, 0, 0, 0, 0), (24, .iconst 0, 1, 0, 0, 0, 0), 
  (25, .putfield 22, 3, 4, 2, 0, 465), (28, .aload_n 0, 1, 0, 0, 0, 0), (29, .getfield 12, 3, 4, 0, 2, 461), (32, .invokevirtual 41, 3, 66, 1, 0, 1050), 
  (35, .aload_n 0, 1, 0, 0, 0, 0), (36, .invokevirtual 44, 3, 32, 1, 0, 1051), (39, .iconst 1, 1, 0, 0, 0, 0), (40, .istore_n 2, 1, 0, 0, 0, 0), (41, .iconst 0, 1, 0, 0, 0, 0), 
  (42, .istore_n 3, 1, 0, 0, 0, 0), (43, .iload_n 3, 1, 0, 0, 0, 0), (44, .aload_n 0, 1, 0, 0, 0, 0), (45, .getfield 35, 3, 4, 4, 0, 468), (48, .if_icmp .ge 104, 3, 0, 0, 0, 0), 
  (51, .iload_n 2, 1, 0, 0, 0, 0), (52, .ifCond .eq 100, 3, 0, 0, 0, 0), (55, .aload_n 0, 1, 0, 0, 0, 0), (56, .getfield 47, 3, 4, 7, 0, 471), (59, .ifCond .eq 93, 3, 0, 0, 0, 0), 
  (62, .aload_n 0, 1, 0, 0, 0, 0), (63, .ldc 50, 2, 0, 0, 0, 1055), (65, .invokevirtual 52, 3, 34, 2, 0, 1056), (68, .ifCond .eq 11, 3, 0, 0, 0, 0), (71, .aload_n 0, 1, 0, 0, 0, 0), 
  (72, .invokevirtual 56, 3, 40, 1, 0, 1062), (75, .istore_n 2, 1, 0, 0, 0, 0), (76, .goto 51, 3, 0, 0, 0, 0), (79, .aload_n 0, 1, 0, 0, 0, 0), (80, .ldc 60, 2, 1, 0, 0, 1086), 
  (82, .invokevirtual 52, 3, 34, 2, 0, 1056), (85, .ifCond .eq 11, 3, 0, 0, 0, 0), (88, .aload_n 0, 1, 0, 0, 0, 0), (89, .invokevirtual 62, 3, 41, 1, 0, 1087), 
  (92, .istore_n 2, 1, 0, 0, 0, 0), (93, .goto 34, 3, 0, 0, 0, 0), (96, .aload_n 0, 1, 0, 0, 0, 0), (97, .ldc 65, 2, 2, 0, 0, 1091), (99, .invokevirtual 52, 3, 34, 2, 0, 1056), 
  (102, .ifCond .ne 12, 3, 0, 0, 0, 0), (105, .aload_n 0, 1, 0, 0, 0, 0), (106, .ldc 67, 2, 3, 0, 0, 1092), (108, .invokevirtual 52, 3, 34, 2, 0, 1056), 
  (111, .ifCond .eq 11, 3, 0, 0, 0, 0), (114, .aload_n 0, 1, 0, 0, 0, 0), (115, .invokevirtual 69, 3, 42, 1, 0, 1093), (118, .istore_n 2, 1, 0, 0, 0, 0), 
  (119, .goto 8, 3, 0, 0, 0, 0), (122, .aload_n 0, 1, 0, 0, 0, 0), (123, .invokevirtual 72, 3, 39, 1, 0, 1142), (126, .istore_n 2, 1, 0, 0, 0, 0), (127, .iload_n 2, 1, 0, 0, 0, 0), 
  (128, .ifCond .eq 16, 3, 0, 0, 0, 0), (131, .aload_n 0, 1, 0, 0, 0, 0), (132, .bipush 59, 2, 0, 0, 0, 0), (134, .invokevirtual 75, 3, 36, 2, 0, 1149), 
  (137, .ifCond .eq 7, 3, 0, 0, 0, 0), (140, .iconst 1, 1, 0, 0, 0, 0), (141, .goto 4, 3, 0, 0, 0, 0), (144, .iconst 0, 1, 0, 0, 0, 0), (145, .istore_n 2, 1, 0, 0, 0, 0), 
  (146, .iinc 3 1, 3, 0, 0, 0, 0), (149, .goto (-106), 3, 0, 0, 0, 0), (152, .iload_n 2, 1, 0, 0, 0, 0), (153, .ireturn, 1, 0, 0, 1, 0)]
/-- DropSwitch$Reader next ()V -/
noncomputable def cd_32 : List (Nat × Ent) := [
  (0, .aload_n 0, 1, 0, 0, 0, 0), (1, .getfield 38, 3, 4, 5, 0, 469), (4, .aload_n 0, 1, 0, 0, 0, 0), (5, .getfield 35, 3, 4, 4, 0, 468), (8, .if_icmp .ge 58, 3, 0, 0, 0, 0), 
  (11, .aload_n 0, 1, 0, 0, 0, 0), (12, .getfield 25, 3, 4, 3, 2, 467), (15, .aload_n 0, 1, 0, 0, 0, 0), (16, .getfield 38, 3, 4, 5, 0, 469), (19, .baload, 1, 0, 0, 0, 0), 
  (20, .bipush 32, 2, 0, 0, 0, 0), (22, .if_icmp .eq 31, 3, 0, 0, 0, 0), (25, .aload_n 0, 1, 0, 0, 0, 0), (26, .getfield 25, 3, 4, 3, 2, 467), (29, .aload_n 0, 1, 0, 0, 0, 0), 
  (30, .getfield 38, 3, 4, 5, 0, 469), (33, .baload, 1, 0, 0, 0, 0), (34, .bipush 9, 2, 0, 0, 0, 0), (36, .if_icmp .eq 17, 3, 0, 0, 0, 0), (39, .aload_n 0, 1, 0, 0, 0, 0), 
  (40, .getfield 25, 3, 4, 3, 2, 467), (43, .aload_n 0, 1, 0, 0, 0, 0), (44, .getfield 38, 3, 4, 5, 0, 469), (47, .baload, 1, 0, 0, 0, 0), (48, .bipush 10, 2, 0, 0, 0, 0), 
  (50, .if_icmp .ne 16, 3, 0, 0, 0, 0), (53, .aload_n 0, 1, 0, 0, 0, 0), (54, .dup, 1, 0, 0, 0, 0), (55, .getfield 38, 3, 4, 5, 0, 469), (58, .iconst 1, 1, 0, 0, 0, 0), 
  (59, .iadd, 1, 0, 0, 0, 0), (60, .putfield 38, 3, 4, 5, 0, 469), (63, .goto (-63), 3, 0, 0, 0, 0), (66, .aload_n 0, 1, 0, 0, 0, 0), (67, .aload_n 0, 1, 0, 0, 0, 0), 
  (68, .getfield 38, 3, 4, 5, 0, 469), (71, .putfield 79, 3, 4, 6, 0, 470), (74, .aload_n 0, 1, 0, 0, 0, 0), (75, .iconst 0, 1, 0, 0, 0, 0), (76, .putfield 47, 3, 4, 7, 0, 471), 
  (79, .aload_n 0, 1, 0, 0, 0, 0), (80, .getfield 38, 3, 4, 5, 0, 469), (83, .aload_n 0, 1, 0, 0, 0, 0), (84, .getfield 35, 3, 4, 4, 0, 468), (87, .if_icmp .ge 49, 3, 0, 0, 0, 0), 
  (90, .aload_n 0, 1, 0, 0, 0, 0), (91, .getfield 25, 3, 4, 3, 2, 467), (94, .aload_n 0, 1, 0, 0, 0, 0), (95, .getfield 38, 3, 4, 5, 0, 469), (98, .baload, 1, 0, 0, 0, 0), 
  (99, .bipush 97, 2, 0, 0, 0, 0), (101, .if_icmp .lt 35, 3, 0, 0, 0, 0), (104, .aload_n 0, 1, 0, 0, 0, 0), (105, .getfield 25, 3, 4, 3, 2, 467), (108, .aload_n 0, 1, 0, 0, 0, 0), 
  (109, .getfield 38, 3, 4, 5, 0, 469), (112, .baload, 1, 0, 0, 0, 0), (113, .bipush 122, 2, 0, 0, 0, 0), (115, .if_icmp .gt 21, 3, 0, 0, 0, 0), (118, .aload_n 0, 1, 0, 0, 0, 0), 
  (119, .iconst 1, 1, 0, 0, 0, 0), (120, .putfield 47, 3, 4, 7, 0, 471), (123, .aload_n 0, 1, 0, 0, 0, 0), (124, .dup, 1, 0, 0, 0, 0), (125, .getfield 38, 3, 4, 5, 0, 469), 
  (128, .iconst 1, 1, 0, 0, 0, 0), (129, .iadd, 1, 0, 0, 0, 0), (130, .putfield 38, 3, 4, 5, 0, 469), (133, .goto (-54), 3, 0, 0, 0, 0), (136, .aload_n 0, 1, 0, 0, 0, 0), 
  (137, .getfield 38, 3, 4, 5, 0, 469), (140, .aload_n 0, 1, 0, 0, 0, 0), (141, .getfield 35, 3, 4, 4, 0, 468), (144, .if_icmp .ge 57, 3, 0, 0, 0, 0), 
  (147, .aload_n 0, 1, 0, 0, 0, 0), (148, .getfield 47, 3, 4, 7, 0, 471), (151, .iconst 1, 1, 0, 0, 0, 0), (152, .if_icmp .eq 49, 3, 0, 0, 0, 0), (155, .aload_n 0, 1, 0, 0, 0, 0), 
  (156, .getfield 25, 3, 4, 3, 2, 467), (159, .aload_n 0, 1, 0, 0, 0, 0), (160, .getfield 38, 3, 4, 5, 0, 469), (163, .baload, 1, 0, 0, 0, 0), (164, .bipush 48, 2, 0, 0, 0, 0), 
  (166, .if_icmp .lt 35, 3, 0, 0, 0, 0), (169, .aload_n 0, 1, 0, 0, 0, 0), (170, .getfield 25, 3, 4, 3, 2, 467), (173, .aload_n 0, 1, 0, 0, 0, 0), 
  (174, .getfield 38, 3, 4, 5, 0, 469), (177, .baload, 1, 0, 0, 0, 0), (178, .bipush 57, 2, 0, 0, 0, 0), (180, .if_icmp .gt 21, 3, 0, 0, 0, 0), (183, .aload_n 0, 1, 0, 0, 0, 0), 
  (184, .iconst 2, 1, 0, 0, 0, 0), (185, .putfield 47, 3, 4, 7, 0, 471), (188, .aload_n 0, 1, 0, 0, 0, 0), (189, .dup, 1, 0, 0, 0, 0), (190, .getfield 38, 3, 4, 5, 0, 469), 
  (193, .iconst 1, 1, 0, 0, 0, 0), (194, .iadd, 1, 0, 0, 0, 0), (195, .putfield 38, 3, 4, 5, 0, 469), (198, .goto (-62), 3, 0, 0, 0, 0), (201, .aload_n 0, 1, 0, 0, 0, 0), 
  (202, .getfield 38, 3, 4, 5, 0, 469), (205, .aload_n 0, 1, 0, 0, 0, 0), (206, .getfield 35, 3, 4, 4, 0, 468), (209, .if_icmp .ge 25, 3, 0, 0, 0, 0), 
  (212, .aload_n 0, 1, 0, 0, 0, 0), (213, .getfield 47, 3, 4, 7, 0, 471), (216, .ifCond .ne 18, 3, 0, 0, 0, 0), (219, .aload_n 0, 1, 0, 0, 0, 0), (220, .iconst 3, 1, 0, 0, 0, 0), 
  (221, .putfield 47, 3, 4, 7, 0, 471), (224, .aload_n 0, 1, 0, 0, 0, 0), (225, .dup, 1, 0, 0, 0, 0), (226, .getfield 38, 3, 4, 5, 0, 469), (229, .iconst 1, 1, 0, 0, 0, 0), 
  (230, .iadd, 1, 0, 0, 0, 0), (231, .putfield 38, 3, 4, 5, 0, 469), (234, .return_, 1, 0, 0, 0, 0)]
/-- DropSwitch$Reader fail (I)Z -/
noncomputable def cd_33 : List (Nat × Ent) := [
  (0, .aload_n 0, 1, 0, 0, 0, 0), (1, .aload_n 0, 1, 0, 0, 0, 0), (2, .getfield 79, 3, 4, 6, 0, 470), (5, .putfield 18, 3, 4, 1, 0, 463), (8, .aload_n 0, 1, 0, 0, 0, 0), 
  (9, .iload_n 1, 1, 0, 0, 0, 0), (10, .putfield 22, 3, 4, 2, 0, 465), (13, .iconst 0, 1, 0, 0, 0, 0), (14, .ireturn, 1, 0, 0, 1, 0)]
/-- DropSwitch$Reader isWord (Ljava/lang/String;)Z -/
noncomputable def cd_34 : List (Nat × Ent) := [
  (0, .aload_n 0, 1, 0, 0, 0, 0), (1, .getfield 47, 3, 4, 7, 0, 471), (4, .iconst 1, 1, 0, 0, 0, 0), (5, .if_icmp .ne 19, 3, 0, 0, 0, 0), (8, .aload_n 0, 1, 0, 0, 0, 0), 
  (9, .getfield 38, 3, 4, 5, 0, 469), (12, .aload_n 0, 1, 0, 0, 0, 0), (13, .getfield 79, 3, 4, 6, 0, 470), (16, .isub, 1, 0, 0, 0, 0), (17, .aload_n 1, 1, 0, 0, 0, 0), 
  (18, .invokevirtual 82, 3, 299, 1, 0, 1060), (21, .if_icmp .eq 5, 3, 0, 0, 0, 0), (24, .iconst 0, 1, 0, 0, 0, 0), (25, .ireturn, 1, 0, 0, 1, 0), (26, .iconst 0, 1, 0, 0, 0, 0), 
  (27, .istore_n 2, 1, 0, 0, 0, 0), (28, .iload_n 2, 1, 0, 0, 0, 0), (29, .aload_n 1, 1, 0, 0, 0, 0), (30, .invokevirtual 82, 3, 299, 1, 0, 1060), 
  (33, .if_icmp .ge 30, 3, 0, 0, 0, 0), (36, .aload_n 0, 1, 0, 0, 0, 0), (37, .getfield 25, 3, 4, 3, 2, 467), (40, .aload_n 0, 1, 0, 0, 0, 0), (41, .getfield 79, 3, 4, 6, 0, 470), 
  (44, .iload_n 2, 1, 0, 0, 0, 0), (45, .iadd, 1, 0, 0, 0, 0), (46, .baload, 1, 0, 0, 0, 0), (47, .aload_n 1, 1, 0, 0, 0, 0), (48, .iload_n 2, 1, 0, 0, 0, 0), 
  (49, .invokevirtual 87, 3, 300, 2, 0, 1061), (52, .if_icmp .eq 5, 3, 0, 0, 0, 0), (55, .iconst 0, 1, 0, 0, 0, 0), (56, .ireturn, 1, 0, 0, 1, 0), (57, .iinc 2 1, 3, 0, 0, 0, 0), 
  (60, .goto (-32), 3, 0, 0, 0, 0), (63, .iconst 1, 1, 0, 0, 0, 0), (64, .ireturn, 1, 0, 0, 1, 0)]
/-- DropSwitch$Reader isSign (C)Z -/
noncomputable def cd_35 : List (Nat × Ent) := [
  (0, .aload_n 0, 1, 0, 0, 0, 0), (1, .getfield 47, 3, 4, 7, 0, 471), (4, .iconst 3, 1, 0, 0, 0, 0), (5, .if_icmp .ne 20, 3, 0, 0, 0, 0), (8, .aload_n 0, 1, 0, 0, 0, 0), 
  (9, .getfield 25, 3, 4, 3, 2, 467), (12, .aload_n 0, 1, 0, 0, 0, 0), (13, .getfield 79, 3, 4, 6, 0, 470), (16, .baload, 1, 0, 0, 0, 0), (17, .iload_n 1, 1, 0, 0, 0, 0), 
  (18, .if_icmp .ne 7, 3, 0, 0, 0, 0), (21, .iconst 1, 1, 0, 0, 0, 0), (22, .goto 4, 3, 0, 0, 0, 0), (25, .iconst 0, 1, 0, 0, 0, 0), (26, .ireturn, 1, 0, 0, 1, 0)]
/-- DropSwitch$Reader readSign (C)Z -/
noncomputable def cd_36 : List (Nat × Ent) := [
  (0, .aload_n 0, 1, 0, 0, 0, 0), (1, .iload_n 1, 1, 0, 0, 0, 0), (2, .invokevirtual 91, 3, 35, 2, 0, 1111), (5, .ifCond .ne 9, 3, 0, 0, 0, 0), (8, .aload_n 0, 1, 0, 0, 0, 0), 
  (9, .iconst 1, 1, 0, 0, 0, 0), (10, .invokevirtual 94, 3, 33, 2, 0, 1066), (13, .ireturn, 1, 0, 0, 1, 0), (14, .aload_n 0, 1, 0, 0, 0, 0), 
  (15, .invokevirtual 44, 3, 32, 1, 0, 1051), (18, .iconst 1, 1, 0, 0, 0, 0), (19, .ireturn, 1, 0, 0, 1, 0)]
/-- DropSwitch$Reader readNumber (II)Z -/
noncomputable def cd_37 : List (Nat × Ent) := [
  (0, .aload_n 0, 1, 0, 0, 0, 0), (1, .getfield 47, 3, 4, 7, 0, 471), (4, .iconst 2, 1, 0, 0, 0, 0), (5, .if_icmp .eq 9, 3, 0, 0, 0, 0), (8, .aload_n 0, 1, 0, 0, 0, 0), 
  (9, .iconst 1, 1, 0, 0, 0, 0), (10, .invokevirtual 94, 3, 33, 2, 0, 1066), (13, .ireturn, 1, 0, 0, 1, 0), (14, .aload_n 0, 1, 0, 0, 0, 0), (15, .getfield 38, 3, 4, 5, 0, 469), 
  (18, .aload_n 0, 1, 0, 0, 0, 0), (19, .getfield 79, 3, 4, 6, 0, 470), (22, .isub, 1, 0, 0, 0, 0), (23, .iconst 3, 1, 0, 0, 0, 0), (24, .if_icmp .le 9, 3, 0, 0, 0, 0), 
  (27, .aload_n 0, 1, 0, 0, 0, 0), (28, .iconst 2, 1, 0, 0, 0, 0), (29, .invokevirtual 94, 3, 33, 2, 0, 1066), (32, .ireturn, 1, 0, 0, 1, 0), (33, .aload_n 0, 1, 0, 0, 0, 0), 
  (34, .iconst 0, 1, 0, 0, 0, 0), (35, .putfield 98, 3, 4, 10, 0, 474), (38, .aload_n 0, 1, 0, 0, 0, 0), (39, .getfield 79, 3, 4, 6, 0, 470), (42, .istore_n 3, 1, 0, 0, 0, 0), 
  (43, .iload_n 3, 1, 0, 0, 0, 0), (44, .aload_n 0, 1, 0, 0, 0, 0), (45, .getfield 38, 3, 4, 5, 0, 469), (48, .if_icmp .ge 30, 3, 0, 0, 0, 0), (51, .aload_n 0, 1, 0, 0, 0, 0), 
  (52, .aload_n 0, 1, 0, 0, 0, 0), (53, .getfield 98, 3, 4, 10, 0, 474), (56, .bipush 10, 2, 0, 0, 0, 0), (58, .imul, 1, 0, 0, 0, 0), (59, .aload_n 0, 1, 0, 0, 0, 0), 
  (60, .getfield 25, 3, 4, 3, 2, 467), (63, .iload_n 3, 1, 0, 0, 0, 0), (64, .baload, 1, 0, 0, 0, 0), (65, .iadd, 1, 0, 0, 0, 0), (66, .bipush 48, 2, 0, 0, 0, 0), 
  (68, .isub, 1, 0, 0, 0, 0), (69, .putfield 98, 3, 4, 10, 0, 474), (72, .iinc 3 1, 3, 0, 0, 0, 0), (75, .goto (-32), 3, 0, 0, 0, 0), (78, .aload_n 0, 1, 0, 0, 0, 0), 
  (79, .getfield 98, 3, 4, 10, 0, 474), (82, .iload_n 1, 1, 0, 0, 0, 0), (83, .if_icmp .lt 11, 3, 0, 0, 0, 0), (86, .aload_n 0, 1, 0, 0, 0, 0), (87, .getfield 98, 3, 4, 10, 0, 474), 
  (90, .iload_n 2, 1, 0, 0, 0, 0), (91, .if_icmp .le 9, 3, 0, 0, 0, 0), (94, .aload_n 0, 1, 0, 0, 0, 0), (95, .iconst 2, 1, 0, 0, 0, 0), (96, .invokevirtual 94, 3, 33, 2, 0, 1066), 
  (99, .ireturn, 1, 0, 0, 1, 0), (100, .aload_n 0, 1, 0, 0, 0, 0), (101, .invokevirtual 44, 3, 32, 1, 0, 1051), (104, .iconst 1, 1, 0, 0, 0, 0), (105, .ireturn, 1, 0, 0, 1, 0)]
/-- DropSwitch$Reader readName (Z)Z -/
noncomputable def cd_38 : List (Nat × Ent) := [
  (0, .aload_n 0, 1, 0, 0, 0, 0), (1, .getfield 47, 3, 4, 7, 0, 471), (4, .iconst 1, 1, 0, 0, 0, 0), (5, .if_icmp .ne 17, 3, 0, 0, 0, 0), (8, .aload_n 0, 1, 0, 0, 0, 0), 
  (9, .getfield 38, 3, 4, 5, 0, 469), (12, .aload_n 0, 1, 0, 0, 0, 0), (13, .getfield 79, 3, 4, 6, 0, 470), (16, .isub, 1, 0, 0, 0, 0), (17, .bipush 6, 2, 0, 0, 0, 0), 
  (19, .if_icmp .le 9, 3, 0, 0, 0, 0), (22, .aload_n 0, 1, 0, 0, 0, 0), (23, .iconst 1, 1, 0, 0, 0, 0), (24, .invokevirtual 94, 3, 33, 2, 0, 1066), (27, .ireturn, 1, 0, 0, 1, 0), 
  (28, .aload_n 0, 1, 0, 0, 0, 0), (29, .iconst 0, 1, 0, 0, 0, 0), (30, .putfield 103, 3, 4, 8, 0, 472), (33, .aload_n 0, 1, 0, 0, 0, 0), (34, .getfield 79, 3, 4, 6, 0, 470), 
  (37, .istore_n 2, 1, 0, 0, 0, 0), (38, .iload_n 2, 1, 0, 0, 0, 0), (39, .aload_n 0, 1, 0, 0, 0, 0), (40, .getfield 38, 3, 4, 5, 0, 469), (43, .if_icmp .ge 31, 3, 0, 0, 0, 0), 
  (46, .aload_n 0, 1, 0, 0, 0, 0), (47, .aload_n 0, 1, 0, 0, 0, 0), (48, .getfield 103, 3, 4, 8, 0, 472), (51, .iconst 5, 1, 0, 0, 0, 0), (52, .ishl, 1, 0, 0, 0, 0), 
  (53, .aload_n 0, 1, 0, 0, 0, 0), (54, .getfield 25, 3, 4, 3, 2, 467), (57, .iload_n 2, 1, 0, 0, 0, 0), (58, .baload, 1, 0, 0, 0, 0), (59, .bipush 97, 2, 0, 0, 0, 0), 
  (61, .isub, 1, 0, 0, 0, 0), (62, .iconst 1, 1, 0, 0, 0, 0), (63, .iadd, 1, 0, 0, 0, 0), (64, .ior, 1, 0, 0, 0, 0), (65, .putfield 103, 3, 4, 8, 0, 472), 
  (68, .iinc 2 1, 3, 0, 0, 0, 0), (71, .goto (-33), 3, 0, 0, 0, 0), (74, .aload_n 0, 1, 0, 0, 0, 0), (75, .aload_n 0, 1, 0, 0, 0, 0), (76, .getfield 12, 3, 4, 0, 2, 461), 
  (79, .aload_n 0, 1, 0, 0, 0, 0), (80, .getfield 103, 3, 4, 8, 0, 472), (83, .invokevirtual 106, 3, 68, 2, 0, 1074), (86, .putfield 110, 3, 4, 9, 0, 473), 
  (89, .iload_n 1, 1, 0, 0, 0, 0), (90, .ifCond .eq 14, 3, 0, 0, 0, 0), (93, .aload_n 0, 1, 0, 0, 0, 0), (94, .getfield 110, 3, 4, 9, 0, 473), (97, .iconst (-1), 1, 0, 0, 0, 0), 
  (98, .if_icmp .eq 20, 3, 0, 0, 0, 0), (101, .goto 11, 3, 0, 0, 0, 0), (104, .aload_n 0, 1, 0, 0, 0, 0), (105, .getfield 110, 3, 4, 9, 0, 473), (108, .iconst (-1), 1, 0, 0, 0, 0), 
  (109, .if_icmp .ne 9, 3, 0, 0, 0, 0), (112, .aload_n 0, 1, 0, 0, 0, 0), (113, .iconst 3, 1, 0, 0, 0, 0), (114, .invokevirtual 94, 3, 33, 2, 0, 1066), (117, .ireturn, 1, 0, 0, 1, 0), 
  (118, .aload_n 0, 1, 0, 0, 0, 0), (119, .invokevirtual 44, 3, 32, 1, 0, 1051), (122, .iconst 1, 1, 0, 0, 0, 0), (123, .ireturn, 1, 0, 0, 1, 0)]
/-- DropSwitch$Reader readLimit ()Z -/
noncomputable def cd_39 : List (Nat × Ent) := [
  (0, .aload_n 0, 1, 0, 0, 0, 0), (1, .ldc 112, 2, 14, 0, 0, 1146), (3, .invokevirtual 52, 3, 34, 2, 0, 1056), (6, .ifCond .eq 36, 3, 0, 0, 0, 0), (9, .aload_n 0, 1, 0, 0, 0, 0), 
  (10, .invokevirtual 44, 3, 32, 1, 0, 1051), (13, .aload_n 0, 1, 0, 0, 0, 0), (14, .iconst 1, 1, 0, 0, 0, 0), (15, .sipush 400, 3, 0, 0, 0, 0), 
  (18, .invokevirtual 114, 3, 37, 3, 0, 1078), (21, .ifCond .ne 5, 3, 0, 0, 0, 0), (24, .iconst 0, 1, 0, 0, 0, 0), (25, .ireturn, 1, 0, 0, 1, 0), (26, .aload_n 0, 1, 0, 0, 0, 0), 
  (27, .getfield 12, 3, 4, 0, 2, 461), (30, .getfield 118, 3, 6, 0, 2, 440), (33, .aload_n 0, 1, 0, 0, 0, 0), (34, .getfield 98, 3, 4, 10, 0, 474), 
  (37, .putfield 122, 3, 1, 5, 0, 397), (40, .iconst 1, 1, 0, 0, 0, 0), (41, .ireturn, 1, 0, 0, 1, 0), (42, .aload_n 0, 1, 0, 0, 0, 0), (43, .ldc 126, 2, 15, 0, 0, 1147), 
  (45, .invokevirtual 52, 3, 34, 2, 0, 1056), (48, .ifCond .eq 36, 3, 0, 0, 0, 0), (51, .aload_n 0, 1, 0, 0, 0, 0), (52, .invokevirtual 44, 3, 32, 1, 0, 1051), 
  (55, .aload_n 0, 1, 0, 0, 0, 0), (56, .iconst 0, 1, 0, 0, 0, 0), (57, .sipush 999, 3, 0, 0, 0, 0), (60, .invokevirtual 114, 3, 37, 3, 0, 1078), (63, .ifCond .ne 5, 3, 0, 0, 0, 0), 
  (66, .iconst 0, 1, 0, 0, 0, 0), (67, .ireturn, 1, 0, 0, 1, 0), (68, .aload_n 0, 1, 0, 0, 0, 0), (69, .getfield 12, 3, 4, 0, 2, 461), (72, .getfield 118, 3, 6, 0, 2, 440), 
  (75, .aload_n 0, 1, 0, 0, 0, 0), (76, .getfield 98, 3, 4, 10, 0, 474), (79, .putfield 128, 3, 1, 7, 0, 403), (82, .iconst 1, 1, 0, 0, 0, 0), (83, .ireturn, 1, 0, 0, 1, 0), 
  (84, .aload_n 0, 1, 0, 0, 0, 0), (85, .ldc 130, 2, 16, 0, 0, 1148), (87, .invokevirtual 52, 3, 34, 2, 0, 1056), (90, .ifCond .eq 35, 3, 0, 0, 0, 0), (93, .aload_n 0, 1, 0, 0, 0, 0), 
  (94, .invokevirtual 44, 3, 32, 1, 0, 1051), (97, .aload_n 0, 1, 0, 0, 0, 0), (98, .iconst 1, 1, 0, 0, 0, 0), (99, .bipush 99, 2, 0, 0, 0, 0), 
  (101, .invokevirtual 114, 3, 37, 3, 0, 1078), (104, .ifCond .ne 5, 3, 0, 0, 0, 0), (107, .iconst 0, 1, 0, 0, 0, 0), (108, .ireturn, 1, 0, 0, 1, 0), (109, .aload_n 0, 1, 0, 0, 0, 0), 
  (110, .getfield 12, 3, 4, 0, 2, 461), (113, .getfield 118, 3, 6, 0, 2, 440), (116, .aload_n 0, 1, 0, 0, 0, 0), (117, .getfield 98, 3, 4, 10, 0, 474), 
  (120, .putfield 132, 3, 1, 6, 0, 399), (123, .iconst 1, 1, 0, 0, 0, 0), (124, .ireturn, 1, 0, 0, 1, 0), (125, .aload_n 0, 1, 0, 0, 0, 0), (126, .iconst 1, 1, 0, 0, 0, 0), 
  (127, .invokevirtual 94, 3, 33, 2, 0, 1066), (130, .ireturn, 1, 0, 0, 1, 0)]
/-- DropSwitch$Reader readPort ()Z -/
noncomputable def cd_40 : List (Nat × Ent) := [
  (0, .aload_n 0, 1, 0, 0, 0, 0), (1, .getfield 12, 3, 4, 0, 2, 461), (4, .getfield 118, 3, 6, 0, 2, 440), (7, .getfield 134, 3, 1, 0, 0, 379), (10, .iconst 4, 1, 0, 0, 0, 0), 
  (11, .if_icmp .lt 9, 3, 0, 0, 0, 0), (14, .aload_n 0, 1, 0, 0, 0, 0), (15, .iconst 4, 1, 0, 0, 0, 0), (16, .invokevirtual 94, 3, 33, 2, 0, 1066), (19, .ireturn, 1, 0, 0, 1, 0), 
  (20, .aload_n 0, 1, 0, 0, 0, 0), (21, .invokevirtual 44, 3, 32, 1, 0, 1051), (24, .aload_n 0, 1, 0, 0, 0, 0), (25, .iconst 1, 1, 0, 0, 0, 0), 
  (26, .invokevirtual 137, 3, 38, 2, 0, 1070), (29, .ifCond .eq 13, 3, 0, 0, 0, 0), (32, .aload_n 0, 1, 0, 0, 0, 0), (33, .iconst 1, 1, 0, 0, 0, 0), (34, .bipush 99, 2, 0, 0, 0, 0), 
  (36, .invokevirtual 114, 3, 37, 3, 0, 1078), (39, .ifCond .ne 5, 3, 0, 0, 0, 0), (42, .iconst 0, 1, 0, 0, 0, 0), (43, .ireturn, 1, 0, 0, 1, 0), (44, .aload_n 0, 1, 0, 0, 0, 0), 
  (45, .getfield 98, 3, 4, 10, 0, 474), (48, .istore_n 1, 1, 0, 0, 0, 0), (49, .aload_n 0, 1, 0, 0, 0, 0), (50, .iconst 0, 1, 0, 0, 0, 0), (51, .bipush 9, 2, 0, 0, 0, 0), 
  (53, .invokevirtual 114, 3, 37, 3, 0, 1078), (56, .ifCond .ne 5, 3, 0, 0, 0, 0), (59, .iconst 0, 1, 0, 0, 0, 0), (60, .ireturn, 1, 0, 0, 1, 0), (61, .aload_n 0, 1, 0, 0, 0, 0), 
  (62, .getfield 12, 3, 4, 0, 2, 461), (65, .aload_n 0, 1, 0, 0, 0, 0), (66, .getfield 103, 3, 4, 8, 0, 472), (69, .iload_n 1, 1, 0, 0, 0, 0), (70, .aload_n 0, 1, 0, 0, 0, 0), 
  (71, .getfield 98, 3, 4, 10, 0, 474), (74, .invokevirtual 141, 3, 67, 4, 0, 1082), (77, .iconst 1, 1, 0, 0, 0, 0), (78, .ireturn, 1, 0, 0, 1, 0)]
/-- DropSwitch$Reader readPolicer ()Z -/
noncomputable def cd_41 : List (Nat × Ent) := [
  (0, .aload_n 0, 1, 0, 0, 0, 0), (1, .invokevirtual 44, 3, 32, 1, 0, 1051), (4, .aload_n 0, 1, 0, 0, 0, 0), (5, .iconst 0, 1, 0, 0, 0, 0), (6, .invokevirtual 137, 3, 38, 2, 0, 1070), 
  (9, .ifCond .eq 13, 3, 0, 0, 0, 0), (12, .aload_n 0, 1, 0, 0, 0, 0), (13, .iconst 0, 1, 0, 0, 0, 0), (14, .bipush 99, 2, 0, 0, 0, 0), (16, .invokevirtual 114, 3, 37, 3, 0, 1078), 
  (19, .ifCond .ne 5, 3, 0, 0, 0, 0), (22, .iconst 0, 1, 0, 0, 0, 0), (23, .ireturn, 1, 0, 0, 1, 0), (24, .aload_n 0, 1, 0, 0, 0, 0), (25, .getfield 98, 3, 4, 10, 0, 474), 
  (28, .istore_n 1, 1, 0, 0, 0, 0), (29, .aload_n 0, 1, 0, 0, 0, 0), (30, .iconst 0, 1, 0, 0, 0, 0), (31, .bipush 99, 2, 0, 0, 0, 0), (33, .invokevirtual 114, 3, 37, 3, 0, 1078), 
  (36, .ifCond .ne 5, 3, 0, 0, 0, 0), (39, .iconst 0, 1, 0, 0, 0, 0), (40, .ireturn, 1, 0, 0, 1, 0), (41, .aload_n 0, 1, 0, 0, 0, 0), (42, .getfield 12, 3, 4, 0, 2, 461), 
  (45, .getfield 118, 3, 6, 0, 2, 440), (48, .getfield 145, 3, 1, 3, 2, 388), (51, .aload_n 0, 1, 0, 0, 0, 0), (52, .getfield 110, 3, 4, 9, 0, 473), (55, .iload_n 1, 1, 0, 0, 0, 0), 
  (56, .iastore, 1, 0, 0, 0, 0), (57, .aload_n 0, 1, 0, 0, 0, 0), (58, .getfield 12, 3, 4, 0, 2, 461), (61, .getfield 118, 3, 6, 0, 2, 440), (64, .getfield 149, 3, 1, 4, 2, 393), 
  (67, .aload_n 0, 1, 0, 0, 0, 0), (68, .getfield 110, 3, 4, 9, 0, 473), (71, .aload_n 0, 1, 0, 0, 0, 0), (72, .getfield 98, 3, 4, 10, 0, 474), (75, .iastore, 1, 0, 0, 0, 0), 
  (76, .iconst 1, 1, 0, 0, 0, 0), (77, .ireturn, 1, 0, 0, 1, 0)]
/-- DropSwitch$Reader readRule ()Z -/
noncomputable def cd_42 : List (Nat × Ent) := [
  (0, .aload_n 0, 1, 0, 0, 0, 0), (1, .getfield 12, 3, 4, 0, 2, 461), (4, .getfield 152, 3, 6, 2, 0, 444), (7, .bipush 8, 2, 0, 0, 0, 0), (9, .if_icmp .lt 9, 3, 0, 0, 0, 0), 
  (12, .aload_n 0, 1, 0, 0, 0, 0), (13, .iconst 4, 1, 0, 0, 0, 0), (14, .invokevirtual 94, 3, 33, 2, 0, 1066), (17, .ireturn, 1, 0, 0, 1, 0), (18, .aload_n 0, 1, 0, 0, 0, 0), 
  (19, .ldc 67, 2, 3, 0, 0, 1092), (21, .invokevirtual 52, 3, 34, 2, 0, 1056), (24, .istore_n 1, 1, 0, 0, 0, 0), (25, .aload_n 0, 1, 0, 0, 0, 0), 
  (26, .invokevirtual 44, 3, 32, 1, 0, 1051), (29, .aload_n 0, 1, 0, 0, 0, 0), (30, .ldc 155, 2, 4, 0, 0, 1097), (32, .invokevirtual 52, 3, 34, 2, 0, 1056), 
  (35, .ifCond .ne 9, 3, 0, 0, 0, 0), (38, .aload_n 0, 1, 0, 0, 0, 0), (39, .iconst 1, 1, 0, 0, 0, 0), (40, .invokevirtual 94, 3, 33, 2, 0, 1066), (43, .ireturn, 1, 0, 0, 1, 0), 
  (44, .aload_n 0, 1, 0, 0, 0, 0), (45, .invokevirtual 44, 3, 32, 1, 0, 1051), (48, .aload_n 0, 1, 0, 0, 0, 0), (49, .iconst 0, 1, 0, 0, 0, 0), 
  (50, .invokevirtual 157, 3, 43, 2, 0, 1098), (53, .ifCond .ne 5, 3, 0, 0, 0, 0), (56, .iconst 0, 1, 0, 0, 0, 0), (57, .ireturn, 1, 0, 0, 1, 0), (58, .aload_n 0, 1, 0, 0, 0, 0), 
  (59, .getfield 12, 3, 4, 0, 2, 461), (62, .iload_n 1, 1, 0, 0, 0, 0), (63, .invokevirtual 160, 3, 71, 2, 0, 1138), (66, .iconst 1, 1, 0, 0, 0, 0), (67, .ireturn, 1, 0, 0, 1, 0)]
/-- DropSwitch$Reader readCondition (I)Z -/
noncomputable def cd_43 : List (Nat × Ent) := [
  (0, .aload_n 0, 1, 0, 0, 0, 0), (1, .iload_n 1, 1, 0, 0, 0, 0), (2, .invokevirtual 164, 3, 44, 2, 0, 1102), (5, .ifCond .ne 5, 3, 0, 0, 0, 0), (8, .iconst 0, 1, 0, 0, 0, 0), 
  (9, .ireturn, 1, 0, 0, 1, 0), (10, .iconst 0, 1, 0, 0, 0, 0), (11, .istore_n 2, 1, 0, 0, 0, 0), (12, .iload_n 2, 1, 0, 0, 0, 0), (13, .aload_n 0, 1, 0, 0, 0, 0), 
  (14, .getfield 35, 3, 4, 4, 0, 468), (17, .if_icmp .ge 41, 3, 0, 0, 0, 0), (20, .aload_n 0, 1, 0, 0, 0, 0), (21, .ldc 167, 2, 13, 0, 0, 1137), 
  (23, .invokevirtual 52, 3, 34, 2, 0, 1056), (26, .ifCond .eq 32, 3, 0, 0, 0, 0), (29, .aload_n 0, 1, 0, 0, 0, 0), (30, .invokevirtual 44, 3, 32, 1, 0, 1051), 
  (33, .aload_n 0, 1, 0, 0, 0, 0), (34, .iload_n 1, 1, 0, 0, 0, 0), (35, .invokevirtual 164, 3, 44, 2, 0, 1102), (38, .ifCond .ne 5, 3, 0, 0, 0, 0), (41, .iconst 0, 1, 0, 0, 0, 0), 
  (42, .ireturn, 1, 0, 0, 1, 0), (43, .aload_n 0, 1, 0, 0, 0, 0), (44, .getfield 12, 3, 4, 0, 2, 461), (47, .iconst 2, 1, 0, 0, 0, 0), (48, .iconst 0, 1, 0, 0, 0, 0), 
  (49, .invokevirtual 169, 3, 70, 3, 0, 1119), (52, .iinc 2 1, 3, 0, 0, 0, 0), (55, .goto (-43), 3, 0, 0, 0, 0), (58, .iconst 1, 1, 0, 0, 0, 0), (59, .ireturn, 1, 0, 0, 1, 0)]
/-- DropSwitch$Reader readAll (I)Z -/
noncomputable def cd_44 : List (Nat × Ent) := [
  (0, .aload_n 0, 1, 0, 0, 0, 0), (1, .iload_n 1, 1, 0, 0, 0, 0), (2, .invokevirtual 173, 3, 45, 2, 0, 1106), (5, .ifCond .ne 5, 3, 0, 0, 0, 0), (8, .iconst 0, 1, 0, 0, 0, 0), 
  (9, .ireturn, 1, 0, 0, 1, 0), (10, .iconst 0, 1, 0, 0, 0, 0), (11, .istore_n 2, 1, 0, 0, 0, 0), (12, .iload_n 2, 1, 0, 0, 0, 0), (13, .aload_n 0, 1, 0, 0, 0, 0), 
  (14, .getfield 35, 3, 4, 4, 0, 468), (17, .if_icmp .ge 41, 3, 0, 0, 0, 0), (20, .aload_n 0, 1, 0, 0, 0, 0), (21, .ldc 176, 2, 12, 0, 0, 1136), 
  (23, .invokevirtual 52, 3, 34, 2, 0, 1056), (26, .ifCond .eq 32, 3, 0, 0, 0, 0), (29, .aload_n 0, 1, 0, 0, 0, 0), (30, .invokevirtual 44, 3, 32, 1, 0, 1051), 
  (33, .aload_n 0, 1, 0, 0, 0, 0), (34, .iload_n 1, 1, 0, 0, 0, 0), (35, .invokevirtual 173, 3, 45, 2, 0, 1106), (38, .ifCond .ne 5, 3, 0, 0, 0, 0), (41, .iconst 0, 1, 0, 0, 0, 0), 
  (42, .ireturn, 1, 0, 0, 1, 0), (43, .aload_n 0, 1, 0, 0, 0, 0), (44, .getfield 12, 3, 4, 0, 2, 461), (47, .iconst 1, 1, 0, 0, 0, 0), (48, .iconst 0, 1, 0, 0, 0, 0), 
  (49, .invokevirtual 169, 3, 70, 3, 0, 1119), (52, .iinc 2 1, 3, 0, 0, 0, 0), (55, .goto (-43), 3, 0, 0, 0, 0), (58, .iconst 1, 1, 0, 0, 0, 0), (59, .ireturn, 1, 0, 0, 1, 0)]
/-- DropSwitch$Reader readAtom (I)Z -/
noncomputable def cd_45 : List (Nat × Ent) := [
  (0, .aload_n 0, 1, 0, 0, 0, 0), (1, .ldc 178, 2, 5, 0, 0, 1110), (3, .invokevirtual 52, 3, 34, 2, 0, 1056), (6, .ifCond .ne 12, 3, 0, 0, 0, 0), (9, .aload_n 0, 1, 0, 0, 0, 0), 
  (10, .bipush 40, 2, 0, 0, 0, 0), (12, .invokevirtual 91, 3, 35, 2, 0, 1111), (15, .ifCond .eq 9, 3, 0, 0, 0, 0), (18, .aload_n 0, 1, 0, 0, 0, 0), (19, .iload_n 1, 1, 0, 0, 0, 0), 
  (20, .invokevirtual 180, 3, 47, 2, 0, 1115), (23, .ireturn, 1, 0, 0, 1, 0), (24, .aload_n 0, 1, 0, 0, 0, 0), (25, .invokevirtual 183, 3, 46, 1, 0, 1123), 
  (28, .istore_n 2, 1, 0, 0, 0, 0), (29, .iload_n 2, 1, 0, 0, 0, 0), (30, .iconst (-1), 1, 0, 0, 0, 0), (31, .if_icmp .ne 9, 3, 0, 0, 0, 0), (34, .aload_n 0, 1, 0, 0, 0, 0), 
  (35, .iconst 1, 1, 0, 0, 0, 0), (36, .invokevirtual 94, 3, 33, 2, 0, 1066), (39, .ireturn, 1, 0, 0, 1, 0), (40, .aload_n 0, 1, 0, 0, 0, 0), 
  (41, .invokevirtual 44, 3, 32, 1, 0, 1051), (44, .iconst 0, 1, 0, 0, 0, 0), (45, .istore_n 3, 1, 0, 0, 0, 0), (46, .iload_n 2, 1, 0, 0, 0, 0), (47, .iconst 4, 1, 0, 0, 0, 0), 
  (48, .if_icmp .ne 21, 3, 0, 0, 0, 0), (51, .aload_n 0, 1, 0, 0, 0, 0), (52, .iconst 0, 1, 0, 0, 0, 0), (53, .invokevirtual 137, 3, 38, 2, 0, 1070), 
  (56, .ifCond .ne 5, 3, 0, 0, 0, 0), (59, .iconst 0, 1, 0, 0, 0, 0), (60, .ireturn, 1, 0, 0, 1, 0), (61, .aload_n 0, 1, 0, 0, 0, 0), (62, .getfield 110, 3, 4, 9, 0, 473), 
  (65, .istore_n 3, 1, 0, 0, 0, 0), (66, .goto 84, 3, 0, 0, 0, 0), (69, .iload_n 2, 1, 0, 0, 0, 0), (70, .iconst 3, 1, 0, 0, 0, 0), (71, .if_icmp .eq 79, 3, 0, 0, 0, 0), 
  (74, .aload_n 0, 1, 0, 0, 0, 0), (75, .bipush 60, 2, 0, 0, 0, 0), (77, .invokevirtual 91, 3, 35, 2, 0, 1111), (80, .ifCond .eq 7, 3, 0, 0, 0, 0), (83, .iconst (-1), 1, 0, 0, 0, 0), 
  (84, .goto 17, 3, 0, 0, 0, 0), (87, .aload_n 0, 1, 0, 0, 0, 0), (88, .bipush 62, 2, 0, 0, 0, 0), (90, .invokevirtual 91, 3, 35, 2, 0, 1111), (93, .ifCond .eq 7, 3, 0, 0, 0, 0), 
  (96, .iconst 1, 1, 0, 0, 0, 0), (97, .goto 4, 3, 0, 0, 0, 0), (100, .iconst 0, 1, 0, 0, 0, 0), (101, .istore 4, 2, 0, 0, 0, 0), (103, .iload 4, 2, 0, 0, 0, 0), 
  (105, .ifCond .ne 18, 3, 0, 0, 0, 0), (108, .aload_n 0, 1, 0, 0, 0, 0), (109, .bipush 61, 2, 0, 0, 0, 0), (111, .invokevirtual 91, 3, 35, 2, 0, 1111), 
  (114, .ifCond .ne 9, 3, 0, 0, 0, 0), (117, .aload_n 0, 1, 0, 0, 0, 0), (118, .iconst 1, 1, 0, 0, 0, 0), (119, .invokevirtual 94, 3, 33, 2, 0, 1066), (122, .ireturn, 1, 0, 0, 1, 0), 
  (123, .aload_n 0, 1, 0, 0, 0, 0), (124, .invokevirtual 44, 3, 32, 1, 0, 1051), (127, .aload_n 0, 1, 0, 0, 0, 0), (128, .iconst 0, 1, 0, 0, 0, 0), (129, .sipush 999, 3, 0, 0, 0, 0), 
  (132, .invokevirtual 114, 3, 37, 3, 0, 1078), (135, .ifCond .ne 5, 3, 0, 0, 0, 0), (138, .iconst 0, 1, 0, 0, 0, 0), (139, .ireturn, 1, 0, 0, 1, 0), (140, .iload 4, 2, 0, 0, 0, 0), 
  (142, .aload_n 0, 1, 0, 0, 0, 0), (143, .getfield 98, 3, 4, 10, 0, 474), (146, .invokestatic 186, 3, 75, 2, 1, 1133), (149, .istore_n 3, 1, 0, 0, 0, 0), 
  (150, .aload_n 0, 1, 0, 0, 0, 0), (151, .getfield 12, 3, 4, 0, 2, 461), (154, .iload_n 2, 1, 0, 0, 0, 0), (155, .iload_n 3, 1, 0, 0, 0, 0), 
  (156, .invokevirtual 169, 3, 70, 3, 0, 1119), (159, .iconst 1, 1, 0, 0, 0, 0), (160, .ireturn, 1, 0, 0, 1, 0)]
/-- DropSwitch$Reader atomKind ()I -/
noncomputable def cd_46 : List (Nat × Ent) := [
  (0, .aload_n 0, 1, 0, 0, 0, 0), (1, .ldc 189, 2, 6, 0, 0, 1127), (3, .invokevirtual 52, 3, 34, 2, 0, 1056), (6, .ifCond .eq 7, 3, 0, 0, 0, 0), (9, .iconst 3, 1, 0, 0, 0, 0), 
  (10, .goto 72, 3, 0, 0, 0, 0), (13, .aload_n 0, 1, 0, 0, 0, 0), (14, .ldc 191, 2, 7, 0, 0, 1128), (16, .invokevirtual 52, 3, 34, 2, 0, 1056), (19, .ifCond .eq 7, 3, 0, 0, 0, 0), 
  (22, .iconst 4, 1, 0, 0, 0, 0), (23, .goto 59, 3, 0, 0, 0, 0), (26, .aload_n 0, 1, 0, 0, 0, 0), (27, .ldc 192, 2, 8, 0, 0, 1129), (29, .invokevirtual 52, 3, 34, 2, 0, 1056), 
  (32, .ifCond .eq 7, 3, 0, 0, 0, 0), (35, .iconst 5, 1, 0, 0, 0, 0), (36, .goto 46, 3, 0, 0, 0, 0), (39, .aload_n 0, 1, 0, 0, 0, 0), (40, .ldc 194, 2, 9, 0, 0, 1130), 
  (42, .invokevirtual 52, 3, 34, 2, 0, 1056), (45, .ifCond .eq 8, 3, 0, 0, 0, 0), (48, .bipush 6, 2, 0, 0, 0, 0), (50, .goto 32, 3, 0, 0, 0, 0), (53, .aload_n 0, 1, 0, 0, 0, 0), 
  (54, .ldc 196, 2, 10, 0, 0, 1131), (56, .invokevirtual 52, 3, 34, 2, 0, 1056), (59, .ifCond .eq 8, 3, 0, 0, 0, 0), (62, .bipush 7, 2, 0, 0, 0, 0), (64, .goto 18, 3, 0, 0, 0, 0), 
  (67, .aload_n 0, 1, 0, 0, 0, 0), (68, .ldc 198, 2, 11, 0, 0, 1132), (70, .invokevirtual 52, 3, 34, 2, 0, 1056), (73, .ifCond .eq 8, 3, 0, 0, 0, 0), (76, .bipush 8, 2, 0, 0, 0, 0), 
  (78, .goto 4, 3, 0, 0, 0, 0), (81, .iconst (-1), 1, 0, 0, 0, 0), (82, .ireturn, 1, 0, 0, 0, 0)]
/-- DropSwitch$Reader readNested (I)Z -/
noncomputable def cd_47 : List (Nat × Ent) := [
  (0, .iload_n 1, 1, 0, 0, 0, 0), (1, .iconst 5, 1, 0, 0, 0, 0), (2, .if_icmp .lt 9, 3, 0, 0, 0, 0), (5, .aload_n 0, 1, 0, 0, 0, 0), (6, .iconst 4, 1, 0, 0, 0, 0), 
  (7, .invokevirtual 94, 3, 33, 2, 0, 1066), (10, .ireturn, 1, 0, 0, 1, 0), (11, .aload_n 0, 1, 0, 0, 0, 0), (12, .ldc 178, 2, 5, 0, 0, 1110), 
  (14, .invokevirtual 52, 3, 34, 2, 0, 1056), (17, .istore_n 2, 1, 0, 0, 0, 0), (18, .aload_n 0, 1, 0, 0, 0, 0), (19, .invokevirtual 44, 3, 32, 1, 0, 1051), 
  (22, .iload_n 2, 1, 0, 0, 0, 0), (23, .ifCond .eq 26, 3, 0, 0, 0, 0), (26, .aload_n 0, 1, 0, 0, 0, 0), (27, .iload_n 1, 1, 0, 0, 0, 0), (28, .iconst 1, 1, 0, 0, 0, 0), 
  (29, .iadd, 1, 0, 0, 0, 0), (30, .invokevirtual 173, 3, 45, 2, 0, 1106), (33, .ifCond .ne 5, 3, 0, 0, 0, 0), (36, .iconst 0, 1, 0, 0, 0, 0), (37, .ireturn, 1, 0, 0, 1, 0), 
  (38, .aload_n 0, 1, 0, 0, 0, 0), (39, .getfield 12, 3, 4, 0, 2, 461), (42, .iconst 0, 1, 0, 0, 0, 0), (43, .iconst 0, 1, 0, 0, 0, 0), (44, .invokevirtual 169, 3, 70, 3, 0, 1119), 
  (47, .iconst 1, 1, 0, 0, 0, 0), (48, .ireturn, 1, 0, 0, 1, 0), (49, .aload_n 0, 1, 0, 0, 0, 0), (50, .iload_n 1, 1, 0, 0, 0, 0), (51, .iconst 1, 1, 0, 0, 0, 0), 
  (52, .iadd, 1, 0, 0, 0, 0), (53, .invokevirtual 157, 3, 43, 2, 0, 1098), (56, .ifCond .ne 5, 3, 0, 0, 0, 0), (59, .iconst 0, 1, 0, 0, 0, 0), (60, .ireturn, 1, 0, 0, 1, 0), 
  (61, .aload_n 0, 1, 0, 0, 0, 0), (62, .bipush 41, 2, 0, 0, 0, 0), (64, .invokevirtual 91, 3, 35, 2, 0, 1111), (67, .ifCond .ne 9, 3, 0, 0, 0, 0), (70, .aload_n 0, 1, 0, 0, 0, 0), 
  (71, .iconst 1, 1, 0, 0, 0, 0), (72, .invokevirtual 94, 3, 33, 2, 0, 1066), (75, .ireturn, 1, 0, 0, 1, 0), (76, .aload_n 0, 1, 0, 0, 0, 0), 
  (77, .invokevirtual 44, 3, 32, 1, 0, 1051), (80, .iconst 1, 1, 0, 0, 0, 0), (81, .ireturn, 1, 0, 0, 1, 0)]
/-- DropSwitch$Run <init> (LDropSwitch$History;)V -/
noncomputable def cd_48 : List (Nat × Ent) := [
  (0, .aload_n 0, 1, 0, 0, 0, 0), (1, .invokespecial 3, 3, 0, 1, 4, 562), (4, .aload_n 0, 1, 0, 0, 0, 0), (5, .new 9, 3, 1, 10, 0, 563), (8, .dup, 1, 0, 0, 0, 0), 
  (9, .invokespecial 11, 3, 7, 1, 3, 564), (12, .putfield 12, 3, 5, 0, 12, 634), (15, .aload_n 0, 1, 0, 0, 0, 0), (16, .new 18, 3, 7, 9, 0, 565), (19, .dup, 1, 0, 0, 0, 0), 
  (20, .invokespecial 20, 3, 77, 1, 3, 567), (23, .putfield 21, 3, 5, 1, 12, 636), (26, .aload_n 0, 1, 0, 0, 0, 0), (27, .new 25, 3, 3, 6, 0, 607), (30, .dup, 1, 0, 0, 0, 0), 
  (31, .invokespecial 27, 3, 17, 1, 3, 609), (34, .putfield 28, 3, 5, 2, 12, 638), (37, .aload_n 0, 1, 0, 0, 0, 0), (38, .aload_n 1, 1, 0, 0, 0, 0), 
  (39, .putfield 32, 3, 5, 3, 12, 640), (42, .return_, 1, 0, 0, 0, 0)]
/-- DropSwitch$Run start ()V -/
noncomputable def cd_49 : List (Nat × Ent) := [
  (0, .aload_n 0, 1, 0, 0, 0, 0), (1, .getfield 21, 3, 5, 1, 2, 636), (4, .aload_n 0, 1, 0, 0, 0, 0), (5, .getfield 12, 3, 5, 0, 2, 634), (8, .invokevirtual 36, 3, 78, 2, 0, 709), 
  (11, .aload_n 0, 1, 0, 0, 0, 0), (12, .getfield 28, 3, 5, 2, 2, 638), (15, .invokevirtual 40, 3, 18, 1, 0, 714), (18, .return_, 1, 0, 0, 0, 0)]
/-- DropSwitch$Run happen (I)I -/
noncomputable def cd_51 : List (Nat × Ent) := [
  (0, .aload_n 0, 1, 0, 0, 0, 0), (1, .iload_n 1, 1, 0, 0, 0, 0), (2, .putfield 47, 3, 5, 4, 0, 641), (5, .aload_n 0, 1, 0, 0, 0, 0), (6, .getfield 32, 3, 5, 3, 2, 640), 
  (9, .getfield 51, 3, 0, 3, 2, 513), (12, .iload_n 1, 1, 0, 0, 0, 0), (13, .iaload, 1, 0, 0, 0, 0), (14, .istore_n 2, 1, 0, 0, 0, 0), (15, .aload_n 0, 1, 0, 0, 0, 0), 
  (16, .getfield 32, 3, 5, 3, 2, 640), (19, .getfield 57, 3, 0, 2, 2, 511), (22, .iload_n 1, 1, 0, 0, 0, 0), (23, .iaload, 1, 0, 0, 0, 0), 
  (24, .tableswitch 68 0 2 #[28, 46, 54], 28, 0, 0, 0, 0), (52, .aload_n 0, 1, 0, 0, 0, 0), (53, .aload_n 0, 1, 0, 0, 0, 0), (54, .getfield 32, 3, 5, 3, 2, 640), 
  (57, .getfield 60, 3, 0, 4, 2, 515), (60, .iload_n 1, 1, 0, 0, 0, 0), (61, .iaload, 1, 0, 0, 0, 0), (62, .iload_n 2, 1, 0, 0, 0, 0), (63, .invokevirtual 63, 3, 52, 3, 0, 1255), 
  (66, .istore_n 3, 1, 0, 0, 0, 0), (67, .goto 31, 3, 0, 0, 0, 0), (70, .aload_n 0, 1, 0, 0, 0, 0), (71, .invokevirtual 67, 3, 61, 1, 0, 1341), (74, .istore_n 3, 1, 0, 0, 0, 0), 
  (75, .goto 23, 3, 0, 0, 0, 0), (78, .aload_n 0, 1, 0, 0, 0, 0), (79, .getfield 21, 3, 5, 1, 2, 636), (82, .iload_n 2, 1, 0, 0, 0, 0), (83, .iconst 1, 1, 0, 0, 0, 0), 
  (84, .invokevirtual 71, 3, 81, 3, 0, 1366), (87, .iconst 0, 1, 0, 0, 0, 0), (88, .istore_n 3, 1, 0, 0, 0, 0), (89, .goto 9, 3, 0, 0, 0, 0), (92, .aload_n 0, 1, 0, 0, 0, 0), 
  (93, .iload_n 2, 1, 0, 0, 0, 0), (94, .invokevirtual 75, 3, 64, 2, 0, 1370), (97, .istore_n 3, 1, 0, 0, 0, 0), (98, .aload_n 0, 1, 0, 0, 0, 0), (99, .getfield 28, 3, 5, 2, 2, 638), 
  (102, .iload_n 1, 1, 0, 0, 0, 0), (103, .aload_n 0, 1, 0, 0, 0, 0), (104, .getfield 21, 3, 5, 1, 2, 636), (107, .invokevirtual 79, 3, 23, 3, 0, 1378), 
  (110, .iload_n 3, 1, 0, 0, 0, 0), (111, .ireturn, 1, 0, 0, 0, 0)]
/-- DropSwitch$Run takeIn (II)I -/
noncomputable def cd_52 : List (Nat × Ent) := [
  (0, .aload_n 0, 1, 0, 0, 0, 0), (1, .getfield 21, 3, 5, 1, 2, 636), (4, .iload_n 2, 1, 0, 0, 0, 0), (5, .invokevirtual 83, 3, 80, 2, 0, 1259), (8, .ifCond .ne 11, 3, 0, 0, 0, 0), 
  (11, .aload_n 0, 1, 0, 0, 0, 0), (12, .iload_n 1, 1, 0, 0, 0, 0), (13, .iconst 1, 1, 0, 0, 0, 0), (14, .iconst (-1), 1, 0, 0, 0, 0), (15, .invokevirtual 87, 3, 53, 4, 0, 1263), 
  (18, .ireturn, 1, 0, 0, 0, 0), (19, .aload_n 0, 1, 0, 0, 0, 0), (20, .iload_n 1, 1, 0, 0, 0, 0), (21, .invokevirtual 91, 3, 54, 2, 0, 1275), (24, .istore_n 3, 1, 0, 0, 0, 0), 
  (25, .iload_n 3, 1, 0, 0, 0, 0), (26, .iconst (-1), 1, 0, 0, 0, 0), (27, .if_icmp .eq 22, 3, 0, 0, 0, 0), (30, .aload_n 0, 1, 0, 0, 0, 0), (31, .getfield 12, 3, 5, 0, 2, 634), 
  (34, .iload_n 3, 1, 0, 0, 0, 0), (35, .invokevirtual 94, 3, 11, 2, 0, 1279), (38, .ifCond .eq 11, 3, 0, 0, 0, 0), (41, .aload_n 0, 1, 0, 0, 0, 0), (42, .iload_n 1, 1, 0, 0, 0, 0), 
  (43, .iconst 2, 1, 0, 0, 0, 0), (44, .iload_n 3, 1, 0, 0, 0, 0), (45, .invokevirtual 87, 3, 53, 4, 0, 1263), (48, .ireturn, 1, 0, 0, 0, 0), (49, .aload_n 0, 1, 0, 0, 0, 0), 
  (50, .getfield 12, 3, 5, 0, 2, 634), (53, .iload_n 2, 1, 0, 0, 0, 0), (54, .invokevirtual 97, 3, 10, 2, 0, 1283), (57, .ifCond .eq 30, 3, 0, 0, 0, 0), 
  (60, .aload_n 0, 1, 0, 0, 0, 0), (61, .getfield 21, 3, 5, 1, 2, 636), (64, .iload_n 2, 1, 0, 0, 0, 0), (65, .aload_n 0, 1, 0, 0, 0, 0), (66, .getfield 32, 3, 5, 3, 2, 640), 
  (69, .iload_n 1, 1, 0, 0, 0, 0), (70, .invokevirtual 100, 3, 5, 2, 0, 1287), (73, .invokevirtual 103, 3, 82, 3, 0, 1291), (76, .ifCond .ne 11, 3, 0, 0, 0, 0), 
  (79, .aload_n 0, 1, 0, 0, 0, 0), (80, .iload_n 1, 1, 0, 0, 0, 0), (81, .iconst 3, 1, 0, 0, 0, 0), (82, .iconst (-1), 1, 0, 0, 0, 0), (83, .invokevirtual 87, 3, 53, 4, 0, 1263), 
  (86, .ireturn, 1, 0, 0, 0, 0), (87, .aload_n 0, 1, 0, 0, 0, 0), (88, .getfield 21, 3, 5, 1, 2, 636), (91, .aload_n 0, 1, 0, 0, 0, 0), (92, .getfield 32, 3, 5, 3, 2, 640), 
  (95, .getfield 107, 3, 0, 6, 2, 520), (98, .iload_n 1, 1, 0, 0, 0, 0), (99, .iaload, 1, 0, 0, 0, 0), (100, .iload_n 2, 1, 0, 0, 0, 0), (101, .invokevirtual 110, 3, 88, 3, 0, 1295), 
  (104, .aload_n 0, 1, 0, 0, 0, 0), (105, .iload_n 1, 1, 0, 0, 0, 0), (106, .iload_n 2, 1, 0, 0, 0, 0), (107, .invokevirtual 114, 3, 55, 3, 0, 1299), (110, .istore 4, 2, 0, 0, 0, 0), 
  (112, .iload 4, 2, 0, 0, 0, 0), (114, .iconst 1, 1, 0, 0, 0, 0), (115, .iload_n 2, 1, 0, 0, 0, 0), (116, .ishl, 1, 0, 0, 0, 0), (117, .if_icmp .ne 11, 3, 0, 0, 0, 0), 
  (120, .aload_n 0, 1, 0, 0, 0, 0), (121, .iload_n 1, 1, 0, 0, 0, 0), (122, .iconst 4, 1, 0, 0, 0, 0), (123, .iconst (-1), 1, 0, 0, 0, 0), (124, .invokevirtual 87, 3, 53, 4, 0, 1263), 
  (127, .ireturn, 1, 0, 0, 0, 0), (128, .iload 4, 2, 0, 0, 0, 0), (130, .ifCond .ne 11, 3, 0, 0, 0, 0), (133, .aload_n 0, 1, 0, 0, 0, 0), (134, .iload_n 1, 1, 0, 0, 0, 0), 
  (135, .iconst 5, 1, 0, 0, 0, 0), (136, .iconst (-1), 1, 0, 0, 0, 0), (137, .invokevirtual 87, 3, 53, 4, 0, 1263), (140, .ireturn, 1, 0, 0, 0, 0), (141, .iconst 0, 1, 0, 0, 0, 0), 
  (142, .istore 5, 2, 0, 0, 0, 0), (144, .iconst 0, 1, 0, 0, 0, 0), (145, .istore 6, 2, 0, 0, 0, 0), (147, .iload 6, 2, 0, 0, 0, 0), (149, .aload_n 0, 1, 0, 0, 0, 0), 
  (150, .getfield 12, 3, 5, 0, 2, 634), (153, .getfield 117, 3, 1, 0, 0, 378), (156, .if_icmp .ge 31, 3, 0, 0, 0, 0), (159, .iload 4, 2, 0, 0, 0, 0), (161, .iload 6, 2, 0, 0, 0, 0), 
  (163, .ishr, 1, 0, 0, 0, 0), (164, .iconst 1, 1, 0, 0, 0, 0), (165, .iand, 1, 0, 0, 0, 0), (166, .ifCond .eq 15, 3, 0, 0, 0, 0), (169, .iload 5, 2, 0, 0, 0, 0), 
  (171, .aload_n 0, 1, 0, 0, 0, 0), (172, .iload_n 1, 1, 0, 0, 0, 0), (173, .iload 6, 2, 0, 0, 0, 0), (175, .invokevirtual 120, 3, 56, 3, 0, 1307), (178, .iadd, 1, 0, 0, 0, 0), 
  (179, .istore 5, 2, 0, 0, 0, 0), (181, .iinc 6 1, 3, 0, 0, 0, 0), (184, .goto (-37), 3, 0, 0, 0, 0), (187, .iload 5, 2, 0, 0, 0, 0), (189, .ireturn, 1, 0, 0, 0, 0)]
/-- DropSwitch$Run refuse (III)I -/
noncomputable def cd_53 : List (Nat × Ent) := [
  (0, .aload_n 0, 1, 0, 0, 0, 0), (1, .getfield 28, 3, 5, 2, 2, 638), (4, .aload_n 0, 1, 0, 0, 0, 0), (5, .getfield 47, 3, 5, 4, 0, 641), (8, .iload_n 1, 1, 0, 0, 0, 0), 
  (9, .iconst (-1), 1, 0, 0, 0, 0), (10, .iload_n 2, 1, 0, 0, 0, 0), (11, .iload_n 3, 1, 0, 0, 0, 0), (12, .invokevirtual 123, 3, 19, 6, 0, 1267), (15, .iconst 0, 1, 0, 0, 0, 0), 
  (16, .ireturn, 1, 0, 0, 0, 0)]
/-- DropSwitch$Run decidingRule (I)I -/
noncomputable def cd_54 : List (Nat × Ent) := [
  (0, .aload_n 0, 1, 0, 0, 0, 0), (1, .getfield 32, 3, 5, 3, 2, 640), (4, .getfield 127, 3, 0, 10, 2, 530), (7, .iload_n 1, 1, 0, 0, 0, 0), (8, .iaload, 1, 0, 0, 0, 0), 
  (9, .aload_n 0, 1, 0, 0, 0, 0), (10, .getfield 12, 3, 5, 0, 2, 634), (13, .getfield 130, 3, 1, 9, 0, 407), (16, .iconst (-1), 1, 0, 0, 0, 0), (17, .ixor, 1, 0, 0, 0, 0), 
  (18, .iand, 1, 0, 0, 0, 0), (19, .istore_n 2, 1, 0, 0, 0, 0), (20, .iconst 0, 1, 0, 0, 0, 0), (21, .istore_n 3, 1, 0, 0, 0, 0), (22, .iload_n 3, 1, 0, 0, 0, 0), 
  (23, .bipush 8, 2, 0, 0, 0, 0), (25, .if_icmp .ge 19, 3, 0, 0, 0, 0), (28, .iload_n 2, 1, 0, 0, 0, 0), (29, .iload_n 3, 1, 0, 0, 0, 0), (30, .ishr, 1, 0, 0, 0, 0), 
  (31, .iconst 1, 1, 0, 0, 0, 0), (32, .iand, 1, 0, 0, 0, 0), (33, .ifCond .eq 5, 3, 0, 0, 0, 0), (36, .iload_n 3, 1, 0, 0, 0, 0), (37, .ireturn, 1, 0, 0, 0, 0), 
  (38, .iinc 3 1, 3, 0, 0, 0, 0), (41, .goto (-19), 3, 0, 0, 0, 0), (44, .iconst (-1), 1, 0, 0, 0, 0), (45, .ireturn, 1, 0, 0, 0, 0)]
/-- DropSwitch$Run waysOut (II)I -/
noncomputable def cd_55 : List (Nat × Ent) := [
  (0, .aload_n 0, 1, 0, 0, 0, 0), (1, .getfield 21, 3, 5, 1, 2, 636), (4, .aload_n 0, 1, 0, 0, 0, 0), (5, .getfield 32, 3, 5, 3, 2, 640), (8, .getfield 133, 3, 0, 7, 2, 523), 
  (11, .iload_n 1, 1, 0, 0, 0, 0), (12, .iaload, 1, 0, 0, 0, 0), (13, .aload_n 0, 1, 0, 0, 0, 0), (14, .getfield 12, 3, 5, 0, 2, 634), (17, .getfield 136, 3, 1, 7, 0, 402), 
  (20, .invokevirtual 139, 3, 90, 3, 0, 1303), (23, .istore_n 3, 1, 0, 0, 0, 0), (24, .iload_n 3, 1, 0, 0, 0, 0), (25, .iconst (-1), 1, 0, 0, 0, 0), 
  (26, .if_icmp .eq 7, 3, 0, 0, 0, 0), (29, .iconst 1, 1, 0, 0, 0, 0), (30, .iload_n 3, 1, 0, 0, 0, 0), (31, .ishl, 1, 0, 0, 0, 0), (32, .ireturn, 1, 0, 0, 0, 0), 
  (33, .iconst 0, 1, 0, 0, 0, 0), (34, .istore 4, 2, 0, 0, 0, 0), (36, .iconst 0, 1, 0, 0, 0, 0), (37, .istore 5, 2, 0, 0, 0, 0), (39, .iload 5, 2, 0, 0, 0, 0), 
  (41, .aload_n 0, 1, 0, 0, 0, 0), (42, .getfield 12, 3, 5, 0, 2, 634), (45, .getfield 117, 3, 1, 0, 0, 378), (48, .if_icmp .ge 36, 3, 0, 0, 0, 0), (51, .iload 5, 2, 0, 0, 0, 0), 
  (53, .iload_n 2, 1, 0, 0, 0, 0), (54, .if_icmp .eq 24, 3, 0, 0, 0, 0), (57, .aload_n 0, 1, 0, 0, 0, 0), (58, .getfield 21, 3, 5, 1, 2, 636), (61, .iload 5, 2, 0, 0, 0, 0), 
  (63, .invokevirtual 83, 3, 80, 2, 0, 1259), (66, .ifCond .eq 12, 3, 0, 0, 0, 0), (69, .iload 4, 2, 0, 0, 0, 0), (71, .iconst 1, 1, 0, 0, 0, 0), (72, .iload 5, 2, 0, 0, 0, 0), 
  (74, .ishl, 1, 0, 0, 0, 0), (75, .ior, 1, 0, 0, 0, 0), (76, .istore 4, 2, 0, 0, 0, 0), (78, .iinc 5 1, 3, 0, 0, 0, 0), (81, .goto (-42), 3, 0, 0, 0, 0), 
  (84, .iload 4, 2, 0, 0, 0, 0), (86, .ireturn, 1, 0, 0, 0, 0)]
/-- DropSwitch$Run putCopy (II)I -/
noncomputable def cd_56 : List (Nat × Ent) := [
  (0, .aload_n 0, 1, 0, 0, 0, 0), (1, .getfield 32, 3, 5, 3, 2, 640), (4, .iload_n 1, 1, 0, 0, 0, 0), (5, .invokevirtual 100, 3, 5, 2, 0, 1287), (8, .istore_n 3, 1, 0, 0, 0, 0), 
  (9, .aload_n 0, 1, 0, 0, 0, 0), (10, .getfield 21, 3, 5, 1, 2, 636), (13, .invokevirtual 142, 3, 83, 1, 0, 1311), (16, .iload_n 3, 1, 0, 0, 0, 0), (17, .iadd, 1, 0, 0, 0, 0), 
  (18, .aload_n 0, 1, 0, 0, 0, 0), (19, .getfield 12, 3, 5, 0, 2, 634), (22, .getfield 145, 3, 1, 5, 0, 396), (25, .if_icmp .le 21, 3, 0, 0, 0, 0), (28, .aload_n 0, 1, 0, 0, 0, 0), 
  (29, .getfield 28, 3, 5, 2, 2, 638), (32, .aload_n 0, 1, 0, 0, 0, 0), (33, .getfield 47, 3, 5, 4, 0, 641), (36, .iload_n 1, 1, 0, 0, 0, 0), (37, .iload_n 2, 1, 0, 0, 0, 0), 
  (38, .bipush 6, 2, 0, 0, 0, 0), (40, .iconst (-1), 1, 0, 0, 0, 0), (41, .invokevirtual 123, 3, 19, 6, 0, 1267), (44, .iconst 0, 1, 0, 0, 0, 0), (45, .ireturn, 1, 0, 0, 0, 0), 
  (46, .aload_n 0, 1, 0, 0, 0, 0), (47, .getfield 21, 3, 5, 1, 2, 636), (50, .getfield 148, 3, 7, 3, 2, 579), (53, .iload_n 2, 1, 0, 0, 0, 0), (54, .iaload, 1, 0, 0, 0, 0), 
  (55, .iload_n 3, 1, 0, 0, 0, 0), (56, .iadd, 1, 0, 0, 0, 0), (57, .aload_n 0, 1, 0, 0, 0, 0), (58, .getfield 12, 3, 5, 0, 2, 634), (61, .getfield 151, 3, 1, 1, 2, 382), 
  (64, .iload_n 2, 1, 0, 0, 0, 0), (65, .iaload, 1, 0, 0, 0, 0), (66, .isub, 1, 0, 0, 0, 0), (67, .istore 4, 2, 0, 0, 0, 0), (69, .iload 4, 2, 0, 0, 0, 0), 
  (71, .ifCond .le 39, 3, 0, 0, 0, 0), (74, .aload_n 0, 1, 0, 0, 0, 0), (75, .aload_n 0, 1, 0, 0, 0, 0), (76, .getfield 32, 3, 5, 3, 2, 640), (79, .iload_n 1, 1, 0, 0, 0, 0), 
  (80, .invokevirtual 154, 3, 6, 2, 0, 1315), (83, .iload_n 2, 1, 0, 0, 0, 0), (84, .invokevirtual 157, 3, 57, 3, 0, 1319), (87, .iload 4, 2, 0, 0, 0, 0), 
  (89, .if_icmp .ge 21, 3, 0, 0, 0, 0), (92, .aload_n 0, 1, 0, 0, 0, 0), (93, .getfield 28, 3, 5, 2, 2, 638), (96, .aload_n 0, 1, 0, 0, 0, 0), (97, .getfield 47, 3, 5, 4, 0, 641), 
  (100, .iload_n 1, 1, 0, 0, 0, 0), (101, .iload_n 2, 1, 0, 0, 0, 0), (102, .bipush 7, 2, 0, 0, 0, 0), (104, .iconst (-1), 1, 0, 0, 0, 0), 
  (105, .invokevirtual 123, 3, 19, 6, 0, 1267), (108, .iconst 0, 1, 0, 0, 0, 0), (109, .ireturn, 1, 0, 0, 0, 0), (110, .aload_n 0, 1, 0, 0, 0, 0), 
  (111, .getfield 21, 3, 5, 1, 2, 636), (114, .getfield 160, 3, 7, 4, 2, 582), (117, .iload_n 2, 1, 0, 0, 0, 0), (118, .iaload, 1, 0, 0, 0, 0), (119, .istore 5, 2, 0, 0, 0, 0), 
  (121, .iload 5, 2, 0, 0, 0, 0), (123, .ifCond .le 57, 3, 0, 0, 0, 0), (126, .iload 4, 2, 0, 0, 0, 0), (128, .ifCond .le 52, 3, 0, 0, 0, 0), (131, .aload_n 0, 1, 0, 0, 0, 0), 
  (132, .iload_n 2, 1, 0, 0, 0, 0), (133, .aload_n 0, 1, 0, 0, 0, 0), (134, .iload_n 2, 1, 0, 0, 0, 0), (135, .invokevirtual 163, 3, 58, 2, 0, 1324), 
  (138, .invokevirtual 166, 3, 60, 3, 0, 1328), (141, .istore 6, 2, 0, 0, 0, 0), (143, .aload_n 0, 1, 0, 0, 0, 0), (144, .getfield 28, 3, 5, 2, 2, 638), 
  (147, .aload_n 0, 1, 0, 0, 0, 0), (148, .getfield 47, 3, 5, 4, 0, 641), (151, .iload 6, 2, 0, 0, 0, 0), (153, .iload_n 2, 1, 0, 0, 0, 0), (154, .bipush 8, 2, 0, 0, 0, 0), 
  (156, .iload_n 1, 1, 0, 0, 0, 0), (157, .invokevirtual 123, 3, 19, 6, 0, 1267), (160, .iload 4, 2, 0, 0, 0, 0), (162, .aload_n 0, 1, 0, 0, 0, 0), 
  (163, .getfield 32, 3, 5, 3, 2, 640), (166, .iload 6, 2, 0, 0, 0, 0), (168, .invokevirtual 100, 3, 5, 2, 0, 1287), (171, .isub, 1, 0, 0, 0, 0), (172, .istore 4, 2, 0, 0, 0, 0), 
  (174, .iinc 5 (-1), 3, 0, 0, 0, 0), (177, .goto (-56), 3, 0, 0, 0, 0), (180, .aload_n 0, 1, 0, 0, 0, 0), (181, .getfield 21, 3, 5, 1, 2, 636), (184, .iload_n 2, 1, 0, 0, 0, 0), 
  (185, .iload_n 1, 1, 0, 0, 0, 0), (186, .iload_n 3, 1, 0, 0, 0, 0), (187, .invokevirtual 169, 3, 86, 4, 0, 1336), (190, .aload_n 0, 1, 0, 0, 0, 0), 
  (191, .getfield 28, 3, 5, 2, 2, 638), (194, .iload_n 1, 1, 0, 0, 0, 0), (195, .iload_n 2, 1, 0, 0, 0, 0), (196, .iconst 1, 1, 0, 0, 0, 0), 
  (197, .invokevirtual 173, 3, 21, 4, 0, 1340), (200, .iconst 1, 1, 0, 0, 0, 0), (201, .ireturn, 1, 0, 0, 0, 0)]
/-- DropSwitch$Run unitsBelow (II)I -/
noncomputable def cd_57 : List (Nat × Ent) := [
  (0, .iconst 0, 1, 0, 0, 0, 0), (1, .istore_n 3, 1, 0, 0, 0, 0), (2, .iconst 0, 1, 0, 0, 0, 0), (3, .istore 4, 2, 0, 0, 0, 0), (5, .iload 4, 2, 0, 0, 0, 0), 
  (7, .aload_n 0, 1, 0, 0, 0, 0), (8, .getfield 21, 3, 5, 1, 2, 636), (11, .getfield 160, 3, 7, 4, 2, 582), (14, .iload_n 2, 1, 0, 0, 0, 0), (15, .iaload, 1, 0, 0, 0, 0), 
  (16, .if_icmp .ge 46, 3, 0, 0, 0, 0), (19, .aload_n 0, 1, 0, 0, 0, 0), (20, .getfield 21, 3, 5, 1, 2, 636), (23, .iload_n 2, 1, 0, 0, 0, 0), (24, .iload 4, 2, 0, 0, 0, 0), 
  (26, .invokevirtual 176, 3, 84, 3, 0, 1323), (29, .istore 5, 2, 0, 0, 0, 0), (31, .aload_n 0, 1, 0, 0, 0, 0), (32, .getfield 32, 3, 5, 3, 2, 640), (35, .iload 5, 2, 0, 0, 0, 0), 
  (37, .invokevirtual 154, 3, 6, 2, 0, 1315), (40, .iload_n 1, 1, 0, 0, 0, 0), (41, .if_icmp .ge 15, 3, 0, 0, 0, 0), (44, .iload_n 3, 1, 0, 0, 0, 0), (45, .aload_n 0, 1, 0, 0, 0, 0), 
  (46, .getfield 32, 3, 5, 3, 2, 640), (49, .iload 5, 2, 0, 0, 0, 0), (51, .invokevirtual 100, 3, 5, 2, 0, 1287), (54, .iadd, 1, 0, 0, 0, 0), (55, .istore_n 3, 1, 0, 0, 0, 0), 
  (56, .iinc 4 1, 3, 0, 0, 0, 0), (59, .goto (-54), 3, 0, 0, 0, 0), (62, .iload_n 3, 1, 0, 0, 0, 0), (63, .ireturn, 1, 0, 0, 0, 0)]
/-- DropSwitch$Run leastImportant (I)I -/
noncomputable def cd_58 : List (Nat × Ent) := [
  (0, .iconst 0, 1, 0, 0, 0, 0), (1, .istore_n 2, 1, 0, 0, 0, 0), (2, .iconst 3, 1, 0, 0, 0, 0), (3, .istore_n 3, 1, 0, 0, 0, 0), (4, .iconst 0, 1, 0, 0, 0, 0), 
  (5, .istore 4, 2, 0, 0, 0, 0), (7, .iload 4, 2, 0, 0, 0, 0), (9, .aload_n 0, 1, 0, 0, 0, 0), (10, .getfield 21, 3, 5, 1, 2, 636), (13, .getfield 160, 3, 7, 4, 2, 582), 
  (16, .iload_n 1, 1, 0, 0, 0, 0), (17, .iaload, 1, 0, 0, 0, 0), (18, .if_icmp .ge 40, 3, 0, 0, 0, 0), (21, .aload_n 0, 1, 0, 0, 0, 0), (22, .getfield 32, 3, 5, 3, 2, 640), 
  (25, .aload_n 0, 1, 0, 0, 0, 0), (26, .getfield 21, 3, 5, 1, 2, 636), (29, .iload_n 1, 1, 0, 0, 0, 0), (30, .iload 4, 2, 0, 0, 0, 0), (32, .invokevirtual 176, 3, 84, 3, 0, 1323), 
  (35, .invokevirtual 154, 3, 6, 2, 0, 1315), (38, .istore 5, 2, 0, 0, 0, 0), (40, .iload 5, 2, 0, 0, 0, 0), (42, .iload_n 3, 1, 0, 0, 0, 0), (43, .if_icmp .gt 9, 3, 0, 0, 0, 0), 
  (46, .iload 5, 2, 0, 0, 0, 0), (48, .istore_n 3, 1, 0, 0, 0, 0), (49, .iload 4, 2, 0, 0, 0, 0), (51, .istore_n 2, 1, 0, 0, 0, 0), (52, .iinc 4 1, 3, 0, 0, 0, 0), 
  (55, .goto (-48), 3, 0, 0, 0, 0), (58, .iload_n 2, 1, 0, 0, 0, 0), (59, .ireturn, 1, 0, 0, 0, 0)]
/-- DropSwitch$Run mostImportant (I)I -/
noncomputable def cd_59 : List (Nat × Ent) := [
  (0, .iconst 0, 1, 0, 0, 0, 0), (1, .istore_n 2, 1, 0, 0, 0, 0), (2, .iconst (-1), 1, 0, 0, 0, 0), (3, .istore_n 3, 1, 0, 0, 0, 0), (4, .iconst 0, 1, 0, 0, 0, 0), 
  (5, .istore 4, 2, 0, 0, 0, 0), (7, .iload 4, 2, 0, 0, 0, 0), (9, .aload_n 0, 1, 0, 0, 0, 0), (10, .getfield 21, 3, 5, 1, 2, 636), (13, .getfield 160, 3, 7, 4, 2, 582), 
  (16, .iload_n 1, 1, 0, 0, 0, 0), (17, .iaload, 1, 0, 0, 0, 0), (18, .if_icmp .ge 40, 3, 0, 0, 0, 0), (21, .aload_n 0, 1, 0, 0, 0, 0), (22, .getfield 32, 3, 5, 3, 2, 640), 
  (25, .aload_n 0, 1, 0, 0, 0, 0), (26, .getfield 21, 3, 5, 1, 2, 636), (29, .iload_n 1, 1, 0, 0, 0, 0), (30, .iload 4, 2, 0, 0, 0, 0), (32, .invokevirtual 176, 3, 84, 3, 0, 1323), 
  (35, .invokevirtual 154, 3, 6, 2, 0, 1315), (38, .istore 5, 2, 0, 0, 0, 0), (40, .iload 5, 2, 0, 0, 0, 0), (42, .iload_n 3, 1, 0, 0, 0, 0), (43, .if_icmp .le 9, 3, 0, 0, 0, 0), 
  (46, .iload 5, 2, 0, 0, 0, 0), (48, .istore_n 3, 1, 0, 0, 0, 0), (49, .iload 4, 2, 0, 0, 0, 0), (51, .istore_n 2, 1, 0, 0, 0, 0), (52, .iinc 4 1, 3, 0, 0, 0, 0), 
  (55, .goto (-48), 3, 0, 0, 0, 0), (58, .iload_n 2, 1, 0, 0, 0, 0), (59, .ireturn, 1, 0, 0, 0, 0)]
/-- DropSwitch$Run takeOut (II)I -/
noncomputable def cd_60 : List (Nat × Ent) := [
  (0, .aload_n 0, 1, 0, 0, 0, 0), (1, .getfield 21, 3, 5, 1, 2, 636), (4, .iload_n 1, 1, 0, 0, 0, 0), (5, .iload_n 2, 1, 0, 0, 0, 0), (6, .invokevirtual 176, 3, 84, 3, 0, 1323), 
  (9, .istore_n 3, 1, 0, 0, 0, 0), (10, .aload_n 0, 1, 0, 0, 0, 0), (11, .getfield 21, 3, 5, 1, 2, 636), (14, .iload_n 1, 1, 0, 0, 0, 0), (15, .iload_n 2, 1, 0, 0, 0, 0), 
  (16, .aload_n 0, 1, 0, 0, 0, 0), (17, .getfield 32, 3, 5, 3, 2, 640), (20, .iload_n 3, 1, 0, 0, 0, 0), (21, .invokevirtual 100, 3, 5, 2, 0, 1287), 
  (24, .invokevirtual 179, 3, 87, 4, 0, 1332), (27, .iload_n 3, 1, 0, 0, 0, 0), (28, .ireturn, 1, 0, 0, 0, 0)]
/-- DropSwitch$Run passTick ()I -/
noncomputable def cd_61 : List (Nat × Ent) := [
  (0, .iconst 0, 1, 0, 0, 0, 0), (1, .istore_n 1, 1, 0, 0, 0, 0), (2, .iconst 0, 1, 0, 0, 0, 0), (3, .istore_n 2, 1, 0, 0, 0, 0), (4, .iload_n 2, 1, 0, 0, 0, 0), 
  (5, .aload_n 0, 1, 0, 0, 0, 0), (6, .getfield 12, 3, 5, 0, 2, 634), (9, .getfield 117, 3, 1, 0, 0, 378), (12, .if_icmp .ge 28, 3, 0, 0, 0, 0), (15, .aload_n 0, 1, 0, 0, 0, 0), 
  (16, .getfield 21, 3, 5, 1, 2, 636), (19, .iload_n 2, 1, 0, 0, 0, 0), (20, .invokevirtual 83, 3, 80, 2, 0, 1259), (23, .ifCond .eq 11, 3, 0, 0, 0, 0), 
  (26, .iload_n 1, 1, 0, 0, 0, 0), (27, .aload_n 0, 1, 0, 0, 0, 0), (28, .iload_n 2, 1, 0, 0, 0, 0), (29, .invokevirtual 182, 3, 62, 2, 0, 1345), (32, .iadd, 1, 0, 0, 0, 0), 
  (33, .istore_n 1, 1, 0, 0, 0, 0), (34, .iinc 2 1, 3, 0, 0, 0, 0), (37, .goto (-33), 3, 0, 0, 0, 0), (40, .iconst 0, 1, 0, 0, 0, 0), (41, .istore_n 2, 1, 0, 0, 0, 0), 
  (42, .iload_n 2, 1, 0, 0, 0, 0), (43, .aload_n 0, 1, 0, 0, 0, 0), (44, .getfield 12, 3, 5, 0, 2, 634), (47, .getfield 117, 3, 1, 0, 0, 378), (50, .if_icmp .ge 14, 3, 0, 0, 0, 0), 
  (53, .aload_n 0, 1, 0, 0, 0, 0), (54, .iload_n 2, 1, 0, 0, 0, 0), (55, .invokevirtual 185, 3, 63, 2, 0, 1358), (58, .iinc 2 1, 3, 0, 0, 0, 0), (61, .goto (-19), 3, 0, 0, 0, 0), 
  (64, .iconst 0, 1, 0, 0, 0, 0), (65, .istore_n 2, 1, 0, 0, 0, 0), (66, .iload_n 2, 1, 0, 0, 0, 0), (67, .aload_n 0, 1, 0, 0, 0, 0), (68, .getfield 12, 3, 5, 0, 2, 634), 
  (71, .getfield 117, 3, 1, 0, 0, 378), (74, .if_icmp .ge 60, 3, 0, 0, 0, 0), (77, .aload_n 0, 1, 0, 0, 0, 0), (78, .getfield 12, 3, 5, 0, 2, 634), (81, .iload_n 2, 1, 0, 0, 0, 0), 
  (82, .invokevirtual 97, 3, 10, 2, 0, 1283), (85, .ifCond .eq 43, 3, 0, 0, 0, 0), (88, .aload_n 0, 1, 0, 0, 0, 0), (89, .getfield 21, 3, 5, 1, 2, 636), 
  (92, .getfield 189, 3, 7, 2, 2, 576), (95, .iload_n 2, 1, 0, 0, 0, 0), (96, .aload_n 0, 1, 0, 0, 0, 0), (97, .getfield 21, 3, 5, 1, 2, 636), (100, .getfield 189, 3, 7, 2, 2, 576), 
  (103, .iload_n 2, 1, 0, 0, 0, 0), (104, .iaload, 1, 0, 0, 0, 0), (105, .aload_n 0, 1, 0, 0, 0, 0), (106, .getfield 12, 3, 5, 0, 2, 634), (109, .getfield 192, 3, 1, 3, 2, 389), 
  (112, .iload_n 2, 1, 0, 0, 0, 0), (113, .iaload, 1, 0, 0, 0, 0), (114, .iadd, 1, 0, 0, 0, 0), (115, .aload_n 0, 1, 0, 0, 0, 0), (116, .getfield 12, 3, 5, 0, 2, 634), 
  (119, .getfield 195, 3, 1, 4, 2, 394), (122, .iload_n 2, 1, 0, 0, 0, 0), (123, .iaload, 1, 0, 0, 0, 0), (124, .invokestatic 198, 3, 0, 2, 5, 1349), (127, .iastore, 1, 0, 0, 0, 0), 
  (128, .iinc 2 1, 3, 0, 0, 0, 0), (131, .goto (-65), 3, 0, 0, 0, 0), (134, .aload_n 0, 1, 0, 0, 0, 0), (135, .getfield 21, 3, 5, 1, 2, 636), (138, .dup, 1, 0, 0, 0, 0), 
  (139, .getfield 203, 3, 7, 0, 0, 573), (142, .iconst 1, 1, 0, 0, 0, 0), (143, .iadd, 1, 0, 0, 0, 0), (144, .putfield 203, 3, 7, 0, 0, 573), (147, .iload_n 1, 1, 0, 0, 0, 0), 
  (148, .ireturn, 1, 0, 0, 0, 0)]
/-- DropSwitch$Run deliverFrom (I)I -/
noncomputable def cd_62 : List (Nat × Ent) := [
  (0, .aload_n 0, 1, 0, 0, 0, 0), (1, .getfield 12, 3, 5, 0, 2, 634), (4, .getfield 206, 3, 1, 2, 2, 385), (7, .iload_n 1, 1, 0, 0, 0, 0), (8, .iaload, 1, 0, 0, 0, 0), 
  (9, .aload_n 0, 1, 0, 0, 0, 0), (10, .getfield 21, 3, 5, 1, 2, 636), (13, .getfield 160, 3, 7, 4, 2, 582), (16, .iload_n 1, 1, 0, 0, 0, 0), (17, .iaload, 1, 0, 0, 0, 0), 
  (18, .invokestatic 198, 3, 0, 2, 5, 1349), (21, .istore_n 2, 1, 0, 0, 0, 0), (22, .iconst 0, 1, 0, 0, 0, 0), (23, .istore_n 3, 1, 0, 0, 0, 0), (24, .iload_n 3, 1, 0, 0, 0, 0), 
  (25, .iload_n 2, 1, 0, 0, 0, 0), (26, .if_icmp .ge 27, 3, 0, 0, 0, 0), (29, .aload_n 0, 1, 0, 0, 0, 0), (30, .getfield 28, 3, 5, 2, 2, 638), (33, .aload_n 0, 1, 0, 0, 0, 0), 
  (34, .iload_n 1, 1, 0, 0, 0, 0), (35, .aload_n 0, 1, 0, 0, 0, 0), (36, .iload_n 1, 1, 0, 0, 0, 0), (37, .invokevirtual 209, 3, 59, 2, 0, 1350), 
  (40, .invokevirtual 166, 3, 60, 3, 0, 1328), (43, .iload_n 1, 1, 0, 0, 0, 0), (44, .invokevirtual 212, 3, 20, 3, 0, 1354), (47, .iinc 3 1, 3, 0, 0, 0, 0), 
  (50, .goto (-26), 3, 0, 0, 0, 0), (53, .iload_n 2, 1, 0, 0, 0, 0), (54, .ireturn, 1, 0, 0, 0, 0)]
/-- DropSwitch$Run dropStale (I)V -/
noncomputable def cd_63 : List (Nat × Ent) := [
  (0, .iconst 0, 1, 0, 0, 0, 0), (1, .istore_n 2, 1, 0, 0, 0, 0), (2, .aload_n 0, 1, 0, 0, 0, 0), (3, .getfield 21, 3, 5, 1, 2, 636), (6, .getfield 160, 3, 7, 4, 2, 582), 
  (9, .iload_n 1, 1, 0, 0, 0, 0), (10, .iaload, 1, 0, 0, 0, 0), (11, .istore_n 3, 1, 0, 0, 0, 0), (12, .iload_n 3, 1, 0, 0, 0, 0), (13, .ifCond .le 55, 3, 0, 0, 0, 0), 
  (16, .aload_n 0, 1, 0, 0, 0, 0), (17, .getfield 21, 3, 5, 1, 2, 636), (20, .iload_n 1, 1, 0, 0, 0, 0), (21, .iload_n 2, 1, 0, 0, 0, 0), (22, .invokevirtual 215, 3, 85, 3, 0, 1362), 
  (25, .aload_n 0, 1, 0, 0, 0, 0), (26, .getfield 12, 3, 5, 0, 2, 634), (29, .getfield 218, 3, 1, 6, 0, 400), (32, .if_icmp .lt 27, 3, 0, 0, 0, 0), (35, .aload_n 0, 1, 0, 0, 0, 0), 
  (36, .getfield 28, 3, 5, 2, 2, 638), (39, .aload_n 0, 1, 0, 0, 0, 0), (40, .getfield 47, 3, 5, 4, 0, 641), (43, .aload_n 0, 1, 0, 0, 0, 0), (44, .iload_n 1, 1, 0, 0, 0, 0), 
  (45, .iload_n 2, 1, 0, 0, 0, 0), (46, .invokevirtual 166, 3, 60, 3, 0, 1328), (49, .iload_n 1, 1, 0, 0, 0, 0), (50, .bipush 9, 2, 0, 0, 0, 0), (52, .iconst (-1), 1, 0, 0, 0, 0), 
  (53, .invokevirtual 123, 3, 19, 6, 0, 1267), (56, .goto 6, 3, 0, 0, 0, 0), (59, .iinc 2 1, 3, 0, 0, 0, 0), (62, .iinc 3 (-1), 3, 0, 0, 0, 0), (65, .goto (-53), 3, 0, 0, 0, 0), 
  (68, .return_, 1, 0, 0, 0, 0)]
/-- DropSwitch$Run loseLink (I)I -/
noncomputable def cd_64 : List (Nat × Ent) := [
  (0, .aload_n 0, 1, 0, 0, 0, 0), (1, .getfield 21, 3, 5, 1, 2, 636), (4, .getfield 160, 3, 7, 4, 2, 582), (7, .iload_n 1, 1, 0, 0, 0, 0), (8, .iaload, 1, 0, 0, 0, 0), 
  (9, .istore_n 2, 1, 0, 0, 0, 0), (10, .iload_n 2, 1, 0, 0, 0, 0), (11, .istore_n 3, 1, 0, 0, 0, 0), (12, .iload_n 3, 1, 0, 0, 0, 0), (13, .ifCond .le 30, 3, 0, 0, 0, 0), 
  (16, .aload_n 0, 1, 0, 0, 0, 0), (17, .getfield 28, 3, 5, 2, 2, 638), (20, .aload_n 0, 1, 0, 0, 0, 0), (21, .getfield 47, 3, 5, 4, 0, 641), (24, .aload_n 0, 1, 0, 0, 0, 0), 
  (25, .iload_n 1, 1, 0, 0, 0, 0), (26, .iconst 0, 1, 0, 0, 0, 0), (27, .invokevirtual 166, 3, 60, 3, 0, 1328), (30, .iload_n 1, 1, 0, 0, 0, 0), (31, .bipush 10, 2, 0, 0, 0, 0), 
  (33, .iconst (-1), 1, 0, 0, 0, 0), (34, .invokevirtual 123, 3, 19, 6, 0, 1267), (37, .iinc 3 (-1), 3, 0, 0, 0, 0), (40, .goto (-28), 3, 0, 0, 0, 0), (43, .aload_n 0, 1, 0, 0, 0, 0), 
  (44, .getfield 21, 3, 5, 1, 2, 636), (47, .iload_n 1, 1, 0, 0, 0, 0), (48, .invokevirtual 221, 3, 89, 2, 0, 1374), (51, .aload_n 0, 1, 0, 0, 0, 0), 
  (52, .getfield 21, 3, 5, 1, 2, 636), (55, .iload_n 1, 1, 0, 0, 0, 0), (56, .iconst 0, 1, 0, 0, 0, 0), (57, .invokevirtual 71, 3, 81, 3, 0, 1366), (60, .iload_n 2, 1, 0, 0, 0, 0), 
  (61, .ireturn, 1, 0, 0, 0, 0)]
/-- DropSwitch$Setup <init> ()V -/
noncomputable def cd_65 : List (Nat × Ent) := [
  (0, .aload_n 0, 1, 0, 0, 0, 0), (1, .invokespecial 3, 3, 0, 1, 4, 368), (4, .aload_n 0, 1, 0, 0, 0, 0), (5, .new 9, 3, 1, 10, 0, 369), (8, .dup, 1, 0, 0, 0, 0), 
  (9, .invokespecial 11, 3, 7, 1, 3, 371), (12, .putfield 12, 3, 6, 0, 12, 438), (15, .aload_n 0, 1, 0, 0, 0, 0), (16, .iconst 4, 1, 0, 0, 0, 0), (17, .newarray .int, 2, 1, 0, 0, 0), 
  (19, .putfield 18, 3, 6, 1, 12, 441), (22, .aload_n 0, 1, 0, 0, 0, 0), (23, .bipush 9, 2, 0, 0, 0, 0), (25, .newarray .int, 2, 1, 0, 0, 0), (27, .putfield 22, 3, 6, 3, 12, 445), 
  (30, .aload_n 0, 1, 0, 0, 0, 0), (31, .sipush 600, 3, 0, 0, 0, 0), (34, .newarray .int, 2, 1, 0, 0, 0), (36, .putfield 25, 3, 6, 4, 12, 446), (39, .aload_n 0, 1, 0, 0, 0, 0), 
  (40, .invokevirtual 28, 3, 66, 1, 0, 430), (43, .return_, 1, 0, 0, 0, 0)]
/-- DropSwitch$Setup reset ()V -/
noncomputable def cd_66 : List (Nat × Ent) := [
  (0, .aload_n 0, 1, 0, 0, 0, 0), (1, .getfield 12, 3, 6, 0, 2, 438), (4, .invokevirtual 31, 3, 8, 1, 0, 434), (7, .aload_n 0, 1, 0, 0, 0, 0), (8, .iconst 0, 1, 0, 0, 0, 0), 
  (9, .putfield 32, 3, 6, 2, 0, 442), (12, .aload_n 0, 1, 0, 0, 0, 0), (13, .iconst 0, 1, 0, 0, 0, 0), (14, .putfield 36, 3, 6, 5, 0, 447), (17, .return_, 1, 0, 0, 0, 0)]
/-- DropSwitch$Setup addPort (III)V -/
noncomputable def cd_67 : List (Nat × Ent) := [
  (0, .aload_n 0, 1, 0, 0, 0, 0), (1, .getfield 12, 3, 6, 0, 2, 438), (4, .getfield 39, 3, 1, 0, 0, 376), (7, .istore 4, 2, 0, 0, 0, 0), (9, .iload 4, 2, 0, 0, 0, 0), 
  (11, .iconst 4, 1, 0, 0, 0, 0), (12, .if_icmp .lt 4, 3, 0, 0, 0, 0), (15, .return_, 1, 0, 0, 0, 0), (16, .aload_n 0, 1, 0, 0, 0, 0), (17, .getfield 18, 3, 6, 1, 2, 441), 
  (20, .iload 4, 2, 0, 0, 0, 0), (22, .iload_n 1, 1, 0, 0, 0, 0), (23, .iastore, 1, 0, 0, 0, 0), (24, .aload_n 0, 1, 0, 0, 0, 0), (25, .getfield 12, 3, 6, 0, 2, 438), 
  (28, .getfield 42, 3, 1, 1, 2, 381), (31, .iload 4, 2, 0, 0, 0, 0), (33, .iload_n 2, 1, 0, 0, 0, 0), (34, .iastore, 1, 0, 0, 0, 0), (35, .aload_n 0, 1, 0, 0, 0, 0), 
  (36, .getfield 12, 3, 6, 0, 2, 438), (39, .getfield 45, 3, 1, 2, 2, 384), (42, .iload 4, 2, 0, 0, 0, 0), (44, .iload_n 3, 1, 0, 0, 0, 0), (45, .iastore, 1, 0, 0, 0, 0), 
  (46, .aload_n 0, 1, 0, 0, 0, 0), (47, .getfield 12, 3, 6, 0, 2, 438), (50, .getfield 48, 3, 1, 3, 2, 387), (53, .iload 4, 2, 0, 0, 0, 0), (55, .iconst (-1), 1, 0, 0, 0, 0), 
  (56, .iastore, 1, 0, 0, 0, 0), (57, .aload_n 0, 1, 0, 0, 0, 0), (58, .getfield 12, 3, 6, 0, 2, 438), (61, .getfield 51, 3, 1, 4, 2, 392), (64, .iload 4, 2, 0, 0, 0, 0), 
  (66, .iconst 0, 1, 0, 0, 0, 0), (67, .iastore, 1, 0, 0, 0, 0), (68, .aload_n 0, 1, 0, 0, 0, 0), (69, .getfield 12, 3, 6, 0, 2, 438), (72, .dup, 1, 0, 0, 0, 0), 
  (73, .getfield 39, 3, 1, 0, 0, 376), (76, .iconst 1, 1, 0, 0, 0, 0), (77, .iadd, 1, 0, 0, 0, 0), (78, .putfield 39, 3, 1, 0, 0, 376), (81, .return_, 1, 0, 0, 0, 0)]
/-- DropSwitch$Setup portNamed (I)I -/
noncomputable def cd_68 : List (Nat × Ent) := [
  (0, .iconst 0, 1, 0, 0, 0, 0), (1, .istore_n 2, 1, 0, 0, 0, 0), (2, .iload_n 2, 1, 0, 0, 0, 0), (3, .aload_n 0, 1, 0, 0, 0, 0), (4, .getfield 12, 3, 6, 0, 2, 438), 
  (7, .getfield 39, 3, 1, 0, 0, 376), (10, .if_icmp .ge 21, 3, 0, 0, 0, 0), (13, .aload_n 0, 1, 0, 0, 0, 0), (14, .getfield 18, 3, 6, 1, 2, 441), (17, .iload_n 2, 1, 0, 0, 0, 0), 
  (18, .iaload, 1, 0, 0, 0, 0), (19, .iload_n 1, 1, 0, 0, 0, 0), (20, .if_icmp .ne 5, 3, 0, 0, 0, 0), (23, .iload_n 2, 1, 0, 0, 0, 0), (24, .ireturn, 1, 0, 0, 0, 0), 
  (25, .iinc 2 1, 3, 0, 0, 0, 0), (28, .goto (-26), 3, 0, 0, 0, 0), (31, .iconst (-1), 1, 0, 0, 0, 0), (32, .ireturn, 1, 0, 0, 0, 0)]
/-- DropSwitch$Setup nameOf (I)I -/
noncomputable def cd_69 : List (Nat × Ent) := [
  (0, .aload_n 0, 1, 0, 0, 0, 0), (1, .getfield 18, 3, 6, 1, 2, 441), (4, .iload_n 1, 1, 0, 0, 0, 0), (5, .iaload, 1, 0, 0, 0, 0), (6, .ireturn, 1, 0, 0, 0, 0)]
/-- DropSwitch$Setup addItem (II)V -/
noncomputable def cd_70 : List (Nat × Ent) := [
  (0, .aload_n 0, 1, 0, 0, 0, 0), (1, .getfield 36, 3, 6, 5, 0, 447), (4, .aload_n 0, 1, 0, 0, 0, 0), (5, .getfield 25, 3, 6, 4, 2, 446), (8, .arraylength, 1, 0, 0, 0, 0), 
  (9, .if_icmp .ge 27, 3, 0, 0, 0, 0), (12, .aload_n 0, 1, 0, 0, 0, 0), (13, .getfield 25, 3, 6, 4, 2, 446), (16, .aload_n 0, 1, 0, 0, 0, 0), (17, .getfield 36, 3, 6, 5, 0, 447), 
  (20, .iload_n 2, 1, 0, 0, 0, 0), (21, .iconst 4, 1, 0, 0, 0, 0), (22, .ishl, 1, 0, 0, 0, 0), (23, .iload_n 1, 1, 0, 0, 0, 0), (24, .ior, 1, 0, 0, 0, 0), 
  (25, .iastore, 1, 0, 0, 0, 0), (26, .aload_n 0, 1, 0, 0, 0, 0), (27, .dup, 1, 0, 0, 0, 0), (28, .getfield 36, 3, 6, 5, 0, 447), (31, .iconst 1, 1, 0, 0, 0, 0), 
  (32, .iadd, 1, 0, 0, 0, 0), (33, .putfield 36, 3, 6, 5, 0, 447), (36, .return_, 1, 0, 0, 0, 0)]
/-- DropSwitch$Setup addRule (Z)V -/
noncomputable def cd_71 : List (Nat × Ent) := [
  (0, .aload_n 0, 1, 0, 0, 0, 0), (1, .getfield 32, 3, 6, 2, 0, 442), (4, .bipush 8, 2, 0, 0, 0, 0), (6, .if_icmp .lt 4, 3, 0, 0, 0, 0), (9, .return_, 1, 0, 0, 0, 0), 
  (10, .iload_n 1, 1, 0, 0, 0, 0), (11, .ifCond .eq 21, 3, 0, 0, 0, 0), (14, .aload_n 0, 1, 0, 0, 0, 0), (15, .getfield 12, 3, 6, 0, 2, 438), (18, .dup, 1, 0, 0, 0, 0), 
  (19, .getfield 54, 3, 1, 8, 0, 405), (22, .iconst 1, 1, 0, 0, 0, 0), (23, .aload_n 0, 1, 0, 0, 0, 0), (24, .getfield 32, 3, 6, 2, 0, 442), (27, .ishl, 1, 0, 0, 0, 0), 
  (28, .ior, 1, 0, 0, 0, 0), (29, .putfield 54, 3, 1, 8, 0, 405), (32, .aload_n 0, 1, 0, 0, 0, 0), (33, .dup, 1, 0, 0, 0, 0), (34, .getfield 32, 3, 6, 2, 0, 442), 
  (37, .iconst 1, 1, 0, 0, 0, 0), (38, .iadd, 1, 0, 0, 0, 0), (39, .putfield 32, 3, 6, 2, 0, 442), (42, .aload_n 0, 1, 0, 0, 0, 0), (43, .getfield 22, 3, 6, 3, 2, 445), 
  (46, .aload_n 0, 1, 0, 0, 0, 0), (47, .getfield 32, 3, 6, 2, 0, 442), (50, .aload_n 0, 1, 0, 0, 0, 0), (51, .getfield 36, 3, 6, 5, 0, 447), (54, .iastore, 1, 0, 0, 0, 0), 
  (55, .return_, 1, 0, 0, 0, 0)]
/-- DropSwitch$Setup rulesHolding (LDropSwitch$History;I)I -/
noncomputable def cd_72 : List (Nat × Ent) := [
  (0, .iconst 0, 1, 0, 0, 0, 0), (1, .istore_n 3, 1, 0, 0, 0, 0), (2, .iconst 0, 1, 0, 0, 0, 0), (3, .istore 4, 2, 0, 0, 0, 0), (5, .iload 4, 2, 0, 0, 0, 0), 
  (7, .aload_n 0, 1, 0, 0, 0, 0), (8, .getfield 32, 3, 6, 2, 0, 442), (11, .if_icmp .ge 27, 3, 0, 0, 0, 0), (14, .aload_n 0, 1, 0, 0, 0, 0), (15, .iload 4, 2, 0, 0, 0, 0), 
  (17, .aload_n 1, 1, 0, 0, 0, 0), (18, .iload_n 2, 1, 0, 0, 0, 0), (19, .invokevirtual 57, 3, 73, 4, 0, 1230), (22, .ifCond .eq 10, 3, 0, 0, 0, 0), (25, .iload_n 3, 1, 0, 0, 0, 0), 
  (26, .iconst 1, 1, 0, 0, 0, 0), (27, .iload 4, 2, 0, 0, 0, 0), (29, .ishl, 1, 0, 0, 0, 0), (30, .ior, 1, 0, 0, 0, 0), (31, .istore_n 3, 1, 0, 0, 0, 0), 
  (32, .iinc 4 1, 3, 0, 0, 0, 0), (35, .goto (-30), 3, 0, 0, 0, 0), (38, .iload_n 3, 1, 0, 0, 0, 0), (39, .ireturn, 1, 0, 0, 0, 0)]
/-- DropSwitch$Setup holds (ILDropSwitch$History;I)Z -/
noncomputable def cd_73 : List (Nat × Ent) := [
  (0, .iconst 0, 1, 0, 0, 0, 0), (1, .istore 4, 2, 0, 0, 0, 0), (3, .aload_n 0, 1, 0, 0, 0, 0), (4, .getfield 22, 3, 6, 3, 2, 445), (7, .iload_n 1, 1, 0, 0, 0, 0), 
  (8, .iaload, 1, 0, 0, 0, 0), (9, .istore 5, 2, 0, 0, 0, 0), (11, .iload 5, 2, 0, 0, 0, 0), (13, .aload_n 0, 1, 0, 0, 0, 0), (14, .getfield 22, 3, 6, 3, 2, 445), 
  (17, .iload_n 1, 1, 0, 0, 0, 0), (18, .iconst 1, 1, 0, 0, 0, 0), (19, .iadd, 1, 0, 0, 0, 0), (20, .iaload, 1, 0, 0, 0, 0), (21, .if_icmp .ge 110, 3, 0, 0, 0, 0), 
  (24, .aload_n 0, 1, 0, 0, 0, 0), (25, .getfield 25, 3, 6, 4, 2, 446), (28, .iload 5, 2, 0, 0, 0, 0), (30, .iaload, 1, 0, 0, 0, 0), (31, .bipush 15, 2, 0, 0, 0, 0), 
  (33, .iand, 1, 0, 0, 0, 0), (34, .tableswitch 64 0 2 #[26, 35, 50], 26, 0, 0, 0, 0), (60, .iload 4, 2, 0, 0, 0, 0), (62, .iconst 1, 1, 0, 0, 0, 0), (63, .ixor, 1, 0, 0, 0, 0), 
  (64, .istore 4, 2, 0, 0, 0, 0), (66, .goto 59, 3, 0, 0, 0, 0), (69, .iload 4, 2, 0, 0, 0, 0), (71, .iconst 1, 1, 0, 0, 0, 0), (72, .iushr, 1, 0, 0, 0, 0), 
  (73, .iload 4, 2, 0, 0, 0, 0), (75, .bipush (-2), 2, 0, 0, 0, 0), (77, .ior, 1, 0, 0, 0, 0), (78, .iand, 1, 0, 0, 0, 0), (79, .istore 4, 2, 0, 0, 0, 0), 
  (81, .goto 44, 3, 0, 0, 0, 0), (84, .iload 4, 2, 0, 0, 0, 0), (86, .iconst 1, 1, 0, 0, 0, 0), (87, .iushr, 1, 0, 0, 0, 0), (88, .iload 4, 2, 0, 0, 0, 0), 
  (90, .iconst 1, 1, 0, 0, 0, 0), (91, .iand, 1, 0, 0, 0, 0), (92, .ior, 1, 0, 0, 0, 0), (93, .istore 4, 2, 0, 0, 0, 0), (95, .goto 30, 3, 0, 0, 0, 0), (98, .iload 4, 2, 0, 0, 0, 0), 
  (100, .iconst 1, 1, 0, 0, 0, 0), (101, .ishl, 1, 0, 0, 0, 0), (102, .aload_n 0, 1, 0, 0, 0, 0), (103, .getfield 25, 3, 6, 4, 2, 446), (106, .iload 5, 2, 0, 0, 0, 0), 
  (108, .iaload, 1, 0, 0, 0, 0), (109, .aload_n 2, 1, 0, 0, 0, 0), (110, .iload_n 3, 1, 0, 0, 0, 0), (111, .invokestatic 61, 3, 74, 3, 1, 1234), (114, .ifCond .eq 7, 3, 0, 0, 0, 0), 
  (117, .iconst 1, 1, 0, 0, 0, 0), (118, .goto 4, 3, 0, 0, 0, 0), (121, .iconst 0, 1, 0, 0, 0, 0), (122, .ior, 1, 0, 0, 0, 0), (123, .istore 4, 2, 0, 0, 0, 0), 
  (125, .iinc 5 1, 3, 0, 0, 0, 0), (128, .goto (-117), 3, 0, 0, 0, 0), (131, .iload 4, 2, 0, 0, 0, 0), (133, .iconst 1, 1, 0, 0, 0, 0), (134, .iand, 1, 0, 0, 0, 0), 
  (135, .ifCond .eq 7, 3, 0, 0, 0, 0), (138, .iconst 1, 1, 0, 0, 0, 0), (139, .goto 4, 3, 0, 0, 0, 0), (142, .iconst 0, 1, 0, 0, 0, 0), (143, .ireturn, 1, 0, 0, 1, 0)]
/-- DropSwitch$Setup isTrue (ILDropSwitch$History;I)Z -/
noncomputable def cd_74 : List (Nat × Ent) := [
  (0, .iload_n 0, 1, 0, 0, 0, 0), (1, .iconst 4, 1, 0, 0, 0, 0), (2, .ishr, 1, 0, 0, 0, 0), (3, .istore_n 3, 1, 0, 0, 0, 0), (4, .iload_n 0, 1, 0, 0, 0, 0), 
  (5, .bipush 15, 2, 0, 0, 0, 0), (7, .iand, 1, 0, 0, 0, 0), (8, .tableswitch 95 4 8 #[36, 51, 62, 73, 84], 36, 0, 0, 0, 0), (44, .aload_n 1, 1, 0, 0, 0, 0), 
  (45, .iload_n 2, 1, 0, 0, 0, 0), (46, .invokevirtual 64, 3, 4, 2, 0, 1237), (49, .iload_n 3, 1, 0, 0, 0, 0), (50, .if_icmp .ne 7, 3, 0, 0, 0, 0), (53, .iconst 1, 1, 0, 0, 0, 0), 
  (54, .goto 4, 3, 0, 0, 0, 0), (57, .iconst 0, 1, 0, 0, 0, 0), (58, .ireturn, 1, 0, 0, 1, 0), (59, .aload_n 1, 1, 0, 0, 0, 0), (60, .getfield 70, 3, 0, 6, 2, 521), 
  (63, .iload_n 2, 1, 0, 0, 0, 0), (64, .iaload, 1, 0, 0, 0, 0), (65, .iload_n 3, 1, 0, 0, 0, 0), (66, .invokestatic 73, 3, 76, 2, 1, 1241), (69, .ireturn, 1, 0, 0, 1, 0), 
  (70, .aload_n 1, 1, 0, 0, 0, 0), (71, .getfield 77, 3, 0, 7, 2, 524), (74, .iload_n 2, 1, 0, 0, 0, 0), (75, .iaload, 1, 0, 0, 0, 0), (76, .iload_n 3, 1, 0, 0, 0, 0), 
  (77, .invokestatic 73, 3, 76, 2, 1, 1241), (80, .ireturn, 1, 0, 0, 1, 0), (81, .aload_n 1, 1, 0, 0, 0, 0), (82, .getfield 80, 3, 0, 8, 2, 526), (85, .iload_n 2, 1, 0, 0, 0, 0), 
  (86, .iaload, 1, 0, 0, 0, 0), (87, .iload_n 3, 1, 0, 0, 0, 0), (88, .invokestatic 73, 3, 76, 2, 1, 1241), (91, .ireturn, 1, 0, 0, 1, 0), (92, .aload_n 1, 1, 0, 0, 0, 0), 
  (93, .getfield 83, 3, 0, 9, 2, 528), (96, .iload_n 2, 1, 0, 0, 0, 0), (97, .iaload, 1, 0, 0, 0, 0), (98, .iload_n 3, 1, 0, 0, 0, 0), (99, .invokestatic 73, 3, 76, 2, 1, 1241), 
  (102, .ireturn, 1, 0, 0, 1, 0), (103, .iconst 1, 1, 0, 0, 0, 0), (104, .ireturn, 1, 0, 0, 1, 0)]
/-- DropSwitch$Setup comparison (II)I -/
noncomputable def cd_75 : List (Nat × Ent) := [
  (0, .iload_n 1, 1, 0, 0, 0, 0), (1, .iconst 2, 1, 0, 0, 0, 0), (2, .ishl, 1, 0, 0, 0, 0), (3, .iload_n 0, 1, 0, 0, 0, 0), (4, .iconst 1, 1, 0, 0, 0, 0), (5, .iadd, 1, 0, 0, 0, 0), 
  (6, .ior, 1, 0, 0, 0, 0), (7, .ireturn, 1, 0, 0, 0, 0)]
/-- DropSwitch$Setup compares (II)Z -/
noncomputable def cd_76 : List (Nat × Ent) := [
  (0, .iload_n 0, 1, 0, 0, 0, 0), (1, .iload_n 1, 1, 0, 0, 0, 0), (2, .iconst 2, 1, 0, 0, 0, 0), (3, .ishr, 1, 0, 0, 0, 0), (4, .invokestatic 86, 3, 297, 2, 1, 1244), 
  (7, .iload_n 1, 1, 0, 0, 0, 0), (8, .iconst 3, 1, 0, 0, 0, 0), (9, .iand, 1, 0, 0, 0, 0), (10, .iconst 1, 1, 0, 0, 0, 0), (11, .isub, 1, 0, 0, 0, 0), 
  (12, .if_icmp .ne 7, 3, 0, 0, 0, 0), (15, .iconst 1, 1, 0, 0, 0, 0), (16, .goto 4, 3, 0, 0, 0, 0), (19, .iconst 0, 1, 0, 0, 0, 0), (20, .ireturn, 1, 0, 0, 1, 0)]
/-- DropSwitch$State <init> ()V -/
noncomputable def cd_77 : List (Nat × Ent) := [
  (0, .aload_n 0, 1, 0, 0, 0, 0), (1, .invokespecial 3, 3, 0, 1, 4, 570), (4, .aload_n 0, 1, 0, 0, 0, 0), (5, .iconst 4, 1, 0, 0, 0, 0), (6, .newarray .int, 2, 1, 0, 0, 0), 
  (8, .putfield 9, 3, 7, 2, 12, 575), (11, .aload_n 0, 1, 0, 0, 0, 0), (12, .iconst 4, 1, 0, 0, 0, 0), (13, .newarray .int, 2, 1, 0, 0, 0), (15, .putfield 15, 3, 7, 3, 12, 577), 
  (18, .aload_n 0, 1, 0, 0, 0, 0), (19, .iconst 4, 1, 0, 0, 0, 0), (20, .newarray .int, 2, 1, 0, 0, 0), (22, .putfield 18, 3, 7, 4, 12, 581), (25, .aload_n 0, 1, 0, 0, 0, 0), 
  (26, .sipush 480, 3, 0, 0, 0, 0), (29, .newarray .int, 2, 1, 0, 0, 0), (31, .putfield 21, 3, 7, 5, 12, 584), (34, .aload_n 0, 1, 0, 0, 0, 0), (35, .sipush 480, 3, 0, 0, 0, 0), 
  (38, .newarray .int, 2, 1, 0, 0, 0), (40, .putfield 24, 3, 7, 6, 12, 585), (43, .aload_n 0, 1, 0, 0, 0, 0), (44, .bipush 64, 2, 0, 0, 0, 0), (46, .newarray .int, 2, 1, 0, 0, 0), 
  (48, .putfield 27, 3, 7, 7, 12, 586), (51, .aload_n 0, 1, 0, 0, 0, 0), (52, .bipush 64, 2, 0, 0, 0, 0), (54, .newarray .int, 2, 1, 0, 0, 0), (56, .putfield 30, 3, 7, 8, 12, 587), 
  (59, .return_, 1, 0, 0, 0, 0)]
/-- DropSwitch$State start (LDropSwitch$Limits;)V -/
noncomputable def cd_78 : List (Nat × Ent) := [
  (0, .aload_n 0, 1, 0, 0, 0, 0), (1, .iconst 0, 1, 0, 0, 0, 0), (2, .putfield 33, 3, 7, 0, 0, 571), (5, .aload_n 0, 1, 0, 0, 0, 0), (6, .iconst 0, 1, 0, 0, 0, 0), 
  (7, .putfield 37, 3, 7, 1, 0, 574), (10, .iconst 0, 1, 0, 0, 0, 0), (11, .istore_n 2, 1, 0, 0, 0, 0), (12, .iload_n 2, 1, 0, 0, 0, 0), (13, .iconst 4, 1, 0, 0, 0, 0), 
  (14, .if_icmp .ge 35, 3, 0, 0, 0, 0), (17, .aload_n 0, 1, 0, 0, 0, 0), (18, .getfield 9, 3, 7, 2, 2, 575), (21, .iload_n 2, 1, 0, 0, 0, 0), (22, .aload_n 1, 1, 0, 0, 0, 0), 
  (23, .getfield 40, 3, 1, 4, 2, 391), (26, .iload_n 2, 1, 0, 0, 0, 0), (27, .iaload, 1, 0, 0, 0, 0), (28, .iastore, 1, 0, 0, 0, 0), (29, .aload_n 0, 1, 0, 0, 0, 0), 
  (30, .getfield 15, 3, 7, 3, 2, 577), (33, .iload_n 2, 1, 0, 0, 0, 0), (34, .iconst 0, 1, 0, 0, 0, 0), (35, .iastore, 1, 0, 0, 0, 0), (36, .aload_n 0, 1, 0, 0, 0, 0), 
  (37, .getfield 18, 3, 7, 4, 2, 581), (40, .iload_n 2, 1, 0, 0, 0, 0), (41, .iconst 0, 1, 0, 0, 0, 0), (42, .iastore, 1, 0, 0, 0, 0), (43, .iinc 2 1, 3, 0, 0, 0, 0), 
  (46, .goto (-34), 3, 0, 0, 0, 0), (49, .aload_n 0, 1, 0, 0, 0, 0), (50, .getfield 27, 3, 7, 7, 2, 586), (53, .iconst (-1), 1, 0, 0, 0, 0), (54, .invokestatic 45, 3, 305, 2, 1, 713), 
  (57, .return_, 1, 0, 0, 0, 0)]
/-- DropSwitch$State copyFrom (LDropSwitch$State;)V -/
noncomputable def cd_79 : List (Nat × Ent) := [
  (0, .aload_n 0, 1, 0, 0, 0, 0), (1, .aload_n 1, 1, 0, 0, 0, 0), (2, .getfield 33, 3, 7, 0, 0, 571), (5, .putfield 33, 3, 7, 0, 0, 571), (8, .aload_n 0, 1, 0, 0, 0, 0), 
  (9, .aload_n 1, 1, 0, 0, 0, 0), (10, .getfield 37, 3, 7, 1, 0, 574), (13, .putfield 37, 3, 7, 1, 0, 574), (16, .aload_n 1, 1, 0, 0, 0, 0), (17, .getfield 9, 3, 7, 2, 2, 575), 
  (20, .iconst 0, 1, 0, 0, 0, 0), (21, .aload_n 0, 1, 0, 0, 0, 0), (22, .getfield 9, 3, 7, 2, 2, 575), (25, .iconst 0, 1, 0, 0, 0, 0), (26, .iconst 4, 1, 0, 0, 0, 0), 
  (27, .invokestatic 51, 3, 0, 5, 6, 723), (30, .aload_n 1, 1, 0, 0, 0, 0), (31, .getfield 15, 3, 7, 3, 2, 577), (34, .iconst 0, 1, 0, 0, 0, 0), (35, .aload_n 0, 1, 0, 0, 0, 0), 
  (36, .getfield 15, 3, 7, 3, 2, 577), (39, .iconst 0, 1, 0, 0, 0, 0), (40, .iconst 4, 1, 0, 0, 0, 0), (41, .invokestatic 51, 3, 0, 5, 6, 723), (44, .aload_n 1, 1, 0, 0, 0, 0), 
  (45, .getfield 18, 3, 7, 4, 2, 581), (48, .iconst 0, 1, 0, 0, 0, 0), (49, .aload_n 0, 1, 0, 0, 0, 0), (50, .getfield 18, 3, 7, 4, 2, 581), (53, .iconst 0, 1, 0, 0, 0, 0), 
  (54, .iconst 4, 1, 0, 0, 0, 0), (55, .invokestatic 51, 3, 0, 5, 6, 723), (58, .iconst 0, 1, 0, 0, 0, 0), (59, .istore_n 2, 1, 0, 0, 0, 0), (60, .iload_n 2, 1, 0, 0, 0, 0), 
  (61, .iconst 4, 1, 0, 0, 0, 0), (62, .if_icmp .ge 52, 3, 0, 0, 0, 0), (65, .iload_n 2, 1, 0, 0, 0, 0), (66, .bipush 120, 2, 0, 0, 0, 0), (68, .imul, 1, 0, 0, 0, 0), 
  (69, .istore_n 3, 1, 0, 0, 0, 0), (70, .aload_n 1, 1, 0, 0, 0, 0), (71, .getfield 21, 3, 7, 5, 2, 584), (74, .iload_n 3, 1, 0, 0, 0, 0), (75, .aload_n 0, 1, 0, 0, 0, 0), 
  (76, .getfield 21, 3, 7, 5, 2, 584), (79, .iload_n 3, 1, 0, 0, 0, 0), (80, .aload_n 0, 1, 0, 0, 0, 0), (81, .getfield 18, 3, 7, 4, 2, 581), (84, .iload_n 2, 1, 0, 0, 0, 0), 
  (85, .iaload, 1, 0, 0, 0, 0), (86, .invokestatic 51, 3, 0, 5, 6, 723), (89, .aload_n 1, 1, 0, 0, 0, 0), (90, .getfield 24, 3, 7, 6, 2, 585), (93, .iload_n 3, 1, 0, 0, 0, 0), 
  (94, .aload_n 0, 1, 0, 0, 0, 0), (95, .getfield 24, 3, 7, 6, 2, 585), (98, .iload_n 3, 1, 0, 0, 0, 0), (99, .aload_n 0, 1, 0, 0, 0, 0), (100, .getfield 18, 3, 7, 4, 2, 581), 
  (103, .iload_n 2, 1, 0, 0, 0, 0), (104, .iaload, 1, 0, 0, 0, 0), (105, .invokestatic 51, 3, 0, 5, 6, 723), (108, .iinc 2 1, 3, 0, 0, 0, 0), (111, .goto (-51), 3, 0, 0, 0, 0), 
  (114, .aload_n 1, 1, 0, 0, 0, 0), (115, .getfield 27, 3, 7, 7, 2, 586), (118, .iconst 0, 1, 0, 0, 0, 0), (119, .aload_n 0, 1, 0, 0, 0, 0), (120, .getfield 27, 3, 7, 7, 2, 586), 
  (123, .iconst 0, 1, 0, 0, 0, 0), (124, .bipush 64, 2, 0, 0, 0, 0), (126, .invokestatic 51, 3, 0, 5, 6, 723), (129, .aload_n 1, 1, 0, 0, 0, 0), (130, .getfield 30, 3, 7, 8, 2, 587), 
  (133, .iconst 0, 1, 0, 0, 0, 0), (134, .aload_n 0, 1, 0, 0, 0, 0), (135, .getfield 30, 3, 7, 8, 2, 587), (138, .iconst 0, 1, 0, 0, 0, 0), (139, .bipush 64, 2, 0, 0, 0, 0), 
  (141, .invokestatic 51, 3, 0, 5, 6, 723), (144, .return_, 1, 0, 0, 0, 0)]
/-- DropSwitch$State hasLink (I)Z -/
noncomputable def cd_80 : List (Nat × Ent) := [
  (0, .aload_n 0, 1, 0, 0, 0, 0), (1, .getfield 37, 3, 7, 1, 0, 574), (4, .iload_n 1, 1, 0, 0, 0, 0), (5, .ishr, 1, 0, 0, 0, 0), (6, .iconst 1, 1, 0, 0, 0, 0), 
  (7, .iand, 1, 0, 0, 0, 0), (8, .ifCond .ne 7, 3, 0, 0, 0, 0), (11, .iconst 1, 1, 0, 0, 0, 0), (12, .goto 4, 3, 0, 0, 0, 0), (15, .iconst 0, 1, 0, 0, 0, 0), 
  (16, .ireturn, 1, 0, 0, 1, 0)]
/-- DropSwitch$State setLink (IZ)V -/
noncomputable def cd_81 : List (Nat × Ent) := [
  (0, .iload_n 2, 1, 0, 0, 0, 0), (1, .ifCond .eq 20, 3, 0, 0, 0, 0), (4, .aload_n 0, 1, 0, 0, 0, 0), (5, .dup, 1, 0, 0, 0, 0), (6, .getfield 37, 3, 7, 1, 0, 574), 
  (9, .iconst 1, 1, 0, 0, 0, 0), (10, .iload_n 1, 1, 0, 0, 0, 0), (11, .ishl, 1, 0, 0, 0, 0), (12, .iconst (-1), 1, 0, 0, 0, 0), (13, .ixor, 1, 0, 0, 0, 0), 
  (14, .iand, 1, 0, 0, 0, 0), (15, .putfield 37, 3, 7, 1, 0, 574), (18, .goto 15, 3, 0, 0, 0, 0), (21, .aload_n 0, 1, 0, 0, 0, 0), (22, .dup, 1, 0, 0, 0, 0), 
  (23, .getfield 37, 3, 7, 1, 0, 574), (26, .iconst 1, 1, 0, 0, 0, 0), (27, .iload_n 1, 1, 0, 0, 0, 0), (28, .ishl, 1, 0, 0, 0, 0), (29, .ior, 1, 0, 0, 0, 0), 
  (30, .putfield 37, 3, 7, 1, 0, 574), (33, .return_, 1, 0, 0, 0, 0)]
/-- DropSwitch$State spend (II)Z -/
noncomputable def cd_82 : List (Nat × Ent) := [
  (0, .aload_n 0, 1, 0, 0, 0, 0), (1, .getfield 9, 3, 7, 2, 2, 575), (4, .iload_n 1, 1, 0, 0, 0, 0), (5, .iaload, 1, 0, 0, 0, 0), (6, .iload_n 2, 1, 0, 0, 0, 0), 
  (7, .if_icmp .ge 5, 3, 0, 0, 0, 0), (10, .iconst 0, 1, 0, 0, 0, 0), (11, .ireturn, 1, 0, 0, 1, 0), (12, .aload_n 0, 1, 0, 0, 0, 0), (13, .getfield 9, 3, 7, 2, 2, 575), 
  (16, .iload_n 1, 1, 0, 0, 0, 0), (17, .dup2, 1, 0, 0, 0, 0), (18, .iaload, 1, 0, 0, 0, 0), (19, .iload_n 2, 1, 0, 0, 0, 0), (20, .isub, 1, 0, 0, 0, 0), 
  (21, .iastore, 1, 0, 0, 0, 0), (22, .iconst 1, 1, 0, 0, 0, 0), (23, .ireturn, 1, 0, 0, 1, 0)]
/-- DropSwitch$State allUnits ()I -/
noncomputable def cd_83 : List (Nat × Ent) := [
  (0, .iconst 0, 1, 0, 0, 0, 0), (1, .istore_n 1, 1, 0, 0, 0, 0), (2, .iconst 0, 1, 0, 0, 0, 0), (3, .istore_n 2, 1, 0, 0, 0, 0), (4, .iload_n 2, 1, 0, 0, 0, 0), 
  (5, .iconst 4, 1, 0, 0, 0, 0), (6, .if_icmp .ge 18, 3, 0, 0, 0, 0), (9, .iload_n 1, 1, 0, 0, 0, 0), (10, .aload_n 0, 1, 0, 0, 0, 0), (11, .getfield 15, 3, 7, 3, 2, 577), 
  (14, .iload_n 2, 1, 0, 0, 0, 0), (15, .iaload, 1, 0, 0, 0, 0), (16, .iadd, 1, 0, 0, 0, 0), (17, .istore_n 1, 1, 0, 0, 0, 0), (18, .iinc 2 1, 3, 0, 0, 0, 0), 
  (21, .goto (-17), 3, 0, 0, 0, 0), (24, .iload_n 1, 1, 0, 0, 0, 0), (25, .ireturn, 1, 0, 0, 0, 0)]
/-- DropSwitch$State packetAt (II)I -/
noncomputable def cd_84 : List (Nat × Ent) := [
  (0, .iload_n 2, 1, 0, 0, 0, 0), (1, .ifCond .lt 27, 3, 0, 0, 0, 0), (4, .iload_n 2, 1, 0, 0, 0, 0), (5, .aload_n 0, 1, 0, 0, 0, 0), (6, .getfield 18, 3, 7, 4, 2, 581), 
  (9, .iload_n 1, 1, 0, 0, 0, 0), (10, .iaload, 1, 0, 0, 0, 0), (11, .if_icmp .ge 17, 3, 0, 0, 0, 0), (14, .aload_n 0, 1, 0, 0, 0, 0), (15, .getfield 21, 3, 7, 5, 2, 584), 
  (18, .iload_n 1, 1, 0, 0, 0, 0), (19, .bipush 120, 2, 0, 0, 0, 0), (21, .imul, 1, 0, 0, 0, 0), (22, .iload_n 2, 1, 0, 0, 0, 0), (23, .iadd, 1, 0, 0, 0, 0), 
  (24, .iaload, 1, 0, 0, 0, 0), (25, .goto 4, 3, 0, 0, 0, 0), (28, .iconst (-1), 1, 0, 0, 0, 0), (29, .ireturn, 1, 0, 0, 0, 0)]
/-- DropSwitch$State ageOf (II)I -/
noncomputable def cd_85 : List (Nat × Ent) := [
  (0, .iload_n 2, 1, 0, 0, 0, 0), (1, .ifCond .lt 32, 3, 0, 0, 0, 0), (4, .iload_n 2, 1, 0, 0, 0, 0), (5, .aload_n 0, 1, 0, 0, 0, 0), (6, .getfield 18, 3, 7, 4, 2, 581), 
  (9, .iload_n 1, 1, 0, 0, 0, 0), (10, .iaload, 1, 0, 0, 0, 0), (11, .if_icmp .ge 22, 3, 0, 0, 0, 0), (14, .aload_n 0, 1, 0, 0, 0, 0), (15, .getfield 33, 3, 7, 0, 0, 571), 
  (18, .aload_n 0, 1, 0, 0, 0, 0), (19, .getfield 24, 3, 7, 6, 2, 585), (22, .iload_n 1, 1, 0, 0, 0, 0), (23, .bipush 120, 2, 0, 0, 0, 0), (25, .imul, 1, 0, 0, 0, 0), 
  (26, .iload_n 2, 1, 0, 0, 0, 0), (27, .iadd, 1, 0, 0, 0, 0), (28, .iaload, 1, 0, 0, 0, 0), (29, .isub, 1, 0, 0, 0, 0), (30, .goto 4, 3, 0, 0, 0, 0), (33, .iconst 0, 1, 0, 0, 0, 0), 
  (34, .ireturn, 1, 0, 0, 0, 0)]
/-- DropSwitch$State putLast (III)V -/
noncomputable def cd_86 : List (Nat × Ent) := [
  (0, .aload_n 0, 1, 0, 0, 0, 0), (1, .getfield 18, 3, 7, 4, 2, 581), (4, .iload_n 1, 1, 0, 0, 0, 0), (5, .iaload, 1, 0, 0, 0, 0), (6, .bipush 120, 2, 0, 0, 0, 0), 
  (8, .if_icmp .lt 4, 3, 0, 0, 0, 0), (11, .return_, 1, 0, 0, 0, 0), (12, .iload_n 1, 1, 0, 0, 0, 0), (13, .bipush 120, 2, 0, 0, 0, 0), (15, .imul, 1, 0, 0, 0, 0), 
  (16, .aload_n 0, 1, 0, 0, 0, 0), (17, .getfield 18, 3, 7, 4, 2, 581), (20, .iload_n 1, 1, 0, 0, 0, 0), (21, .iaload, 1, 0, 0, 0, 0), (22, .iadd, 1, 0, 0, 0, 0), 
  (23, .istore 4, 2, 0, 0, 0, 0), (25, .aload_n 0, 1, 0, 0, 0, 0), (26, .getfield 21, 3, 7, 5, 2, 584), (29, .iload 4, 2, 0, 0, 0, 0), (31, .iload_n 2, 1, 0, 0, 0, 0), 
  (32, .iastore, 1, 0, 0, 0, 0), (33, .aload_n 0, 1, 0, 0, 0, 0), (34, .getfield 24, 3, 7, 6, 2, 585), (37, .iload 4, 2, 0, 0, 0, 0), (39, .aload_n 0, 1, 0, 0, 0, 0), 
  (40, .getfield 33, 3, 7, 0, 0, 571), (43, .iastore, 1, 0, 0, 0, 0), (44, .aload_n 0, 1, 0, 0, 0, 0), (45, .getfield 18, 3, 7, 4, 2, 581), (48, .iload_n 1, 1, 0, 0, 0, 0), 
  (49, .dup2, 1, 0, 0, 0, 0), (50, .iaload, 1, 0, 0, 0, 0), (51, .iconst 1, 1, 0, 0, 0, 0), (52, .iadd, 1, 0, 0, 0, 0), (53, .iastore, 1, 0, 0, 0, 0), (54, .aload_n 0, 1, 0, 0, 0, 0), 
  (55, .getfield 15, 3, 7, 3, 2, 577), (58, .iload_n 1, 1, 0, 0, 0, 0), (59, .dup2, 1, 0, 0, 0, 0), (60, .iaload, 1, 0, 0, 0, 0), (61, .iload_n 3, 1, 0, 0, 0, 0), 
  (62, .iadd, 1, 0, 0, 0, 0), (63, .iastore, 1, 0, 0, 0, 0), (64, .return_, 1, 0, 0, 0, 0)]
/-- DropSwitch$State remove (III)V -/
noncomputable def cd_87 : List (Nat × Ent) := [
  (0, .iload_n 2, 1, 0, 0, 0, 0), (1, .ifCond .lt 13, 3, 0, 0, 0, 0), (4, .iload_n 2, 1, 0, 0, 0, 0), (5, .aload_n 0, 1, 0, 0, 0, 0), (6, .getfield 18, 3, 7, 4, 2, 581), 
  (9, .iload_n 1, 1, 0, 0, 0, 0), (10, .iaload, 1, 0, 0, 0, 0), (11, .if_icmp .lt 4, 3, 0, 0, 0, 0), (14, .return_, 1, 0, 0, 0, 0), (15, .iload_n 1, 1, 0, 0, 0, 0), 
  (16, .bipush 120, 2, 0, 0, 0, 0), (18, .imul, 1, 0, 0, 0, 0), (19, .iload_n 2, 1, 0, 0, 0, 0), (20, .iadd, 1, 0, 0, 0, 0), (21, .istore 4, 2, 0, 0, 0, 0), 
  (23, .aload_n 0, 1, 0, 0, 0, 0), (24, .getfield 18, 3, 7, 4, 2, 581), (27, .iload_n 1, 1, 0, 0, 0, 0), (28, .iaload, 1, 0, 0, 0, 0), (29, .iload_n 2, 1, 0, 0, 0, 0), 
  (30, .isub, 1, 0, 0, 0, 0), (31, .iconst 1, 1, 0, 0, 0, 0), (32, .isub, 1, 0, 0, 0, 0), (33, .istore 5, 2, 0, 0, 0, 0), (35, .aload_n 0, 1, 0, 0, 0, 0), 
  (36, .getfield 21, 3, 7, 5, 2, 584), (39, .iload 4, 2, 0, 0, 0, 0), (41, .iconst 1, 1, 0, 0, 0, 0), (42, .iadd, 1, 0, 0, 0, 0), (43, .aload_n 0, 1, 0, 0, 0, 0), 
  (44, .getfield 21, 3, 7, 5, 2, 584), (47, .iload 4, 2, 0, 0, 0, 0), (49, .iload 5, 2, 0, 0, 0, 0), (51, .invokestatic 51, 3, 0, 5, 6, 723), (54, .aload_n 0, 1, 0, 0, 0, 0), 
  (55, .getfield 24, 3, 7, 6, 2, 585), (58, .iload 4, 2, 0, 0, 0, 0), (60, .iconst 1, 1, 0, 0, 0, 0), (61, .iadd, 1, 0, 0, 0, 0), (62, .aload_n 0, 1, 0, 0, 0, 0), 
  (63, .getfield 24, 3, 7, 6, 2, 585), (66, .iload 4, 2, 0, 0, 0, 0), (68, .iload 5, 2, 0, 0, 0, 0), (70, .invokestatic 51, 3, 0, 5, 6, 723), (73, .aload_n 0, 1, 0, 0, 0, 0), 
  (74, .getfield 18, 3, 7, 4, 2, 581), (77, .iload_n 1, 1, 0, 0, 0, 0), (78, .dup2, 1, 0, 0, 0, 0), (79, .iaload, 1, 0, 0, 0, 0), (80, .iconst 1, 1, 0, 0, 0, 0), 
  (81, .isub, 1, 0, 0, 0, 0), (82, .iastore, 1, 0, 0, 0, 0), (83, .aload_n 0, 1, 0, 0, 0, 0), (84, .getfield 15, 3, 7, 3, 2, 577), (87, .iload_n 1, 1, 0, 0, 0, 0), 
  (88, .dup2, 1, 0, 0, 0, 0), (89, .iaload, 1, 0, 0, 0, 0), (90, .iload_n 3, 1, 0, 0, 0, 0), (91, .isub, 1, 0, 0, 0, 0), (92, .iastore, 1, 0, 0, 0, 0), (93, .return_, 1, 0, 0, 0, 0)]
/-- DropSwitch$State learn (II)V -/
noncomputable def cd_88 : List (Nat × Ent) := [
  (0, .aload_n 0, 1, 0, 0, 0, 0), (1, .getfield 27, 3, 7, 7, 2, 586), (4, .iload_n 1, 1, 0, 0, 0, 0), (5, .iload_n 2, 1, 0, 0, 0, 0), (6, .iastore, 1, 0, 0, 0, 0), 
  (7, .aload_n 0, 1, 0, 0, 0, 0), (8, .getfield 30, 3, 7, 8, 2, 587), (11, .iload_n 1, 1, 0, 0, 0, 0), (12, .aload_n 0, 1, 0, 0, 0, 0), (13, .getfield 33, 3, 7, 0, 0, 571), 
  (16, .iastore, 1, 0, 0, 0, 0), (17, .return_, 1, 0, 0, 0, 0)]
/-- DropSwitch$State forget (I)V -/
noncomputable def cd_89 : List (Nat × Ent) := [
  (0, .iconst 0, 1, 0, 0, 0, 0), (1, .istore_n 2, 1, 0, 0, 0, 0), (2, .iload_n 2, 1, 0, 0, 0, 0), (3, .bipush 64, 2, 0, 0, 0, 0), (5, .if_icmp .ge 26, 3, 0, 0, 0, 0), 
  (8, .aload_n 0, 1, 0, 0, 0, 0), (9, .getfield 27, 3, 7, 7, 2, 586), (12, .iload_n 2, 1, 0, 0, 0, 0), (13, .iaload, 1, 0, 0, 0, 0), (14, .iload_n 1, 1, 0, 0, 0, 0), 
  (15, .if_icmp .ne 10, 3, 0, 0, 0, 0), (18, .aload_n 0, 1, 0, 0, 0, 0), (19, .getfield 27, 3, 7, 7, 2, 586), (22, .iload_n 2, 1, 0, 0, 0, 0), (23, .iconst (-1), 1, 0, 0, 0, 0), 
  (24, .iastore, 1, 0, 0, 0, 0), (25, .iinc 2 1, 3, 0, 0, 0, 0), (28, .goto (-26), 3, 0, 0, 0, 0), (31, .return_, 1, 0, 0, 0, 0)]
/-- DropSwitch$State wayTo (II)I -/
noncomputable def cd_90 : List (Nat × Ent) := [
  (0, .aload_n 0, 1, 0, 0, 0, 0), (1, .getfield 27, 3, 7, 7, 2, 586), (4, .iload_n 1, 1, 0, 0, 0, 0), (5, .iaload, 1, 0, 0, 0, 0), (6, .iconst (-1), 1, 0, 0, 0, 0), 
  (7, .if_icmp .eq 22, 3, 0, 0, 0, 0), (10, .aload_n 0, 1, 0, 0, 0, 0), (11, .getfield 33, 3, 7, 0, 0, 571), (14, .aload_n 0, 1, 0, 0, 0, 0), (15, .getfield 30, 3, 7, 8, 2, 587), 
  (18, .iload_n 1, 1, 0, 0, 0, 0), (19, .iaload, 1, 0, 0, 0, 0), (20, .isub, 1, 0, 0, 0, 0), (21, .iload_n 2, 1, 0, 0, 0, 0), (22, .if_icmp .gt 7, 3, 0, 0, 0, 0), 
  (25, .iconst 1, 1, 0, 0, 0, 0), (26, .goto 4, 3, 0, 0, 0, 0), (29, .iconst 0, 1, 0, 0, 0, 0), (30, .istore_n 3, 1, 0, 0, 0, 0), (31, .iload_n 3, 1, 0, 0, 0, 0), 
  (32, .ifCond .eq 12, 3, 0, 0, 0, 0), (35, .aload_n 0, 1, 0, 0, 0, 0), (36, .getfield 27, 3, 7, 7, 2, 586), (39, .iload_n 1, 1, 0, 0, 0, 0), (40, .iaload, 1, 0, 0, 0, 0), 
  (41, .goto 4, 3, 0, 0, 0, 0), (44, .iconst (-1), 1, 0, 0, 0, 0), (45, .ireturn, 1, 0, 0, 0, 0)]
/-- DropSwitch$Suppositions <init> ()V -/
noncomputable def cd_91 : List (Nat × Ent) := [
  (0, .aload_n 0, 1, 0, 0, 0, 0), (1, .invokespecial 3, 3, 0, 1, 4, 658), (4, .aload_n 0, 1, 0, 0, 0, 0), (5, .bipush 15, 2, 0, 0, 0, 0), (7, .newarray .int, 2, 1, 0, 0, 0), 
  (9, .putfield 11, 3, 8, 0, 12, 659), (12, .aload_n 0, 1, 0, 0, 0, 0), (13, .bipush 120, 2, 0, 0, 0, 0), (15, .newarray .boolean, 2, 4, 0, 0, 0), 
  (17, .putfield 15, 3, 8, 1, 12, 660), (20, .return_, 1, 0, 0, 0, 0)]
/-- DropSwitch$Suppositions clear ()V -/
noncomputable def cd_92 : List (Nat × Ent) := [
  (0, .aload_n 0, 1, 0, 0, 0, 0), (1, .getfield 11, 3, 8, 0, 2, 659), (4, .iconst (-1), 1, 0, 0, 0, 0), (5, .invokestatic 19, 3, 305, 2, 1, 695), (8, .iconst 0, 1, 0, 0, 0, 0), 
  (9, .istore_n 1, 1, 0, 0, 0, 0), (10, .iload_n 1, 1, 0, 0, 0, 0), (11, .bipush 120, 2, 0, 0, 0, 0), (13, .if_icmp .ge 16, 3, 0, 0, 0, 0), (16, .aload_n 0, 1, 0, 0, 0, 0), 
  (17, .getfield 15, 3, 8, 1, 2, 660), (20, .iload_n 1, 1, 0, 0, 0, 0), (21, .iconst 0, 1, 0, 0, 0, 0), (22, .bastore, 1, 0, 0, 0, 0), (23, .iinc 1 1, 3, 0, 0, 0, 0), 
  (26, .goto (-16), 3, 0, 0, 0, 0), (29, .return_, 1, 0, 0, 0, 0)]
/-- DropSwitch <init> ()V -/
noncomputable def cd_98 : List (Nat × Ent) := [
  (0, .aload_n 0, 1, 0, 0, 0, 0), (1, .invokespecial 3, 3, 0, 1, 4, 356), (4, .aload_n 0, 1, 0, 0, 0, 0), (5, .sipush 600, 3, 0, 0, 0, 0), (8, .newarray .byte, 2, 3, 0, 0, 0), 
  (10, .putfield 9, 3, 9, 0, 12, 724), (13, .aload_n 0, 1, 0, 0, 0, 0), (14, .iconst 0, 1, 0, 0, 0, 0), (15, .putfield 13, 3, 9, 1, 0, 725), (18, .aload_n 0, 1, 0, 0, 0, 0), 
  (19, .iconst (-1), 1, 0, 0, 0, 0), (20, .putfield 17, 3, 9, 2, 0, 726), (23, .aload_n 0, 1, 0, 0, 0, 0), (24, .iconst 0, 1, 0, 0, 0, 0), (25, .putfield 20, 3, 9, 3, 0, 727), 
  (28, .aload_n 0, 1, 0, 0, 0, 0), (29, .new 23, 3, 4, 11, 0, 357), (32, .dup, 1, 0, 0, 0, 0), (33, .aload_n 0, 1, 0, 0, 0, 0), (34, .getfield 9, 3, 9, 0, 2, 724), 
  (37, .invokespecial 25, 3, 30, 2, 2, 359), (40, .putfield 28, 3, 9, 4, 12, 728), (43, .aload_n 0, 1, 0, 0, 0, 0), (44, .new 32, 3, 6, 6, 0, 498), (47, .dup, 1, 0, 0, 0, 0), 
  (48, .invokespecial 34, 3, 65, 1, 2, 499), (51, .putfield 35, 3, 9, 5, 2, 729), (54, .aload_n 0, 1, 0, 0, 0, 0), (55, .new 39, 3, 0, 11, 0, 500), (58, .dup, 1, 0, 0, 0, 0), 
  (59, .invokespecial 41, 3, 0, 1, 3, 502), (62, .putfield 42, 3, 9, 6, 12, 730), (65, .aload_n 0, 1, 0, 0, 0, 0), (66, .bipush 8, 2, 0, 0, 0, 0), 
  (68, .anewarray 46, 3, 5, 0, 0, 555), (71, .putfield 48, 3, 9, 7, 12, 731), (74, .aload_n 0, 1, 0, 0, 0, 0), (75, .new 52, 3, 5, 5, 0, 557), (78, .dup, 1, 0, 0, 0, 0), 
  (79, .aload_n 0, 1, 0, 0, 0, 0), (80, .getfield 42, 3, 9, 6, 2, 730), (83, .invokespecial 54, 3, 48, 2, 2, 559), (86, .putfield 57, 3, 9, 8, 12, 732), 
  (89, .aload_n 0, 1, 0, 0, 0, 0), (90, .new 52, 3, 5, 5, 0, 557), (93, .dup, 1, 0, 0, 0, 0), (94, .aload_n 0, 1, 0, 0, 0, 0), (95, .getfield 42, 3, 9, 6, 2, 730), 
  (98, .invokespecial 54, 3, 48, 2, 2, 559), (101, .putfield 61, 3, 9, 9, 12, 733), (104, .aload_n 0, 1, 0, 0, 0, 0), (105, .new 64, 3, 8, 2, 0, 653), (108, .dup, 1, 0, 0, 0, 0), 
  (109, .invokespecial 66, 3, 91, 1, 3, 655), (112, .putfield 67, 3, 9, 10, 12, 734), (115, .aload_n 0, 1, 0, 0, 0, 0), (116, .new 52, 3, 5, 5, 0, 557), (119, .dup, 1, 0, 0, 0, 0), 
  (120, .aload_n 0, 1, 0, 0, 0, 0), (121, .getfield 42, 3, 9, 6, 2, 730), (124, .invokespecial 54, 3, 48, 2, 2, 559), (127, .putfield 71, 3, 9, 11, 12, 735), 
  (130, .aload_n 0, 1, 0, 0, 0, 0), (131, .iconst 1, 1, 0, 0, 0, 0), (132, .putfield 74, 3, 9, 12, 0, 736), (135, .aload_n 0, 1, 0, 0, 0, 0), (136, .iconst 0, 1, 0, 0, 0, 0), 
  (137, .putfield 77, 3, 9, 13, 0, 737), (140, .aload_n 0, 1, 0, 0, 0, 0), (141, .bipush 120, 2, 0, 0, 0, 0), (143, .newarray .int, 2, 1, 0, 0, 0), 
  (145, .putfield 80, 3, 9, 14, 12, 738), (148, .aload_n 0, 1, 0, 0, 0, 0), (149, .sipush 720, 3, 0, 0, 0, 0), (152, .newarray .long, 2, 2, 0, 0, 0), 
  (154, .putfield 84, 3, 9, 15, 12, 739), (157, .aload_n 0, 1, 0, 0, 0, 0), (158, .new 88, 3, 2, 2, 0, 667), (161, .dup, 1, 0, 0, 0, 0), (162, .invokespecial 90, 3, 12, 1, 3, 669), 
  (165, .putfield 91, 3, 9, 16, 12, 740), (168, .iconst 0, 1, 0, 0, 0, 0), (169, .istore_n 1, 1, 0, 0, 0, 0), (170, .iload_n 1, 1, 0, 0, 0, 0), (171, .bipush 8, 2, 0, 0, 0, 0), 
  (173, .if_icmp .ge 22, 3, 0, 0, 0, 0), (176, .aload_n 0, 1, 0, 0, 0, 0), (177, .getfield 48, 3, 9, 7, 2, 731), (180, .iload_n 1, 1, 0, 0, 0, 0), (181, .new 46, 3, 7, 9, 0, 555), 
  (184, .dup, 1, 0, 0, 0, 0), (185, .invokespecial 95, 3, 77, 1, 3, 682), (188, .aastore, 1, 0, 0, 0, 0), (189, .iinc 1 1, 3, 0, 0, 0, 0), (192, .goto (-22), 3, 0, 0, 0, 0), 
  (195, .aload_n 0, 1, 0, 0, 0, 0), (196, .invokevirtual 96, 3, 157, 1, 0, 683), (199, .return_, 1, 0, 0, 0, 0)]
/-- DropSwitch append (IIIII)I -/
noncomputable def cd_99 : List (Nat × Ent) := [
  (0, .aload_n 0, 1, 0, 0, 0, 0), (1, .getfield 13, 3, 9, 1, 0, 725), (4, .bipush 20, 2, 0, 0, 0, 0), (6, .iadd, 1, 0, 0, 0, 0), (7, .sipush 600, 3, 0, 0, 0, 0), 
  (10, .if_icmp .le 5, 3, 0, 0, 0, 0), (13, .iconst (-1), 1, 0, 0, 0, 0), (14, .ireturn, 1, 0, 0, 0, 0), (15, .aload_n 0, 1, 0, 0, 0, 0), (16, .iload_n 1, 1, 0, 0, 0, 0), 
  (17, .invokevirtual 99, 3, 156, 2, 0, 1033), (20, .aload_n 0, 1, 0, 0, 0, 0), (21, .iload_n 2, 1, 0, 0, 0, 0), (22, .invokevirtual 99, 3, 156, 2, 0, 1033), 
  (25, .aload_n 0, 1, 0, 0, 0, 0), (26, .iload_n 3, 1, 0, 0, 0, 0), (27, .invokevirtual 99, 3, 156, 2, 0, 1033), (30, .aload_n 0, 1, 0, 0, 0, 0), (31, .iload 4, 2, 0, 0, 0, 0), 
  (33, .invokevirtual 99, 3, 156, 2, 0, 1033), (36, .aload_n 0, 1, 0, 0, 0, 0), (37, .iload 5, 2, 0, 0, 0, 0), (39, .invokevirtual 99, 3, 156, 2, 0, 1033), 
  (42, .aload_n 0, 1, 0, 0, 0, 0), (43, .getfield 13, 3, 9, 1, 0, 725), (46, .ireturn, 1, 0, 0, 0, 0)]
/-- DropSwitch truncate (I)Z -/
noncomputable def cd_100 : List (Nat × Ent) := [
  (0, .iload_n 1, 1, 0, 0, 0, 0), (1, .ifCond .lt 11, 3, 0, 0, 0, 0), (4, .iload_n 1, 1, 0, 0, 0, 0), (5, .aload_n 0, 1, 0, 0, 0, 0), (6, .getfield 13, 3, 9, 1, 0, 725), 
  (9, .if_icmp .le 5, 3, 0, 0, 0, 0), (12, .iconst 0, 1, 0, 0, 0, 0), (13, .ireturn, 1, 0, 0, 1, 0), (14, .aload_n 0, 1, 0, 0, 0, 0), (15, .iload_n 1, 1, 0, 0, 0, 0), 
  (16, .putfield 13, 3, 9, 1, 0, 725), (19, .iconst 1, 1, 0, 0, 0, 0), (20, .ireturn, 1, 0, 0, 1, 0)]
/-- DropSwitch load ()I -/
noncomputable def cd_101 : List (Nat × Ent) := [
  (0, .aload_n 0, 1, 0, 0, 0, 0), (1, .getfield 28, 3, 9, 4, 2, 728), (4, .aload_n 0, 1, 0, 0, 0, 0), (5, .getfield 13, 3, 9, 1, 0, 725), (8, .invokevirtual 103, 3, 31, 2, 0, 1045), 
  (11, .istore_n 1, 1, 0, 0, 0, 0), (12, .aload_n 0, 1, 0, 0, 0, 0), (13, .iconst 0, 1, 0, 0, 0, 0), (14, .putfield 13, 3, 9, 1, 0, 725), (17, .aload_n 0, 1, 0, 0, 0, 0), 
  (18, .aload_n 0, 1, 0, 0, 0, 0), (19, .getfield 28, 3, 9, 4, 2, 728), (22, .getfield 107, 3, 4, 1, 0, 464), (25, .putfield 17, 3, 9, 2, 0, 726), (28, .aload_n 0, 1, 0, 0, 0, 0), 
  (29, .aload_n 0, 1, 0, 0, 0, 0), (30, .getfield 28, 3, 9, 4, 2, 728), (33, .getfield 108, 3, 4, 2, 0, 466), (36, .putfield 20, 3, 9, 3, 0, 727), (39, .iload_n 1, 1, 0, 0, 0, 0), 
  (40, .ifCond .ne 11, 3, 0, 0, 0, 0), (43, .new 109, 3, 1, 0, 1, 231), (46, .dup, 1, 0, 0, 0, 0), (47, .invokespecial 111, 3, 0, 1, 99, 240), (50, .athrow, 1, 0, 0, 0, 0), 
  (51, .aload_n 0, 1, 0, 0, 0, 0), (52, .getfield 28, 3, 9, 4, 2, 728), (55, .getfield 112, 3, 4, 0, 2, 462), (58, .astore_n 2, 1, 0, 0, 0, 0), (59, .aload_n 0, 1, 0, 0, 0, 0), 
  (60, .getfield 28, 3, 9, 4, 2, 728), (63, .aload_n 0, 1, 0, 0, 0, 0), (64, .getfield 35, 3, 9, 5, 2, 729), (67, .putfield 112, 3, 4, 0, 2, 462), (70, .aload_n 0, 1, 0, 0, 0, 0), 
  (71, .aload_n 2, 1, 0, 0, 0, 0), (72, .putfield 35, 3, 9, 5, 2, 729), (75, .aload_n 0, 1, 0, 0, 0, 0), (76, .invokevirtual 96, 3, 157, 1, 0, 683), (79, .aload_n 0, 1, 0, 0, 0, 0), 
  (80, .getfield 35, 3, 9, 5, 2, 729), (83, .getfield 113, 3, 6, 0, 2, 439), (86, .getfield 117, 3, 1, 0, 0, 377), (89, .ireturn, 1, 0, 0, 0, 0)]
/-- DropSwitch errorOffset ()I -/
noncomputable def cd_102 : List (Nat × Ent) := [
  (0, .aload_n 0, 1, 0, 0, 0, 0), (1, .getfield 17, 3, 9, 2, 0, 726), (4, .ireturn, 1, 0, 0, 0, 0)]
/-- DropSwitch errorKind ()I -/
noncomputable def cd_103 : List (Nat × Ent) := [
  (0, .aload_n 0, 1, 0, 0, 0, 0), (1, .getfield 20, 3, 9, 3, 0, 727), (4, .ireturn, 1, 0, 0, 0, 0)]
/-- DropSwitch count (I)I -/
noncomputable def cd_104 : List (Nat × Ent) := [
  (0, .iload_n 1, 1, 0, 0, 0, 0), (1, .tableswitch 96 0 5 #[39, 50, 58, 66, 74, 85], 39, 0, 0, 0, 0), (40, .aload_n 0, 1, 0, 0, 0, 0), (41, .getfield 35, 3, 9, 5, 2, 729), 
  (44, .getfield 113, 3, 6, 0, 2, 439), (47, .getfield 117, 3, 1, 0, 0, 377), (50, .ireturn, 1, 0, 0, 0, 0), (51, .aload_n 0, 1, 0, 0, 0, 0), (52, .getfield 35, 3, 9, 5, 2, 729), 
  (55, .getfield 122, 3, 6, 2, 0, 443), (58, .ireturn, 1, 0, 0, 0, 0), (59, .aload_n 0, 1, 0, 0, 0, 0), (60, .getfield 42, 3, 9, 6, 2, 730), (63, .getfield 125, 3, 0, 0, 0, 507), 
  (66, .ireturn, 1, 0, 0, 0, 0), (67, .aload_n 0, 1, 0, 0, 0, 0), (68, .getfield 42, 3, 9, 6, 2, 730), (71, .getfield 128, 3, 0, 1, 0, 509), (74, .ireturn, 1, 0, 0, 0, 0), 
  (75, .aload_n 0, 1, 0, 0, 0, 0), (76, .getfield 57, 3, 9, 8, 2, 732), (79, .getfield 131, 3, 5, 2, 2, 639), (82, .getfield 135, 3, 3, 0, 0, 614), (85, .ireturn, 1, 0, 0, 0, 0), 
  (86, .aload_n 0, 1, 0, 0, 0, 0), (87, .getfield 57, 3, 9, 8, 2, 732), (90, .getfield 140, 3, 5, 1, 2, 637), (93, .getfield 144, 3, 7, 0, 0, 572), (96, .ireturn, 1, 0, 0, 0, 0), 
  (97, .new 147, 3, 3, 0, 1, 77), (100, .dup, 1, 0, 0, 0, 0), (101, .invokespecial 149, 3, 0, 1, 99, 121), (104, .athrow, 1, 0, 0, 0, 0)]
/-- DropSwitch arrive (IIIII)I -/
noncomputable def cd_105 : List (Nat × Ent) := [
  (0, .aload_n 0, 1, 0, 0, 0, 0), (1, .iload_n 1, 1, 0, 0, 0, 0), (2, .invokevirtual 150, 3, 147, 2, 0, 179), (5, .aload_n 0, 1, 0, 0, 0, 0), (6, .iload_n 2, 1, 0, 0, 0, 0), 
  (7, .invokevirtual 153, 3, 153, 2, 0, 1195), (10, .aload_n 0, 1, 0, 0, 0, 0), (11, .iload_n 3, 1, 0, 0, 0, 0), (12, .invokevirtual 153, 3, 153, 2, 0, 1195), 
  (15, .iload 4, 2, 0, 0, 0, 0), (17, .iconst 1, 1, 0, 0, 0, 0), (18, .if_icmp .lt 21, 3, 0, 0, 0, 0), (21, .iload 4, 2, 0, 0, 0, 0), (23, .bipush 9, 2, 0, 0, 0, 0), 
  (25, .if_icmp .gt 14, 3, 0, 0, 0, 0), (28, .iload 5, 2, 0, 0, 0, 0), (30, .ifCond .lt 9, 3, 0, 0, 0, 0), (33, .iload 5, 2, 0, 0, 0, 0), (35, .iconst 3, 1, 0, 0, 0, 0), 
  (36, .if_icmp .le 11, 3, 0, 0, 0, 0), (39, .new 109, 3, 1, 0, 1, 231), (42, .dup, 1, 0, 0, 0, 0), (43, .invokespecial 111, 3, 0, 1, 99, 240), (46, .athrow, 1, 0, 0, 0, 0), 
  (47, .aload_n 0, 1, 0, 0, 0, 0), (48, .invokevirtual 156, 3, 155, 1, 0, 1199), (51, .aload_n 0, 1, 0, 0, 0, 0), (52, .getfield 42, 3, 9, 6, 2, 730), 
  (55, .getfield 128, 3, 0, 1, 0, 509), (58, .istore 6, 2, 0, 0, 0, 0), (60, .aload_n 0, 1, 0, 0, 0, 0), (61, .getfield 42, 3, 9, 6, 2, 730), (64, .iload_n 1, 1, 0, 0, 0, 0), 
  (65, .iload_n 2, 1, 0, 0, 0, 0), (66, .iload_n 3, 1, 0, 0, 0, 0), (67, .iload 4, 2, 0, 0, 0, 0), (69, .iload 5, 2, 0, 0, 0, 0), (71, .invokevirtual 159, 3, 2, 6, 0, 1218), 
  (74, .aload_n 0, 1, 0, 0, 0, 0), (75, .getfield 42, 3, 9, 6, 2, 730), (78, .getfield 163, 3, 0, 10, 2, 531), (81, .iload 6, 2, 0, 0, 0, 0), (83, .aload_n 0, 1, 0, 0, 0, 0), 
  (84, .getfield 35, 3, 9, 5, 2, 729), (87, .aload_n 0, 1, 0, 0, 0, 0), (88, .getfield 42, 3, 9, 6, 2, 730), (91, .iload 6, 2, 0, 0, 0, 0), 
  (93, .invokevirtual 165, 3, 72, 3, 0, 1226), (96, .iastore, 1, 0, 0, 0, 0), (97, .aload_n 0, 1, 0, 0, 0, 0), (98, .invokevirtual 169, 3, 158, 1, 0, 1247), 
  (101, .ireturn, 1, 0, 0, 0, 0)]
/-- DropSwitch tick ()I -/
noncomputable def cd_106 : List (Nat × Ent) := [
  (0, .aload_n 0, 1, 0, 0, 0, 0), (1, .invokevirtual 156, 3, 155, 1, 0, 1199), (4, .aload_n 0, 1, 0, 0, 0, 0), (5, .getfield 42, 3, 9, 6, 2, 730), (8, .iconst 1, 1, 0, 0, 0, 0), 
  (9, .iconst (-1), 1, 0, 0, 0, 0), (10, .invokevirtual 173, 3, 1, 3, 0, 1386), (13, .aload_n 0, 1, 0, 0, 0, 0), (14, .invokevirtual 169, 3, 158, 1, 0, 1247), 
  (17, .ireturn, 1, 0, 0, 0, 0)]
/-- DropSwitch link (IZ)I -/
noncomputable def cd_107 : List (Nat × Ent) := [
  (0, .aload_n 0, 1, 0, 0, 0, 0), (1, .iload_n 1, 1, 0, 0, 0, 0), (2, .invokevirtual 150, 3, 147, 2, 0, 179), (5, .aload_n 0, 1, 0, 0, 0, 0), 
  (6, .invokevirtual 156, 3, 155, 1, 0, 1199), (9, .aload_n 0, 1, 0, 0, 0, 0), (10, .getfield 42, 3, 9, 6, 2, 730), (13, .iload_n 2, 1, 0, 0, 0, 0), 
  (14, .ifCond .eq 7, 3, 0, 0, 0, 0), (17, .iconst 2, 1, 0, 0, 0, 0), (18, .goto 4, 3, 0, 0, 0, 0), (21, .iconst 3, 1, 0, 0, 0, 0), (22, .iload_n 1, 1, 0, 0, 0, 0), 
  (23, .invokevirtual 173, 3, 1, 3, 0, 1386), (26, .aload_n 0, 1, 0, 0, 0, 0), (27, .invokevirtual 169, 3, 158, 1, 0, 1247), (30, .ireturn, 1, 0, 0, 0, 0)]
/-- DropSwitch packetOf (I)I -/
noncomputable def cd_110 : List (Nat × Ent) := [
  (0, .aload_n 0, 1, 0, 0, 0, 0), (1, .iload_n 1, 1, 0, 0, 0, 0), (2, .invokevirtual 190, 3, 149, 2, 0, 147), (5, .aload_n 0, 1, 0, 0, 0, 0), (6, .getfield 42, 3, 9, 6, 2, 730), 
  (9, .getfield 196, 3, 0, 4, 2, 516), (12, .iload_n 1, 1, 0, 0, 0, 0), (13, .iaload, 1, 0, 0, 0, 0), (14, .ireturn, 1, 0, 0, 0, 0)]
/-- DropSwitch arrivalOf (I)I -/
noncomputable def cd_111 : List (Nat × Ent) := [
  (0, .aload_n 0, 1, 0, 0, 0, 0), (1, .iload_n 1, 1, 0, 0, 0, 0), (2, .invokevirtual 199, 3, 151, 2, 0, 171), (5, .aload_n 0, 1, 0, 0, 0, 0), (6, .getfield 42, 3, 9, 6, 2, 730), 
  (9, .getfield 202, 3, 0, 5, 2, 518), (12, .iload_n 1, 1, 0, 0, 0, 0), (13, .iaload, 1, 0, 0, 0, 0), (14, .ireturn, 1, 0, 0, 0, 0)]
/-- DropSwitch fill (I)I -/
noncomputable def cd_112 : List (Nat × Ent) := [
  (0, .aload_n 0, 1, 0, 0, 0, 0), (1, .iload_n 1, 1, 0, 0, 0, 0), (2, .invokevirtual 150, 3, 147, 2, 0, 179), (5, .aload_n 0, 1, 0, 0, 0, 0), (6, .getfield 57, 3, 9, 8, 2, 732), 
  (9, .getfield 140, 3, 5, 1, 2, 637), (12, .getfield 205, 3, 7, 3, 2, 580), (15, .iload_n 1, 1, 0, 0, 0, 0), (16, .iaload, 1, 0, 0, 0, 0), (17, .ireturn, 1, 0, 0, 0, 0)]
/-- DropSwitch queueLength (I)I -/
noncomputable def cd_113 : List (Nat × Ent) := [
  (0, .aload_n 0, 1, 0, 0, 0, 0), (1, .iload_n 1, 1, 0, 0, 0, 0), (2, .invokevirtual 150, 3, 147, 2, 0, 179), (5, .aload_n 0, 1, 0, 0, 0, 0), (6, .getfield 57, 3, 9, 8, 2, 732), 
  (9, .getfield 140, 3, 5, 1, 2, 637), (12, .getfield 208, 3, 7, 4, 2, 583), (15, .iload_n 1, 1, 0, 0, 0, 0), (16, .iaload, 1, 0, 0, 0, 0), (17, .ireturn, 1, 0, 0, 0, 0)]
/-- DropSwitch queued (II)I -/
noncomputable def cd_114 : List (Nat × Ent) := [
  (0, .aload_n 0, 1, 0, 0, 0, 0), (1, .iload_n 1, 1, 0, 0, 0, 0), (2, .invokevirtual 150, 3, 147, 2, 0, 179), (5, .aload_n 0, 1, 0, 0, 0, 0), (6, .getfield 57, 3, 9, 8, 2, 732), 
  (9, .getfield 140, 3, 5, 1, 2, 637), (12, .iload_n 1, 1, 0, 0, 0, 0), (13, .iload_n 2, 1, 0, 0, 0, 0), (14, .invokevirtual 211, 3, 84, 3, 0, 191), (17, .ireturn, 1, 0, 0, 0, 0)]
/-- DropSwitch isUp (I)Z -/
noncomputable def cd_115 : List (Nat × Ent) := [
  (0, .aload_n 0, 1, 0, 0, 0, 0), (1, .iload_n 1, 1, 0, 0, 0, 0), (2, .invokevirtual 150, 3, 147, 2, 0, 179), (5, .aload_n 0, 1, 0, 0, 0, 0), (6, .getfield 57, 3, 9, 8, 2, 732), 
  (9, .getfield 140, 3, 5, 1, 2, 637), (12, .iload_n 1, 1, 0, 0, 0, 0), (13, .invokevirtual 215, 3, 80, 2, 0, 1395), (16, .ireturn, 1, 0, 0, 1, 0)]
/-- DropSwitch delivered (I)I -/
noncomputable def cd_119 : List (Nat × Ent) := [
  (0, .aload_n 0, 1, 0, 0, 0, 0), (1, .iload_n 1, 1, 0, 0, 0, 0), (2, .invokevirtual 150, 3, 147, 2, 0, 179), (5, .aload_n 0, 1, 0, 0, 0, 0), (6, .getfield 57, 3, 9, 8, 2, 732), 
  (9, .getfield 131, 3, 5, 2, 2, 639), (12, .getfield 231, 3, 3, 3, 2, 618), (15, .iload_n 1, 1, 0, 0, 0, 0), (16, .iaload, 1, 0, 0, 0, 0), (17, .ireturn, 1, 0, 0, 0, 0)]
/-- DropSwitch fate (II)I -/
noncomputable def cd_120 : List (Nat × Ent) := [
  (0, .aload_n 0, 1, 0, 0, 0, 0), (1, .iload_n 1, 1, 0, 0, 0, 0), (2, .invokevirtual 199, 3, 151, 2, 0, 171), (5, .aload_n 0, 1, 0, 0, 0, 0), (6, .iload_n 2, 1, 0, 0, 0, 0), 
  (7, .invokevirtual 150, 3, 147, 2, 0, 179), (10, .aload_n 0, 1, 0, 0, 0, 0), (11, .getfield 57, 3, 9, 8, 2, 732), (14, .getfield 131, 3, 5, 2, 2, 639), 
  (17, .iload_n 1, 1, 0, 0, 0, 0), (18, .iload_n 2, 1, 0, 0, 0, 0), (19, .invokevirtual 234, 3, 22, 3, 0, 203), (22, .ireturn, 1, 0, 0, 0, 0)]
/-- DropSwitch dropField (II)I -/
noncomputable def cd_121 : List (Nat × Ent) := [
  (0, .aload_n 0, 1, 0, 0, 0, 0), (1, .iload_n 1, 1, 0, 0, 0, 0), (2, .invokevirtual 237, 3, 152, 2, 0, 211), (5, .iload_n 2, 1, 0, 0, 0, 0), (6, .ifCond .lt 8, 3, 0, 0, 0, 0), 
  (9, .iload_n 2, 1, 0, 0, 0, 0), (10, .iconst 5, 1, 0, 0, 0, 0), (11, .if_icmp .lt 11, 3, 0, 0, 0, 0), (14, .new 147, 3, 3, 0, 1, 77), (17, .dup, 1, 0, 0, 0, 0), 
  (18, .invokespecial 149, 3, 0, 1, 99, 121), (21, .athrow, 1, 0, 0, 0, 0), (22, .aload_n 0, 1, 0, 0, 0, 0), (23, .getfield 57, 3, 9, 8, 2, 732), (26, .getfield 131, 3, 5, 2, 2, 639), 
  (29, .iload_n 1, 1, 0, 0, 0, 0), (30, .iload_n 2, 1, 0, 0, 0, 0), (31, .invokevirtual 240, 3, 24, 3, 0, 215), (34, .ireturn, 1, 0, 0, 0, 0)]
/-- DropSwitch firstDrop (I)I -/
noncomputable def cd_122 : List (Nat × Ent) := [
  (0, .aload_n 0, 1, 0, 0, 0, 0), (1, .iload_n 1, 1, 0, 0, 0, 0), (2, .invokevirtual 199, 3, 151, 2, 0, 171), (5, .iconst 0, 1, 0, 0, 0, 0), (6, .istore_n 2, 1, 0, 0, 0, 0), 
  (7, .iload_n 2, 1, 0, 0, 0, 0), (8, .aload_n 0, 1, 0, 0, 0, 0), (9, .getfield 57, 3, 9, 8, 2, 732), (12, .getfield 131, 3, 5, 2, 2, 639), (15, .getfield 135, 3, 3, 0, 0, 614), 
  (18, .if_icmp .ge 27, 3, 0, 0, 0, 0), (21, .aload_n 0, 1, 0, 0, 0, 0), (22, .getfield 57, 3, 9, 8, 2, 732), (25, .getfield 131, 3, 5, 2, 2, 639), (28, .iload_n 2, 1, 0, 0, 0, 0), 
  (29, .iconst 1, 1, 0, 0, 0, 0), (30, .invokevirtual 240, 3, 24, 3, 0, 215), (33, .iload_n 1, 1, 0, 0, 0, 0), (34, .if_icmp .ne 5, 3, 0, 0, 0, 0), (37, .iload_n 2, 1, 0, 0, 0, 0), 
  (38, .ireturn, 1, 0, 0, 0, 0), (39, .iinc 2 1, 3, 0, 0, 0, 0), (42, .goto (-35), 3, 0, 0, 0, 0), (45, .iconst (-1), 1, 0, 0, 0, 0), (46, .ireturn, 1, 0, 0, 0, 0)]
/-- DropSwitch dropsBy (I)I -/
noncomputable def cd_123 : List (Nat × Ent) := [
  (0, .aload_n 0, 1, 0, 0, 0, 0), (1, .iload_n 1, 1, 0, 0, 0, 0), (2, .invokevirtual 243, 3, 154, 2, 0, 227), (5, .aload_n 0, 1, 0, 0, 0, 0), (6, .getfield 57, 3, 9, 8, 2, 732), 
  (9, .getfield 131, 3, 5, 2, 2, 639), (12, .iload_n 1, 1, 0, 0, 0, 0), (13, .invokevirtual 246, 3, 25, 2, 0, 246), (16, .ireturn, 1, 0, 0, 0, 0)]
/-- DropSwitch pushedBy (I)I -/
noncomputable def cd_125 : List (Nat × Ent) := [
  (0, .aload_n 0, 1, 0, 0, 0, 0), (1, .iload_n 1, 1, 0, 0, 0, 0), (2, .invokevirtual 199, 3, 151, 2, 0, 171), (5, .aload_n 0, 1, 0, 0, 0, 0), (6, .getfield 57, 3, 9, 8, 2, 732), 
  (9, .getfield 131, 3, 5, 2, 2, 639), (12, .bipush 8, 2, 0, 0, 0, 0), (14, .iload_n 1, 1, 0, 0, 0, 0), (15, .invokevirtual 252, 3, 26, 3, 0, 255), (18, .ireturn, 1, 0, 0, 0, 0)]
/-- DropSwitch formatDrop (I)I -/
noncomputable def cd_144 : List (Nat × Ent) := [
  (0, .aload_n 0, 1, 0, 0, 0, 0), (1, .iload_n 1, 1, 0, 0, 0, 0), (2, .invokevirtual 237, 3, 152, 2, 0, 211), (5, .aload_n 0, 1, 0, 0, 0, 0), (6, .getfield 57, 3, 9, 8, 2, 732), 
  (9, .getfield 131, 3, 5, 2, 2, 639), (12, .iload_n 1, 1, 0, 0, 0, 0), (13, .iconst 4, 1, 0, 0, 0, 0), (14, .invokevirtual 240, 3, 24, 3, 0, 215), (17, .istore_n 2, 1, 0, 0, 0, 0), 
  (18, .aload_n 0, 1, 0, 0, 0, 0), (19, .getfield 57, 3, 9, 8, 2, 732), (22, .getfield 131, 3, 5, 2, 2, 639), (25, .iload_n 1, 1, 0, 0, 0, 0), (26, .iconst 2, 1, 0, 0, 0, 0), 
  (27, .invokevirtual 240, 3, 24, 3, 0, 215), (30, .istore_n 3, 1, 0, 0, 0, 0), (31, .aload_n 0, 1, 0, 0, 0, 0), (32, .getfield 91, 3, 9, 16, 2, 740), (35, .iconst 0, 1, 0, 0, 0, 0), 
  (36, .putfield 313, 3, 2, 1, 0, 675), (39, .aload_n 0, 1, 0, 0, 0, 0), (40, .getfield 91, 3, 9, 16, 2, 740), (43, .aload_n 0, 1, 0, 0, 0, 0), (44, .getfield 57, 3, 9, 8, 2, 732), 
  (47, .getfield 131, 3, 5, 2, 2, 639), (50, .iload_n 1, 1, 0, 0, 0, 0), (51, .iconst 1, 1, 0, 0, 0, 0), (52, .invokevirtual 240, 3, 24, 3, 0, 215), 
  (55, .invokevirtual 316, 3, 15, 2, 0, 263), (58, .aload_n 0, 1, 0, 0, 0, 0), (59, .getfield 91, 3, 9, 16, 2, 740), (62, .bipush 64, 2, 0, 0, 0, 0), 
  (64, .invokevirtual 319, 3, 13, 2, 0, 271), (67, .aload_n 0, 1, 0, 0, 0, 0), (68, .getfield 91, 3, 9, 16, 2, 740), (71, .aload_n 0, 1, 0, 0, 0, 0), 
  (72, .getfield 57, 3, 9, 8, 2, 732), (75, .getfield 131, 3, 5, 2, 2, 639), (78, .iload_n 1, 1, 0, 0, 0, 0), (79, .iconst 0, 1, 0, 0, 0, 0), 
  (80, .invokevirtual 240, 3, 24, 3, 0, 215), (83, .invokevirtual 316, 3, 15, 2, 0, 263), (86, .aload_n 0, 1, 0, 0, 0, 0), (87, .getfield 91, 3, 9, 16, 2, 740), 
  (90, .bipush 32, 2, 0, 0, 0, 0), (92, .invokevirtual 319, 3, 13, 2, 0, 271), (95, .aload_n 0, 1, 0, 0, 0, 0), (96, .getfield 91, 3, 9, 16, 2, 740), (99, .aload_n 0, 1, 0, 0, 0, 0), 
  (100, .getfield 57, 3, 9, 8, 2, 732), (103, .getfield 131, 3, 5, 2, 2, 639), (106, .iload_n 1, 1, 0, 0, 0, 0), (107, .iconst 3, 1, 0, 0, 0, 0), 
  (108, .invokevirtual 240, 3, 24, 3, 0, 215), (111, .invokestatic 322, 3, 166, 1, 1, 272), (114, .invokevirtual 326, 3, 14, 2, 0, 285), (117, .iload_n 2, 1, 0, 0, 0, 0), 
  (118, .iconst (-1), 1, 0, 0, 0, 0), (119, .if_icmp .eq 20, 3, 0, 0, 0, 0), (122, .aload_n 0, 1, 0, 0, 0, 0), (123, .getfield 91, 3, 9, 16, 2, 740), (126, .bipush 61, 2, 0, 0, 0, 0), 
  (128, .invokevirtual 319, 3, 13, 2, 0, 271), (131, .aload_n 0, 1, 0, 0, 0, 0), (132, .getfield 91, 3, 9, 16, 2, 740), (135, .iload_n 2, 1, 0, 0, 0, 0), 
  (136, .invokevirtual 316, 3, 15, 2, 0, 263), (139, .iload_n 3, 1, 0, 0, 0, 0), (140, .iconst (-1), 1, 0, 0, 0, 0), (141, .if_icmp .eq 27, 3, 0, 0, 0, 0), 
  (144, .aload_n 0, 1, 0, 0, 0, 0), (145, .getfield 91, 3, 9, 16, 2, 740), (148, .bipush 32, 2, 0, 0, 0, 0), (150, .invokevirtual 319, 3, 13, 2, 0, 271), 
  (153, .aload_n 0, 1, 0, 0, 0, 0), (154, .getfield 91, 3, 9, 16, 2, 740), (157, .aload_n 0, 1, 0, 0, 0, 0), (158, .getfield 35, 3, 9, 5, 2, 729), (161, .iload_n 3, 1, 0, 0, 0, 0), 
  (162, .invokevirtual 330, 3, 69, 2, 0, 337), (165, .invokevirtual 333, 3, 16, 2, 0, 341), (168, .aload_n 0, 1, 0, 0, 0, 0), (169, .getfield 91, 3, 9, 16, 2, 740), 
  (172, .getfield 313, 3, 2, 1, 0, 675), (175, .ireturn, 1, 0, 0, 0, 0)]
/-- DropSwitch needPort (I)V -/
noncomputable def cd_147 : List (Nat × Ent) := [
  (0, .iload_n 1, 1, 0, 0, 0, 0), (1, .ifCond .lt 17, 3, 0, 0, 0, 0), (4, .iload_n 1, 1, 0, 0, 0, 0), (5, .aload_n 0, 1, 0, 0, 0, 0), (6, .getfield 35, 3, 9, 5, 2, 729), 
  (9, .getfield 113, 3, 6, 0, 2, 439), (12, .getfield 117, 3, 1, 0, 0, 377), (15, .if_icmp .lt 11, 3, 0, 0, 0, 0), (18, .new 342, 3, 0, 0, 1, 152), (21, .dup, 1, 0, 0, 0, 0), 
  (22, .invokespecial 344, 3, 0, 1, 99, 161), (25, .athrow, 1, 0, 0, 0, 0), (26, .return_, 1, 0, 0, 0, 0)]
/-- DropSwitch needEvent (I)V -/
noncomputable def cd_149 : List (Nat × Ent) := [
  (0, .iload_n 1, 1, 0, 0, 0, 0), (1, .ifCond .lt 14, 3, 0, 0, 0, 0), (4, .iload_n 1, 1, 0, 0, 0, 0), (5, .aload_n 0, 1, 0, 0, 0, 0), (6, .getfield 42, 3, 9, 6, 2, 730), 
  (9, .getfield 125, 3, 0, 0, 0, 507), (12, .if_icmp .lt 11, 3, 0, 0, 0, 0), (15, .new 342, 3, 0, 0, 1, 152), (18, .dup, 1, 0, 0, 0, 0), (19, .invokespecial 344, 3, 0, 1, 99, 161), 
  (22, .athrow, 1, 0, 0, 0, 0), (23, .return_, 1, 0, 0, 0, 0)]
/-- DropSwitch needPacket (I)V -/
noncomputable def cd_151 : List (Nat × Ent) := [
  (0, .iload_n 1, 1, 0, 0, 0, 0), (1, .ifCond .lt 14, 3, 0, 0, 0, 0), (4, .iload_n 1, 1, 0, 0, 0, 0), (5, .aload_n 0, 1, 0, 0, 0, 0), (6, .getfield 42, 3, 9, 6, 2, 730), 
  (9, .getfield 128, 3, 0, 1, 0, 509), (12, .if_icmp .lt 11, 3, 0, 0, 0, 0), (15, .new 342, 3, 0, 0, 1, 152), (18, .dup, 1, 0, 0, 0, 0), (19, .invokespecial 344, 3, 0, 1, 99, 161), 
  (22, .athrow, 1, 0, 0, 0, 0), (23, .return_, 1, 0, 0, 0, 0)]
/-- DropSwitch needDrop (I)V -/
noncomputable def cd_152 : List (Nat × Ent) := [
  (0, .iload_n 1, 1, 0, 0, 0, 0), (1, .ifCond .lt 17, 3, 0, 0, 0, 0), (4, .iload_n 1, 1, 0, 0, 0, 0), (5, .aload_n 0, 1, 0, 0, 0, 0), (6, .getfield 57, 3, 9, 8, 2, 732), 
  (9, .getfield 131, 3, 5, 2, 2, 639), (12, .getfield 135, 3, 3, 0, 0, 614), (15, .if_icmp .lt 11, 3, 0, 0, 0, 0), (18, .new 342, 3, 0, 0, 1, 152), (21, .dup, 1, 0, 0, 0, 0), 
  (22, .invokespecial 344, 3, 0, 1, 99, 161), (25, .athrow, 1, 0, 0, 0, 0), (26, .return_, 1, 0, 0, 0, 0)]
/-- DropSwitch needAddress (I)V -/
noncomputable def cd_153 : List (Nat × Ent) := [
  (0, .iload_n 1, 1, 0, 0, 0, 0), (1, .ifCond .lt 9, 3, 0, 0, 0, 0), (4, .iload_n 1, 1, 0, 0, 0, 0), (5, .bipush 64, 2, 0, 0, 0, 0), (7, .if_icmp .lt 11, 3, 0, 0, 0, 0), 
  (10, .new 109, 3, 1, 0, 1, 231), (13, .dup, 1, 0, 0, 0, 0), (14, .invokespecial 111, 3, 0, 1, 99, 240), (17, .athrow, 1, 0, 0, 0, 0), (18, .return_, 1, 0, 0, 0, 0)]
/-- DropSwitch needCause (I)V -/
noncomputable def cd_154 : List (Nat × Ent) := [
  (0, .iload_n 1, 1, 0, 0, 0, 0), (1, .iconst 1, 1, 0, 0, 0, 0), (2, .if_icmp .lt 9, 3, 0, 0, 0, 0), (5, .iload_n 1, 1, 0, 0, 0, 0), (6, .bipush 10, 2, 0, 0, 0, 0), 
  (8, .if_icmp .le 11, 3, 0, 0, 0, 0), (11, .new 109, 3, 1, 0, 1, 231), (14, .dup, 1, 0, 0, 0, 0), (15, .invokespecial 111, 3, 0, 1, 99, 240), (18, .athrow, 1, 0, 0, 0, 0), 
  (19, .return_, 1, 0, 0, 0, 0)]
/-- DropSwitch needRoom ()V -/
noncomputable def cd_155 : List (Nat × Ent) := [
  (0, .aload_n 0, 1, 0, 0, 0, 0), (1, .getfield 42, 3, 9, 6, 2, 730), (4, .getfield 125, 3, 0, 0, 0, 507), (7, .bipush 120, 2, 0, 0, 0, 0), (9, .if_icmp .lt 11, 3, 0, 0, 0, 0), 
  (12, .new 345, 3, 2, 0, 1, 1203), (15, .dup, 1, 0, 0, 0, 0), (16, .invokespecial 347, 3, 0, 1, 99, 1212), (19, .athrow, 1, 0, 0, 0, 0), (20, .return_, 1, 0, 0, 0, 0)]
/-- DropSwitch appendWord (I)V -/
noncomputable def cd_156 : List (Nat × Ent) := [
  (0, .bipush 24, 2, 0, 0, 0, 0), (2, .istore_n 2, 1, 0, 0, 0, 0), (3, .iload_n 2, 1, 0, 0, 0, 0), (4, .ifCond .lt 32, 3, 0, 0, 0, 0), (7, .aload_n 0, 1, 0, 0, 0, 0), 
  (8, .getfield 9, 3, 9, 0, 2, 724), (11, .aload_n 0, 1, 0, 0, 0, 0), (12, .getfield 13, 3, 9, 1, 0, 725), (15, .iload_n 1, 1, 0, 0, 0, 0), (16, .iload_n 2, 1, 0, 0, 0, 0), 
  (17, .ishr, 1, 0, 0, 0, 0), (18, .i2b, 1, 0, 0, 0, 0), (19, .bastore, 1, 0, 0, 0, 0), (20, .aload_n 0, 1, 0, 0, 0, 0), (21, .dup, 1, 0, 0, 0, 0), 
  (22, .getfield 13, 3, 9, 1, 0, 725), (25, .iconst 1, 1, 0, 0, 0, 0), (26, .iadd, 1, 0, 0, 0, 0), (27, .putfield 13, 3, 9, 1, 0, 725), (30, .iinc 2 (-8), 3, 0, 0, 0, 0), 
  (33, .goto (-30), 3, 0, 0, 0, 0), (36, .return_, 1, 0, 0, 0, 0)]
/-- DropSwitch startOver ()V -/
noncomputable def cd_157 : List (Nat × Ent) := [
  (0, .aload_n 0, 1, 0, 0, 0, 0), (1, .getfield 42, 3, 9, 6, 2, 730), (4, .iconst 0, 1, 0, 0, 0, 0), (5, .invokevirtual 177, 3, 3, 2, 0, 687), (8, .aload_n 0, 1, 0, 0, 0, 0), 
  (9, .getfield 67, 3, 9, 10, 2, 734), (12, .invokevirtual 180, 3, 92, 1, 0, 691), (15, .aload_n 0, 1, 0, 0, 0, 0), (16, .dup, 1, 0, 0, 0, 0), (17, .getfield 74, 3, 9, 12, 0, 736), 
  (20, .iconst 1, 1, 0, 0, 0, 0), (21, .iadd, 1, 0, 0, 0, 0), (22, .putfield 74, 3, 9, 12, 0, 736), (25, .aload_n 0, 1, 0, 0, 0, 0), (26, .getfield 57, 3, 9, 8, 2, 732), 
  (29, .getfield 218, 3, 5, 0, 2, 635), (32, .aload_n 0, 1, 0, 0, 0, 0), (33, .getfield 35, 3, 9, 5, 2, 729), (36, .getfield 113, 3, 6, 0, 2, 439), 
  (39, .invokevirtual 297, 3, 9, 2, 0, 698), (42, .aload_n 0, 1, 0, 0, 0, 0), (43, .getfield 57, 3, 9, 8, 2, 732), (46, .invokevirtual 183, 3, 49, 1, 0, 705), 
  (49, .aload_n 0, 1, 0, 0, 0, 0), (50, .getfield 48, 3, 9, 7, 2, 731), (53, .iconst 0, 1, 0, 0, 0, 0), (54, .aaload, 1, 0, 0, 0, 0), (55, .aload_n 0, 1, 0, 0, 0, 0), 
  (56, .getfield 57, 3, 9, 8, 2, 732), (59, .getfield 140, 3, 5, 1, 2, 637), (62, .invokevirtual 348, 3, 79, 2, 0, 719), (65, .return_, 1, 0, 0, 0, 0)]
/-- DropSwitch goOn ()I -/
noncomputable def cd_158 : List (Nat × Ent) := [
  (0, .aload_n 0, 1, 0, 0, 0, 0), (1, .getfield 42, 3, 9, 6, 2, 730), (4, .getfield 125, 3, 0, 0, 0, 507), (7, .iconst 1, 1, 0, 0, 0, 0), (8, .isub, 1, 0, 0, 0, 0), 
  (9, .istore_n 1, 1, 0, 0, 0, 0), (10, .aload_n 0, 1, 0, 0, 0, 0), (11, .dup, 1, 0, 0, 0, 0), (12, .getfield 74, 3, 9, 12, 0, 736), (15, .iconst 1, 1, 0, 0, 0, 0), 
  (16, .iadd, 1, 0, 0, 0, 0), (17, .putfield 74, 3, 9, 12, 0, 736), (20, .iload_n 1, 1, 0, 0, 0, 0), (21, .bipush 16, 2, 0, 0, 0, 0), (23, .irem, 1, 0, 0, 0, 0), 
  (24, .ifCond .ne 22, 3, 0, 0, 0, 0), (27, .aload_n 0, 1, 0, 0, 0, 0), (28, .getfield 48, 3, 9, 7, 2, 731), (31, .iload_n 1, 1, 0, 0, 0, 0), (32, .bipush 16, 2, 0, 0, 0, 0), 
  (34, .idiv, 1, 0, 0, 0, 0), (35, .aaload, 1, 0, 0, 0, 0), (36, .aload_n 0, 1, 0, 0, 0, 0), (37, .getfield 57, 3, 9, 8, 2, 732), (40, .getfield 140, 3, 5, 1, 2, 637), 
  (43, .invokevirtual 348, 3, 79, 2, 0, 719), (46, .aload_n 0, 1, 0, 0, 0, 0), (47, .getfield 57, 3, 9, 8, 2, 732), (50, .iload_n 1, 1, 0, 0, 0, 0), 
  (51, .invokevirtual 186, 3, 51, 2, 0, 1251), (54, .ireturn, 1, 0, 0, 0, 0)]
/-- DropSwitch causeWord (I)Ljava/lang/String; -/
noncomputable def cd_166 : List (Nat × Ent) := [
  (0, .iload_n 0, 1, 0, 0, 0, 0), (1, .tableswitch 87 1 9 #[51, 55, 59, 63, 67, 71, 75, 79, 83], 51, 0, 0, 0, 0), (52, .ldc_w 366, 3, 17, 0, 0, 275), (55, .areturn, 1, 0, 0, 0, 0), 
  (56, .ldc_w 368, 3, 18, 0, 0, 276), (59, .areturn, 1, 0, 0, 0, 0), (60, .ldc_w 370, 3, 19, 0, 0, 277), (63, .areturn, 1, 0, 0, 0, 0), (64, .ldc_w 372, 3, 20, 0, 0, 278), 
  (67, .areturn, 1, 0, 0, 0, 0), (68, .ldc_w 374, 3, 21, 0, 0, 279), (71, .areturn, 1, 0, 0, 0, 0), (72, .ldc_w 376, 3, 22, 0, 0, 280), (75, .areturn, 1, 0, 0, 0, 0), 
  (76, .ldc_w 378, 3, 23, 0, 0, 281), (79, .areturn, 1, 0, 0, 0, 0), (80, .ldc_w 380, 3, 24, 0, 0, 282), (83, .areturn, 1, 0, 0, 0, 0), (84, .ldc_w 382, 3, 25, 0, 0, 283), 
  (87, .areturn, 1, 0, 0, 0, 0), (88, .ldc_w 384, 3, 26, 0, 0, 284), (91, .areturn, 1, 0, 0, 0, 0)]
/-- DropSwitchLaw$Made <init> (LDropSwitchLaw$Random;)V -/
noncomputable def cd_167 : List (Nat × Ent) := [
  (0, .aload_n 0, 1, 0, 0, 0, 0), (1, .invokespecial 1, 3, 0, 1, 4, 351), (4, .aload_n 0, 1, 0, 0, 0, 0), (5, .new 7, 3, 9, 17, 0, 352), (8, .dup, 1, 0, 0, 0, 0), 
  (9, .invokespecial 9, 3, 98, 1, 2, 353), (12, .putfield 10, 3, 10, 0, 12, 1161), (15, .aload_n 0, 1, 0, 0, 0, 0), (16, .iconst 4, 1, 0, 0, 0, 0), 
  (17, .newarray .int, 2, 1, 0, 0, 0), (19, .putfield 16, 3, 10, 4, 12, 1169), (22, .aload_n 0, 1, 0, 0, 0, 0), (23, .iconst 2, 1, 0, 0, 0, 0), (24, .aload_n 1, 1, 0, 0, 0, 0), 
  (25, .iconst 3, 1, 0, 0, 0, 0), (26, .invokevirtual 20, 3, 173, 2, 0, 776), (29, .iadd, 1, 0, 0, 0, 0), (30, .putfield 26, 3, 10, 1, 10, 1163), (33, .new 30, 3, 13, 4, 0, 781), 
  (36, .dup, 1, 0, 0, 0, 0), (37, .invokespecial 32, 3, 195, 1, 2, 783), (40, .astore_n 2, 1, 0, 0, 0, 0), (41, .iconst 0, 1, 0, 0, 0, 0), (42, .istore_n 3, 1, 0, 0, 0, 0), 
  (43, .iload_n 3, 1, 0, 0, 0, 0), (44, .aload_n 0, 1, 0, 0, 0, 0), (45, .getfield 26, 3, 10, 1, 0, 1163), (48, .if_icmp .ge 71, 3, 0, 0, 0, 0), (51, .aload_n 0, 1, 0, 0, 0, 0), 
  (52, .getfield 16, 3, 10, 4, 2, 1169), (55, .iload_n 3, 1, 0, 0, 0, 0), (56, .iconst 3, 1, 0, 0, 0, 0), (57, .aload_n 1, 1, 0, 0, 0, 0), (58, .bipush 12, 2, 0, 0, 0, 0), 
  (60, .invokevirtual 20, 3, 173, 2, 0, 776), (63, .iadd, 1, 0, 0, 0, 0), (64, .iastore, 1, 0, 0, 0, 0), (65, .aload_n 2, 1, 0, 0, 0, 0), (66, .ldc 33, 2, 27, 0, 0, 811), 
  (68, .invokevirtual 35, 3, 196, 2, 0, 812), (71, .ldc 39, 2, 28, 0, 0, 911), (73, .iload_n 3, 1, 0, 0, 0, 0), (74, .invokevirtual 41, 3, 300, 2, 0, 912), 
  (77, .invokevirtual 47, 3, 197, 2, 0, 913), (80, .ldc 50, 2, 29, 0, 0, 926), (82, .invokevirtual 35, 3, 196, 2, 0, 812), (85, .aload_n 0, 1, 0, 0, 0, 0), 
  (86, .getfield 16, 3, 10, 4, 2, 1169), (89, .iload_n 3, 1, 0, 0, 0, 0), (90, .iaload, 1, 0, 0, 0, 0), (91, .invokevirtual 52, 3, 198, 2, 0, 927), (94, .ldc 50, 2, 29, 0, 0, 926), 
  (96, .invokevirtual 35, 3, 196, 2, 0, 812), (99, .aload_n 1, 1, 0, 0, 0, 0), (100, .iconst 3, 1, 0, 0, 0, 0), (101, .invokevirtual 20, 3, 173, 2, 0, 776), 
  (104, .invokevirtual 52, 3, 198, 2, 0, 927), (107, .ldc 55, 2, 30, 0, 0, 952), (109, .invokevirtual 35, 3, 196, 2, 0, 812), (112, .pop, 1, 0, 0, 0, 0), 
  (113, .iinc 3 1, 3, 0, 0, 0, 0), (116, .goto (-73), 3, 0, 0, 0, 0), (119, .aload_n 0, 1, 0, 0, 0, 0), (120, .bipush 8, 2, 0, 0, 0, 0), (122, .aload_n 1, 1, 0, 0, 0, 0), 
  (123, .bipush 30, 2, 0, 0, 0, 0), (125, .invokevirtual 20, 3, 173, 2, 0, 776), (128, .iadd, 1, 0, 0, 0, 0), (129, .putfield 57, 3, 10, 3, 10, 1167), 
  (132, .aload_n 2, 1, 0, 0, 0, 0), (133, .ldc 60, 2, 31, 0, 0, 953), (135, .invokevirtual 35, 3, 196, 2, 0, 812), (138, .aload_n 0, 1, 0, 0, 0, 0), 
  (139, .getfield 57, 3, 10, 3, 0, 1167), (142, .invokevirtual 52, 3, 198, 2, 0, 927), (145, .ldc 62, 2, 32, 0, 0, 954), (147, .invokevirtual 35, 3, 196, 2, 0, 812), 
  (150, .iconst 2, 1, 0, 0, 0, 0), (151, .aload_n 1, 1, 0, 0, 0, 0), (152, .bipush 9, 2, 0, 0, 0, 0), (154, .invokevirtual 20, 3, 173, 2, 0, 776), (157, .iadd, 1, 0, 0, 0, 0), 
  (158, .invokevirtual 52, 3, 198, 2, 0, 927), (161, .ldc 64, 2, 33, 0, 0, 955), (163, .invokevirtual 35, 3, 196, 2, 0, 812), (166, .aload_n 1, 1, 0, 0, 0, 0), 
  (167, .bipush 12, 2, 0, 0, 0, 0), (169, .invokevirtual 20, 3, 173, 2, 0, 776), (172, .invokevirtual 52, 3, 198, 2, 0, 927), (175, .ldc 55, 2, 30, 0, 0, 952), 
  (177, .invokevirtual 35, 3, 196, 2, 0, 812), (180, .pop, 1, 0, 0, 0, 0), (181, .aload_n 1, 1, 0, 0, 0, 0), (182, .iconst 2, 1, 0, 0, 0, 0), 
  (183, .invokevirtual 20, 3, 173, 2, 0, 776), (186, .ifCond .ne 37, 3, 0, 0, 0, 0), (189, .aload_n 2, 1, 0, 0, 0, 0), (190, .ldc 66, 2, 34, 0, 0, 956), 
  (192, .invokevirtual 35, 3, 196, 2, 0, 812), (195, .aload_n 1, 1, 0, 0, 0, 0), (196, .iconst 5, 1, 0, 0, 0, 0), (197, .invokevirtual 20, 3, 173, 2, 0, 776), 
  (200, .invokevirtual 52, 3, 198, 2, 0, 927), (203, .ldc 50, 2, 29, 0, 0, 926), (205, .invokevirtual 35, 3, 196, 2, 0, 812), (208, .aload_n 1, 1, 0, 0, 0, 0), 
  (209, .bipush 15, 2, 0, 0, 0, 0), (211, .invokevirtual 20, 3, 173, 2, 0, 776), (214, .invokevirtual 52, 3, 198, 2, 0, 927), (217, .ldc 55, 2, 30, 0, 0, 952), 
  (219, .invokevirtual 35, 3, 196, 2, 0, 812), (222, .pop, 1, 0, 0, 0, 0), (223, .aload_n 0, 1, 0, 0, 0, 0), (224, .aload_n 1, 1, 0, 0, 0, 0), (225, .iconst 3, 1, 0, 0, 0, 0), 
  (226, .invokevirtual 20, 3, 173, 2, 0, 776), (229, .putfield 68, 3, 10, 2, 10, 1165), (232, .iconst 0, 1, 0, 0, 0, 0), (233, .istore_n 3, 1, 0, 0, 0, 0), 
  (234, .iload_n 3, 1, 0, 0, 0, 0), (235, .aload_n 0, 1, 0, 0, 0, 0), (236, .getfield 68, 3, 10, 2, 0, 1165), (239, .if_icmp .ge 158, 3, 0, 0, 0, 0), (242, .aload_n 2, 1, 0, 0, 0, 0), 
  (243, .aload_n 1, 1, 0, 0, 0, 0), (244, .iconst 3, 1, 0, 0, 0, 0), (245, .invokevirtual 20, 3, 173, 2, 0, 776), (248, .ifCond .ne 8, 3, 0, 0, 0, 0), 
  (251, .ldc 71, 2, 35, 0, 0, 957), (253, .goto 5, 3, 0, 0, 0, 0), (256, .ldc 73, 2, 36, 0, 0, 958), (258, .invokevirtual 35, 3, 196, 2, 0, 812), (261, .ldc 75, 2, 37, 0, 0, 959), 
  (263, .invokevirtual 35, 3, 196, 2, 0, 812), (266, .aload_n 1, 1, 0, 0, 0, 0), (267, .iconst 3, 1, 0, 0, 0, 0), (268, .invokevirtual 20, 3, 173, 2, 0, 776), 
  (271, .ifCond .ne 8, 3, 0, 0, 0, 0), (274, .ldc 77, 2, 38, 0, 0, 960), (276, .goto 5, 3, 0, 0, 0, 0), (279, .ldc 79, 2, 39, 0, 0, 961), (281, .invokevirtual 35, 3, 196, 2, 0, 812), 
  (284, .aload_n 1, 1, 0, 0, 0, 0), (285, .iconst 2, 1, 0, 0, 0, 0), (286, .invokevirtual 20, 3, 173, 2, 0, 776), (289, .ifCond .ne 32, 3, 0, 0, 0, 0), 
  (292, .new 30, 3, 13, 4, 0, 781), (295, .dup, 1, 0, 0, 0, 0), (296, .invokespecial 32, 3, 195, 1, 2, 783), (299, .ldc 81, 2, 40, 0, 0, 962), 
  (301, .invokevirtual 35, 3, 196, 2, 0, 812), (304, .iconst 3, 1, 0, 0, 0, 0), (305, .aload_n 1, 1, 0, 0, 0, 0), (306, .bipush 6, 2, 0, 0, 0, 0), 
  (308, .invokevirtual 20, 3, 173, 2, 0, 776), (311, .iadd, 1, 0, 0, 0, 0), (312, .invokevirtual 52, 3, 198, 2, 0, 927), (315, .invokevirtual 83, 3, 199, 1, 0, 963), 
  (318, .goto 46, 3, 0, 0, 0, 0), (321, .new 30, 3, 13, 4, 0, 781), (324, .dup, 1, 0, 0, 0, 0), (325, .invokespecial 32, 3, 195, 1, 2, 783), (328, .ldc 87, 2, 41, 0, 0, 1020), 
  (330, .invokevirtual 35, 3, 196, 2, 0, 812), (333, .aload_n 1, 1, 0, 0, 0, 0), (334, .bipush 6, 2, 0, 0, 0, 0), (336, .invokevirtual 20, 3, 173, 2, 0, 776), 
  (339, .invokevirtual 52, 3, 198, 2, 0, 927), (342, .ldc 89, 2, 42, 0, 0, 1021), (344, .invokevirtual 35, 3, 196, 2, 0, 812), (347, .aload_n 1, 1, 0, 0, 0, 0), 
  (348, .bipush 6, 2, 0, 0, 0, 0), (350, .invokevirtual 20, 3, 173, 2, 0, 776), (353, .invokevirtual 52, 3, 198, 2, 0, 927), (356, .ldc 91, 2, 43, 0, 0, 1022), 
  (358, .invokevirtual 35, 3, 196, 2, 0, 812), (361, .invokevirtual 83, 3, 199, 1, 0, 963), (364, .invokevirtual 35, 3, 196, 2, 0, 812), (367, .aload_n 1, 1, 0, 0, 0, 0), 
  (368, .iconst 3, 1, 0, 0, 0, 0), (369, .invokevirtual 20, 3, 173, 2, 0, 776), (372, .ifCond .ne 8, 3, 0, 0, 0, 0), (375, .ldc 93, 2, 44, 0, 0, 1023), (377, .goto 5, 3, 0, 0, 0, 0), 
  (380, .ldc 79, 2, 39, 0, 0, 961), (382, .invokevirtual 35, 3, 196, 2, 0, 812), (385, .ldc 55, 2, 30, 0, 0, 952), (387, .invokevirtual 35, 3, 196, 2, 0, 812), 
  (390, .pop, 1, 0, 0, 0, 0), (391, .iinc 3 1, 3, 0, 0, 0, 0), (394, .goto (-160), 3, 0, 0, 0, 0), (397, .aload_n 0, 1, 0, 0, 0, 0), (398, .aload_n 0, 1, 0, 0, 0, 0), 
  (399, .getfield 10, 3, 10, 0, 2, 1161), (402, .aload_n 2, 1, 0, 0, 0, 0), (403, .invokevirtual 83, 3, 199, 1, 0, 963), (406, .aload_n 0, 1, 0, 0, 0, 0), 
  (407, .getfield 26, 3, 10, 1, 0, 1163), (410, .invokestatic 95, 3, 212, 3, 12, 1024), (413, .putfield 101, 3, 10, 5, 16, 1171), (416, .return_, 1, 0, 0, 0, 0)]
/-- DropSwitchLaw$Made goes (LDropSwitchLaw$Random;)Z -/
noncomputable def cd_171 : List (Nat × Ent) := [
  (0, .aload_n 0, 1, 0, 0, 0, 0), (1, .getfield 10, 3, 10, 0, 2, 1161), (4, .iconst 4, 1, 0, 0, 0, 0), (5, .invokevirtual 105, 3, 104, 2, 0, 1190), (8, .istore_n 2, 1, 0, 0, 0, 0), 
  (9, .aload_n 1, 1, 0, 0, 0, 0), (10, .bipush 10, 2, 0, 0, 0, 0), (12, .invokevirtual 20, 3, 173, 2, 0, 776), (15, .istore_n 3, 1, 0, 0, 0, 0), (16, .iload_n 3, 1, 0, 0, 0, 0), 
  (17, .bipush 7, 2, 0, 0, 0, 0), (19, .if_icmp .ge 90, 3, 0, 0, 0, 0), (22, .aload_n 0, 1, 0, 0, 0, 0), (23, .getfield 10, 3, 10, 0, 2, 1161), (26, .iconst 3, 1, 0, 0, 0, 0), 
  (27, .invokevirtual 105, 3, 104, 2, 0, 1190), (30, .istore 4, 2, 0, 0, 0, 0), (32, .aload_n 0, 1, 0, 0, 0, 0), (33, .getfield 10, 3, 10, 0, 2, 1161), 
  (36, .aload_n 1, 1, 0, 0, 0, 0), (37, .aload_n 0, 1, 0, 0, 0, 0), (38, .getfield 26, 3, 10, 1, 0, 1163), (41, .invokevirtual 20, 3, 173, 2, 0, 776), (44, .aload_n 1, 1, 0, 0, 0, 0), 
  (45, .bipush 6, 2, 0, 0, 0, 0), (47, .invokevirtual 20, 3, 173, 2, 0, 776), (50, .aload_n 1, 1, 0, 0, 0, 0), (51, .bipush 6, 2, 0, 0, 0, 0), 
  (53, .invokevirtual 20, 3, 173, 2, 0, 776), (56, .iconst 1, 1, 0, 0, 0, 0), (57, .aload_n 1, 1, 0, 0, 0, 0), (58, .bipush 6, 2, 0, 0, 0, 0), 
  (60, .invokevirtual 20, 3, 173, 2, 0, 776), (63, .iadd, 1, 0, 0, 0, 0), (64, .aload_n 1, 1, 0, 0, 0, 0), (65, .iconst 4, 1, 0, 0, 0, 0), (66, .invokevirtual 20, 3, 173, 2, 0, 776), 
  (69, .invokevirtual 108, 3, 105, 6, 0, 1191), (72, .istore 5, 2, 0, 0, 0, 0), (74, .iload 5, 2, 0, 0, 0, 0), (76, .ifCond .lt 31, 3, 0, 0, 0, 0), (79, .iload 5, 2, 0, 0, 0, 0), 
  (81, .aload_n 0, 1, 0, 0, 0, 0), (82, .getfield 26, 3, 10, 1, 0, 1163), (85, .if_icmp .ge 22, 3, 0, 0, 0, 0), (88, .aload_n 0, 1, 0, 0, 0, 0), (89, .getfield 10, 3, 10, 0, 2, 1161), 
  (92, .iconst 3, 1, 0, 0, 0, 0), (93, .invokevirtual 105, 3, 104, 2, 0, 1190), (96, .iload 4, 2, 0, 0, 0, 0), (98, .iconst 1, 1, 0, 0, 0, 0), (99, .iadd, 1, 0, 0, 0, 0), 
  (100, .if_icmp .ne 7, 3, 0, 0, 0, 0), (103, .iconst 1, 1, 0, 0, 0, 0), (104, .goto 4, 3, 0, 0, 0, 0), (107, .iconst 0, 1, 0, 0, 0, 0), (108, .ireturn, 1, 0, 0, 1, 0), 
  (109, .iload_n 3, 1, 0, 0, 0, 0), (110, .bipush 9, 2, 0, 0, 0, 0), (112, .if_icmp .ge 44, 3, 0, 0, 0, 0), (115, .aload_n 0, 1, 0, 0, 0, 0), (116, .getfield 10, 3, 10, 0, 2, 1161), 
  (119, .iconst 5, 1, 0, 0, 0, 0), (120, .invokevirtual 105, 3, 104, 2, 0, 1190), (123, .istore 4, 2, 0, 0, 0, 0), (125, .aload_n 0, 1, 0, 0, 0, 0), 
  (126, .getfield 10, 3, 10, 0, 2, 1161), (129, .invokevirtual 112, 3, 106, 1, 0, 1382), (132, .ifCond .lt 22, 3, 0, 0, 0, 0), (135, .aload_n 0, 1, 0, 0, 0, 0), 
  (136, .getfield 10, 3, 10, 0, 2, 1161), (139, .iconst 5, 1, 0, 0, 0, 0), (140, .invokevirtual 105, 3, 104, 2, 0, 1190), (143, .iload 4, 2, 0, 0, 0, 0), 
  (145, .iconst 1, 1, 0, 0, 0, 0), (146, .iadd, 1, 0, 0, 0, 0), (147, .if_icmp .ne 7, 3, 0, 0, 0, 0), (150, .iconst 1, 1, 0, 0, 0, 0), (151, .goto 4, 3, 0, 0, 0, 0), 
  (154, .iconst 0, 1, 0, 0, 0, 0), (155, .ireturn, 1, 0, 0, 1, 0), (156, .aload_n 1, 1, 0, 0, 0, 0), (157, .aload_n 0, 1, 0, 0, 0, 0), (158, .getfield 26, 3, 10, 1, 0, 1163), 
  (161, .invokevirtual 20, 3, 173, 2, 0, 776), (164, .istore 4, 2, 0, 0, 0, 0), (166, .aload_n 1, 1, 0, 0, 0, 0), (167, .iconst 3, 1, 0, 0, 0, 0), 
  (168, .invokevirtual 20, 3, 173, 2, 0, 776), (171, .ifCond .le 7, 3, 0, 0, 0, 0), (174, .iconst 1, 1, 0, 0, 0, 0), (175, .goto 4, 3, 0, 0, 0, 0), (178, .iconst 0, 1, 0, 0, 0, 0), 
  (179, .istore 5, 2, 0, 0, 0, 0), (181, .aload_n 0, 1, 0, 0, 0, 0), (182, .getfield 10, 3, 10, 0, 2, 1161), (185, .iload 4, 2, 0, 0, 0, 0), (187, .iload 5, 2, 0, 0, 0, 0), 
  (189, .invokevirtual 116, 3, 107, 3, 0, 1387), (192, .aload_n 0, 1, 0, 0, 0, 0), (193, .getfield 10, 3, 10, 0, 2, 1161), (196, .iconst 4, 1, 0, 0, 0, 0), 
  (197, .invokevirtual 105, 3, 104, 2, 0, 1190), (200, .iload_n 2, 1, 0, 0, 0, 0), (201, .isub, 1, 0, 0, 0, 0), (202, .if_icmp .ne 21, 3, 0, 0, 0, 0), 
  (205, .aload_n 0, 1, 0, 0, 0, 0), (206, .getfield 10, 3, 10, 0, 2, 1161), (209, .iload 4, 2, 0, 0, 0, 0), (211, .invokevirtual 120, 3, 115, 2, 0, 1391), 
  (214, .iload 5, 2, 0, 0, 0, 0), (216, .if_icmp .ne 7, 3, 0, 0, 0, 0), (219, .iconst 1, 1, 0, 0, 0, 0), (220, .goto 4, 3, 0, 0, 0, 0), (223, .iconst 0, 1, 0, 0, 0, 0), 
  (224, .ireturn, 1, 0, 0, 1, 0)]
/-- DropSwitchLaw$Random <init> (I)V -/
noncomputable def cd_172 : List (Nat × Ent) := [
  (0, .aload_n 0, 1, 0, 0, 0, 0), (1, .invokespecial 1, 3, 0, 1, 4, 1401), (4, .aload_n 0, 1, 0, 0, 0, 0), (5, .iload_n 1, 1, 0, 0, 0, 0), (6, .putfield 7, 3, 11, 0, 0, 1402), 
  (9, .return_, 1, 0, 0, 0, 0)]
/-- DropSwitchLaw$Random next (I)I -/
noncomputable def cd_173 : List (Nat × Ent) := [
  (0, .aload_n 0, 1, 0, 0, 0, 0), (1, .ldc 13, 2, 1103515245, 0, 1, 780), (3, .aload_n 0, 1, 0, 0, 0, 0), (4, .getfield 7, 3, 11, 0, 0, 1402), (7, .imul, 1, 0, 0, 0, 0), 
  (8, .sipush 12345, 3, 0, 0, 0, 0), (11, .iadd, 1, 0, 0, 0, 0), (12, .putfield 7, 3, 11, 0, 0, 1402), (15, .aload_n 0, 1, 0, 0, 0, 0), (16, .getfield 7, 3, 11, 0, 0, 1402), 
  (19, .bipush 16, 2, 0, 0, 0, 0), (21, .iushr, 1, 0, 0, 0, 0), (22, .sipush 32767, 3, 0, 0, 0, 0), (25, .iand, 1, 0, 0, 0, 0), (26, .iload_n 1, 1, 0, 0, 0, 0), 
  (27, .irem, 1, 0, 0, 0, 0), (28, .ireturn, 1, 0, 0, 0, 0)]
/-- java/lang/AbstractStringBuilder <init> (I)V -/
noncomputable def cd_174 : List (Nat × Ent) := [
  (0, .aload_n 0, 1, 0, 0, 0, 0), (1, .invokespecial 3, 3, 0, 1, 4, 789), (4, .getstatic 18, 3, 0, 0, 0, 790), (7, .ifCond .eq 18, 3, 0, 0, 0, 0), (10, .aload_n 0, 1, 0, 0, 0, 0), 
  (11, .iload_n 1, 1, 0, 0, 0, 0), (12, .newarray .byte, 2, 3, 0, 0, 0), (14, .putfield 15, 3, 13, 0, 2, 798), (17, .aload_n 0, 1, 0, 0, 0, 0), (18, .iconst 0, 1, 0, 0, 0, 0), 
  (19, .putfield 22, 3, 13, 1, 5, 799), (22, .goto 16, 3, 0, 0, 0, 0), (25, .aload_n 0, 1, 0, 0, 0, 0), (26, .iload_n 1, 1, 0, 0, 0, 0), (27, .invokestatic 26, 3, 0, 1, 99, 791), 
  (30, .putfield 15, 3, 13, 0, 2, 798), (33, .aload_n 0, 1, 0, 0, 0, 0), (34, .iconst 1, 1, 0, 0, 0, 0), (35, .putfield 22, 3, 13, 1, 5, 799), (38, .return_, 1, 0, 0, 0, 0)]
/-- java/lang/AbstractStringBuilder length ()I -/
noncomputable def cd_175 : List (Nat × Ent) := [
  (0, .aload_n 0, 1, 0, 0, 0, 0), (1, .getfield 79, 3, 13, 3, 0, 801), (4, .ireturn, 1, 0, 0, 0, 0)]
/-- java/lang/AbstractStringBuilder ensureCapacityInternal (I)V -/
noncomputable def cd_176 : List (Nat × Ent) := [
  (0, .aload_n 0, 1, 0, 0, 0, 0), (1, .getfield 15, 3, 13, 0, 2, 798), (4, .arraylength, 1, 0, 0, 0, 0), (5, .aload_n 0, 1, 0, 0, 0, 0), (6, .getfield 22, 3, 13, 1, 0, 799), 
  (9, .ishr, 1, 0, 0, 0, 0), (10, .istore_n 2, 1, 0, 0, 0, 0), (11, .iload_n 1, 1, 0, 0, 0, 0), (12, .iload_n 2, 1, 0, 0, 0, 0), (13, .isub, 1, 0, 0, 0, 0), 
  (14, .ifCond .le 24, 3, 0, 0, 0, 0), (17, .aload_n 0, 1, 0, 0, 0, 0), (18, .aload_n 0, 1, 0, 0, 0, 0), (19, .getfield 15, 3, 13, 0, 2, 798), (22, .aload_n 0, 1, 0, 0, 0, 0), 
  (23, .iload_n 1, 1, 0, 0, 0, 0), (24, .invokevirtual 104, 3, 177, 2, 9, 827), (27, .aload_n 0, 1, 0, 0, 0, 0), (28, .getfield 22, 3, 13, 1, 0, 799), (31, .ishl, 1, 0, 0, 0, 0), 
  (32, .invokestatic 108, 3, 203, 2, 1, 842), (35, .putfield 15, 3, 13, 0, 2, 798), (38, .return_, 1, 0, 0, 0, 0)]
/-- java/lang/AbstractStringBuilder newCapacity (I)I -/
noncomputable def cd_177 : List (Nat × Ent) := [
  (0, .aload_n 0, 1, 0, 0, 0, 0), (1, .getfield 15, 3, 13, 0, 2, 798), (4, .arraylength, 1, 0, 0, 0, 0), (5, .istore_n 2, 1, 0, 0, 0, 0), (6, .iload_n 1, 1, 0, 0, 0, 0), 
  (7, .aload_n 0, 1, 0, 0, 0, 0), (8, .getfield 22, 3, 13, 1, 0, 799), (11, .ishl, 1, 0, 0, 0, 0), (12, .istore_n 3, 1, 0, 0, 0, 0), (13, .iload_n 3, 1, 0, 0, 0, 0), 
  (14, .iload_n 2, 1, 0, 0, 0, 0), (15, .isub, 1, 0, 0, 0, 0), (16, .istore 4, 2, 0, 0, 0, 0), (18, .iload_n 2, 1, 0, 0, 0, 0), (19, .iload 4, 2, 0, 0, 0, 0), 
  (21, .iload_n 2, 1, 0, 0, 0, 0), (22, .iconst 2, 1, 0, 0, 0, 0), (23, .aload_n 0, 1, 0, 0, 0, 0), (24, .getfield 22, 3, 13, 1, 0, 799), (27, .ishl, 1, 0, 0, 0, 0), 
  (28, .iadd, 1, 0, 0, 0, 0), (29, .invokestatic 114, 3, 207, 3, 1, 831), (32, .istore 5, 2, 0, 0, 0, 0), (34, .iload 5, 2, 0, 0, 0, 0), (36, .ldc 39, 2, 2147483647, 0, 1, 841), 
  (38, .if_icmp .ne 13, 3, 0, 0, 0, 0), (44, .dup, 1, 0, 0, 0, 0), (47, .invokespecial 124, 3, 0, 0, 99, 0), (50, .athrow, 1, 0, 0, 0, 0), (51, .iload 5, 2, 0, 0, 0, 0), 
  (53, .aload_n 0, 1, 0, 0, 0, 0), (54, .getfield 22, 3, 13, 1, 0, 799), (57, .ishr, 1, 0, 0, 0, 0), (58, .ireturn, 1, 0, 0, 0, 0)]
/-- java/lang/AbstractStringBuilder inflate ()V -/
noncomputable def cd_178 : List (Nat × Ent) := [
  (0, .aload_n 0, 1, 0, 0, 0, 0), (1, .invokevirtual 83, 3, 184, 1, 9, 856), (4, .ifCond .ne 4, 3, 0, 0, 0, 0), (7, .return_, 1, 0, 0, 0, 0), (8, .aload_n 0, 1, 0, 0, 0, 0), 
  (9, .getfield 15, 3, 13, 0, 2, 798), (12, .arraylength, 1, 0, 0, 0, 0), (13, .invokestatic 26, 3, 0, 1, 99, 791), (16, .astore_n 1, 1, 0, 0, 0, 0), (17, .aload_n 0, 1, 0, 0, 0, 0), 
  (18, .getfield 15, 3, 13, 0, 2, 798), (21, .iconst 0, 1, 0, 0, 0, 0), (22, .aload_n 1, 1, 0, 0, 0, 0), (23, .iconst 0, 1, 0, 0, 0, 0), (24, .aload_n 0, 1, 0, 0, 0, 0), 
  (25, .getfield 79, 3, 13, 3, 0, 801), (28, .invokestatic 125, 3, 202, 5, 1, 890), (31, .aload_n 0, 1, 0, 0, 0, 0), (32, .aload_n 1, 1, 0, 0, 0, 0), 
  (33, .putfield 15, 3, 13, 0, 2, 798), (36, .aload_n 0, 1, 0, 0, 0, 0), (37, .iconst 1, 1, 0, 0, 0, 0), (38, .putfield 22, 3, 13, 1, 5, 799), (41, .return_, 1, 0, 0, 0, 0)]
/-- java/lang/AbstractStringBuilder append (Ljava/lang/String;)Ljava/lang/AbstractStringBuilder; -/
noncomputable def cd_179 : List (Nat × Ent) := [
  (0, .aload_n 1, 1, 0, 0, 0, 0), (1, .ifnonnull 8, 3, 0, 0, 0, 0), (4, .aload_n 0, 1, 0, 0, 0, 0), (5, .invokevirtual 204, 3, 180, 1, 9, 819), (8, .areturn, 1, 0, 0, 0, 0), 
  (9, .aload_n 1, 1, 0, 0, 0, 0), (10, .invokevirtual 32, 3, 299, 1, 0, 876), (13, .istore_n 2, 1, 0, 0, 0, 0), (14, .aload_n 0, 1, 0, 0, 0, 0), (15, .aload_n 0, 1, 0, 0, 0, 0), 
  (16, .getfield 79, 3, 13, 3, 0, 801), (19, .iload_n 2, 1, 0, 0, 0, 0), (20, .iadd, 1, 0, 0, 0, 0), (21, .invokevirtual 100, 3, 176, 2, 9, 823), (24, .aload_n 0, 1, 0, 0, 0, 0), 
  (25, .aload_n 0, 1, 0, 0, 0, 0), (26, .getfield 79, 3, 13, 3, 0, 801), (29, .aload_n 1, 1, 0, 0, 0, 0), (30, .invokevirtual 208, 3, 186, 3, 9, 877), (33, .aload_n 0, 1, 0, 0, 0, 0), 
  (34, .dup, 1, 0, 0, 0, 0), (35, .getfield 79, 3, 13, 3, 0, 801), (38, .iload_n 2, 1, 0, 0, 0, 0), (39, .iadd, 1, 0, 0, 0, 0), (40, .putfield 79, 3, 13, 3, 0, 801), 
  (43, .aload_n 0, 1, 0, 0, 0, 0), (44, .areturn, 1, 0, 0, 0, 0)]
/-- java/lang/AbstractStringBuilder appendNull ()Ljava/lang/AbstractStringBuilder; -/
noncomputable def cd_180 : List (Nat × Ent) := [
  (0, .aload_n 0, 1, 0, 0, 0, 0), (1, .aload_n 0, 1, 0, 0, 0, 0), (2, .getfield 79, 3, 13, 3, 0, 801), (5, .iconst 4, 1, 0, 0, 0, 0), (6, .iadd, 1, 0, 0, 0, 0), 
  (7, .invokevirtual 100, 3, 176, 2, 9, 823), (10, .aload_n 0, 1, 0, 0, 0, 0), (11, .getfield 79, 3, 13, 3, 0, 801), (14, .istore_n 1, 1, 0, 0, 0, 0), (15, .aload_n 0, 1, 0, 0, 0, 0), 
  (16, .getfield 15, 3, 13, 0, 2, 798), (19, .astore_n 2, 1, 0, 0, 0, 0), (20, .aload_n 0, 1, 0, 0, 0, 0), (21, .invokevirtual 83, 3, 184, 1, 9, 856), 
  (24, .ifCond .eq 38, 3, 0, 0, 0, 0), (27, .aload_n 2, 1, 0, 0, 0, 0), (28, .iload_n 1, 1, 0, 0, 0, 0), (29, .iinc 1 1, 3, 0, 0, 0, 0), (32, .bipush 110, 2, 0, 0, 0, 0), 
  (34, .bastore, 1, 0, 0, 0, 0), (35, .aload_n 2, 1, 0, 0, 0, 0), (36, .iload_n 1, 1, 0, 0, 0, 0), (37, .iinc 1 1, 3, 0, 0, 0, 0), (40, .bipush 117, 2, 0, 0, 0, 0), 
  (42, .bastore, 1, 0, 0, 0, 0), (43, .aload_n 2, 1, 0, 0, 0, 0), (44, .iload_n 1, 1, 0, 0, 0, 0), (45, .iinc 1 1, 3, 0, 0, 0, 0), (48, .bipush 108, 2, 0, 0, 0, 0), 
  (50, .bastore, 1, 0, 0, 0, 0), (51, .aload_n 2, 1, 0, 0, 0, 0), (52, .iload_n 1, 1, 0, 0, 0, 0), (53, .iinc 1 1, 3, 0, 0, 0, 0), (56, .bipush 108, 2, 0, 0, 0, 0), 
  (58, .bastore, 1, 0, 0, 0, 0), (59, .goto 17, 3, 0, 0, 0, 0), (62, .aload_n 2, 1, 0, 0, 0, 0), (63, .iload_n 1, 1, 0, 0, 0, 0), (64, .bipush 110, 2, 0, 0, 0, 0), 
  (66, .bipush 117, 2, 0, 0, 0, 0), (68, .bipush 108, 2, 0, 0, 0, 0), (70, .bipush 108, 2, 0, 0, 0, 0), (72, .invokestatic 226, 3, 0, 6, 99, 861), (75, .istore_n 1, 1, 0, 0, 0, 0), 
  (76, .aload_n 0, 1, 0, 0, 0, 0), (77, .iload_n 1, 1, 0, 0, 0, 0), (78, .putfield 79, 3, 13, 3, 0, 801), (81, .aload_n 0, 1, 0, 0, 0, 0), (82, .areturn, 1, 0, 0, 0, 0)]
/-- java/lang/AbstractStringBuilder append (C)Ljava/lang/AbstractStringBuilder; -/
noncomputable def cd_181 : List (Nat × Ent) := [
  (0, .aload_n 0, 1, 0, 0, 0, 0), (1, .aload_n 0, 1, 0, 0, 0, 0), (2, .getfield 79, 3, 13, 3, 0, 801), (5, .iconst 1, 1, 0, 0, 0, 0), (6, .iadd, 1, 0, 0, 0, 0), 
  (7, .invokevirtual 100, 3, 176, 2, 9, 823), (10, .aload_n 0, 1, 0, 0, 0, 0), (11, .invokevirtual 83, 3, 184, 1, 9, 856), (14, .ifCond .eq 31, 3, 0, 0, 0, 0), 
  (17, .iload_n 1, 1, 0, 0, 0, 0), (18, .invokestatic 191, 3, 201, 1, 1, 920), (21, .ifCond .eq 24, 3, 0, 0, 0, 0), (24, .aload_n 0, 1, 0, 0, 0, 0), 
  (25, .getfield 15, 3, 13, 0, 2, 798), (28, .aload_n 0, 1, 0, 0, 0, 0), (29, .dup, 1, 0, 0, 0, 0), (30, .getfield 79, 3, 13, 3, 0, 801), (33, .dup_x1, 1, 0, 0, 0, 0), 
  (34, .iconst 1, 1, 0, 0, 0, 0), (35, .iadd, 1, 0, 0, 0, 0), (36, .putfield 79, 3, 13, 3, 0, 801), (39, .iload_n 1, 1, 0, 0, 0, 0), (40, .i2b, 1, 0, 0, 0, 0), 
  (41, .bastore, 1, 0, 0, 0, 0), (42, .goto 33, 3, 0, 0, 0, 0), (45, .aload_n 0, 1, 0, 0, 0, 0), (46, .invokevirtual 83, 3, 184, 1, 9, 856), (49, .ifCond .eq 7, 3, 0, 0, 0, 0), 
  (52, .aload_n 0, 1, 0, 0, 0, 0), (53, .invokevirtual 195, 3, 178, 1, 9, 886), (56, .aload_n 0, 1, 0, 0, 0, 0), (57, .getfield 15, 3, 13, 0, 2, 798), (60, .aload_n 0, 1, 0, 0, 0, 0), 
  (61, .dup, 1, 0, 0, 0, 0), (62, .getfield 79, 3, 13, 3, 0, 801), (65, .dup_x1, 1, 0, 0, 0, 0), (66, .iconst 1, 1, 0, 0, 0, 0), (67, .iadd, 1, 0, 0, 0, 0), 
  (68, .putfield 79, 3, 13, 3, 0, 801), (71, .iload_n 1, 1, 0, 0, 0, 0), (72, .invokestatic 197, 3, 0, 3, 99, 923), (75, .aload_n 0, 1, 0, 0, 0, 0), (76, .areturn, 1, 0, 0, 0, 0)]
/-- java/lang/AbstractStringBuilder append (I)Ljava/lang/AbstractStringBuilder; -/
noncomputable def cd_182 : List (Nat × Ent) := [
  (0, .aload_n 0, 1, 0, 0, 0, 0), (1, .getfield 79, 3, 13, 3, 0, 801), (4, .istore_n 2, 1, 0, 0, 0, 0), (5, .iload_n 2, 1, 0, 0, 0, 0), (6, .iload_n 1, 1, 0, 0, 0, 0), 
  (7, .invokestatic 245, 3, 188, 1, 1, 934), (10, .iadd, 1, 0, 0, 0, 0), (11, .istore_n 3, 1, 0, 0, 0, 0), (12, .aload_n 0, 1, 0, 0, 0, 0), (13, .iload_n 3, 1, 0, 0, 0, 0), 
  (14, .invokevirtual 100, 3, 176, 2, 9, 823), (17, .aload_n 0, 1, 0, 0, 0, 0), (18, .invokevirtual 83, 3, 184, 1, 9, 856), (21, .ifCond .eq 16, 3, 0, 0, 0, 0), 
  (24, .iload_n 1, 1, 0, 0, 0, 0), (25, .iload_n 3, 1, 0, 0, 0, 0), (26, .aload_n 0, 1, 0, 0, 0, 0), (27, .getfield 15, 3, 13, 0, 2, 798), (30, .invokestatic 248, 3, 187, 3, 1, 937), 
  (33, .pop, 1, 0, 0, 0, 0), (34, .goto 14, 3, 0, 0, 0, 0), (37, .iload_n 1, 1, 0, 0, 0, 0), (38, .iload_n 2, 1, 0, 0, 0, 0), (39, .iload_n 3, 1, 0, 0, 0, 0), 
  (40, .aload_n 0, 1, 0, 0, 0, 0), (41, .getfield 15, 3, 13, 0, 2, 798), (44, .invokestatic 251, 3, 0, 4, 99, 944), (47, .pop, 1, 0, 0, 0, 0), (48, .aload_n 0, 1, 0, 0, 0, 0), 
  (49, .iload_n 3, 1, 0, 0, 0, 0), (50, .putfield 79, 3, 13, 3, 0, 801), (53, .aload_n 0, 1, 0, 0, 0, 0), (54, .areturn, 1, 0, 0, 0, 0)]
/-- java/lang/AbstractStringBuilder getValue ()[B -/
noncomputable def cd_183 : List (Nat × Ent) := [
  (0, .aload_n 0, 1, 0, 0, 0, 0), (1, .getfield 15, 3, 13, 0, 2, 798), (4, .areturn, 1, 0, 0, 0, 0)]
/-- java/lang/AbstractStringBuilder isLatin1 ()Z -/
noncomputable def cd_184 : List (Nat × Ent) := [
  (0, .getstatic 18, 3, 0, 0, 0, 790), (3, .ifCond .eq 14, 3, 0, 0, 0, 0), (6, .aload_n 0, 1, 0, 0, 0, 0), (7, .getfield 22, 3, 13, 1, 0, 799), (10, .ifCond .ne 7, 3, 0, 0, 0, 0), 
  (13, .iconst 1, 1, 0, 0, 0, 0), (14, .goto 4, 3, 0, 0, 0, 0), (17, .iconst 0, 1, 0, 0, 0, 0), (18, .ireturn, 1, 0, 0, 1, 0)]
/-- java/lang/AbstractStringBuilder inflateIfNeededFor (Ljava/lang/String;)V -/
noncomputable def cd_185 : List (Nat × Ent) := [
  (0, .getstatic 18, 3, 0, 0, 0, 790), (3, .ifCond .eq 18, 3, 0, 0, 0, 0), (6, .aload_n 0, 1, 0, 0, 0, 0), (7, .getfield 22, 3, 13, 1, 0, 799), (10, .aload_n 1, 1, 0, 0, 0, 0), 
  (11, .invokevirtual 40, 3, 301, 1, 0, 885), (14, .if_icmp .eq 7, 3, 0, 0, 0, 0), (17, .aload_n 0, 1, 0, 0, 0, 0), (18, .invokevirtual 195, 3, 178, 1, 9, 886), 
  (21, .return_, 1, 0, 0, 0, 0)]
/-- java/lang/AbstractStringBuilder putStringAt (ILjava/lang/String;)V -/
noncomputable def cd_186 : List (Nat × Ent) := [
  (0, .aload_n 0, 1, 0, 0, 0, 0), (1, .aload_n 2, 1, 0, 0, 0, 0), (2, .invokevirtual 397, 3, 185, 2, 9, 881), (5, .aload_n 2, 1, 0, 0, 0, 0), (6, .aload_n 0, 1, 0, 0, 0, 0), 
  (7, .getfield 15, 3, 13, 0, 2, 798), (10, .iload_n 1, 1, 0, 0, 0, 0), (11, .aload_n 0, 1, 0, 0, 0, 0), (12, .getfield 22, 3, 13, 1, 0, 799), 
  (15, .invokevirtual 399, 3, 191, 4, 0, 905), (18, .return_, 1, 0, 0, 0, 0)]
/-- java/lang/Integer getChars (II[B)I -/
noncomputable def cd_187 : List (Nat × Ent) := [
  (0, .iload_n 1, 1, 0, 0, 0, 0), (1, .istore 5, 2, 0, 0, 0, 0), (3, .iload_n 0, 1, 0, 0, 0, 0), (4, .ifCond .ge 7, 3, 0, 0, 0, 0), (7, .iconst 1, 1, 0, 0, 0, 0), 
  (8, .goto 4, 3, 0, 0, 0, 0), (11, .iconst 0, 1, 0, 0, 0, 0), (12, .istore 6, 2, 0, 0, 0, 0), (14, .iload 6, 2, 0, 0, 0, 0), (16, .ifCond .ne 6, 3, 0, 0, 0, 0), 
  (19, .iload_n 0, 1, 0, 0, 0, 0), (20, .ineg, 1, 0, 0, 0, 0), (21, .istore_n 0, 1, 0, 0, 0, 0), (22, .iload_n 0, 1, 0, 0, 0, 0), (23, .bipush (-100), 2, 0, 0, 0, 0), 
  (25, .if_icmp .gt 47, 3, 0, 0, 0, 0), (28, .iload_n 0, 1, 0, 0, 0, 0), (29, .bipush 100, 2, 0, 0, 0, 0), (31, .idiv, 1, 0, 0, 0, 0), (32, .istore_n 3, 1, 0, 0, 0, 0), 
  (33, .iload_n 3, 1, 0, 0, 0, 0), (34, .bipush 100, 2, 0, 0, 0, 0), (36, .imul, 1, 0, 0, 0, 0), (37, .iload_n 0, 1, 0, 0, 0, 0), (38, .isub, 1, 0, 0, 0, 0), 
  (39, .istore 4, 2, 0, 0, 0, 0), (41, .iload_n 3, 1, 0, 0, 0, 0), (42, .istore_n 0, 1, 0, 0, 0, 0), (43, .aload_n 2, 1, 0, 0, 0, 0), (44, .iinc 5 (-1), 3, 0, 0, 0, 0), 
  (47, .iload 5, 2, 0, 0, 0, 0), (49, .getstatic 83, 3, 0, 0, 2, 940), (52, .iload 4, 2, 0, 0, 0, 0), (54, .baload, 1, 0, 0, 0, 0), (55, .bastore, 1, 0, 0, 0, 0), 
  (56, .aload_n 2, 1, 0, 0, 0, 0), (57, .iinc 5 (-1), 3, 0, 0, 0, 0), (60, .iload 5, 2, 0, 0, 0, 0), (62, .getstatic 87, 3, 0, 0, 3, 942), (65, .iload 4, 2, 0, 0, 0, 0), 
  (67, .baload, 1, 0, 0, 0, 0), (68, .bastore, 1, 0, 0, 0, 0), (69, .goto (-47), 3, 0, 0, 0, 0), (72, .aload_n 2, 1, 0, 0, 0, 0), (73, .iinc 5 (-1), 3, 0, 0, 0, 0), 
  (76, .iload 5, 2, 0, 0, 0, 0), (78, .getstatic 83, 3, 0, 0, 2, 940), (81, .iload_n 0, 1, 0, 0, 0, 0), (82, .ineg, 1, 0, 0, 0, 0), (83, .baload, 1, 0, 0, 0, 0), 
  (84, .bastore, 1, 0, 0, 0, 0), (85, .iload_n 0, 1, 0, 0, 0, 0), (86, .bipush (-9), 2, 0, 0, 0, 0), (88, .if_icmp .ge 16, 3, 0, 0, 0, 0), (91, .aload_n 2, 1, 0, 0, 0, 0), 
  (92, .iinc 5 (-1), 3, 0, 0, 0, 0), (95, .iload 5, 2, 0, 0, 0, 0), (97, .getstatic 87, 3, 0, 0, 3, 942), (100, .iload_n 0, 1, 0, 0, 0, 0), (101, .ineg, 1, 0, 0, 0, 0), 
  (102, .baload, 1, 0, 0, 0, 0), (103, .bastore, 1, 0, 0, 0, 0), (104, .iload 6, 2, 0, 0, 0, 0), (106, .ifCond .eq 12, 3, 0, 0, 0, 0), (109, .aload_n 2, 1, 0, 0, 0, 0), 
  (110, .iinc 5 (-1), 3, 0, 0, 0, 0), (113, .iload 5, 2, 0, 0, 0, 0), (115, .bipush 45, 2, 0, 0, 0, 0), (117, .bastore, 1, 0, 0, 0, 0), (118, .iload 5, 2, 0, 0, 0, 0), 
  (120, .ireturn, 1, 0, 0, 0, 0)]
/-- java/lang/Integer stringSize (I)I -/
noncomputable def cd_188 : List (Nat × Ent) := [
  (0, .iconst 1, 1, 0, 0, 0, 0), (1, .istore_n 1, 1, 0, 0, 0, 0), (2, .iload_n 0, 1, 0, 0, 0, 0), (3, .ifCond .lt 8, 3, 0, 0, 0, 0), (6, .iconst 0, 1, 0, 0, 0, 0), 
  (7, .istore_n 1, 1, 0, 0, 0, 0), (8, .iload_n 0, 1, 0, 0, 0, 0), (9, .ineg, 1, 0, 0, 0, 0), (10, .istore_n 0, 1, 0, 0, 0, 0), (11, .bipush (-10), 2, 0, 0, 0, 0), 
  (13, .istore_n 2, 1, 0, 0, 0, 0), (14, .iconst 1, 1, 0, 0, 0, 0), (15, .istore_n 3, 1, 0, 0, 0, 0), (16, .iload_n 3, 1, 0, 0, 0, 0), (17, .bipush 10, 2, 0, 0, 0, 0), 
  (19, .if_icmp .ge 23, 3, 0, 0, 0, 0), (22, .iload_n 0, 1, 0, 0, 0, 0), (23, .iload_n 2, 1, 0, 0, 0, 0), (24, .if_icmp .le 7, 3, 0, 0, 0, 0), (27, .iload_n 3, 1, 0, 0, 0, 0), 
  (28, .iload_n 1, 1, 0, 0, 0, 0), (29, .iadd, 1, 0, 0, 0, 0), (30, .ireturn, 1, 0, 0, 0, 0), (31, .bipush 10, 2, 0, 0, 0, 0), (33, .iload_n 2, 1, 0, 0, 0, 0), 
  (34, .imul, 1, 0, 0, 0, 0), (35, .istore_n 2, 1, 0, 0, 0, 0), (36, .iinc 3 1, 3, 0, 0, 0, 0), (39, .goto (-23), 3, 0, 0, 0, 0), (42, .bipush 10, 2, 0, 0, 0, 0), 
  (44, .iload_n 1, 1, 0, 0, 0, 0), (45, .iadd, 1, 0, 0, 0, 0), (46, .ireturn, 1, 0, 0, 0, 0)]
/-- java/lang/String <init> (Ljava/lang/StringBuilder;)V -/
noncomputable def cd_190 : List (Nat × Ent) := [
  (0, .aload_n 0, 1, 0, 0, 0, 0), (1, .aload_n 1, 1, 0, 0, 0, 0), (2, .aconst_null, 1, 0, 0, 0, 0), (3, .invokespecial 489, 3, 192, 3, 2, 972), (6, .return_, 1, 0, 0, 0, 0)]
/-- java/lang/String getBytes ([BIB)V -/
noncomputable def cd_191 : List (Nat × Ent) := [
  (0, .aload_n 0, 1, 0, 0, 0, 0), (1, .invokevirtual 335, 3, 301, 1, 0, 293), (4, .iload_n 3, 1, 0, 0, 0, 0), (5, .if_icmp .ne 23, 3, 0, 0, 0, 0), (8, .aload_n 0, 1, 0, 0, 0, 0), 
  (9, .getfield 9, 3, 12, 0, 3, 1009), (12, .iconst 0, 1, 0, 0, 0, 0), (13, .aload_n 1, 1, 0, 0, 0, 0), (14, .iload_n 2, 1, 0, 0, 0, 0), (15, .iload_n 3, 1, 0, 0, 0, 0), 
  (16, .ishl, 1, 0, 0, 0, 0), (17, .aload_n 0, 1, 0, 0, 0, 0), (18, .getfield 9, 3, 12, 0, 3, 1009), (21, .arraylength, 1, 0, 0, 0, 0), (22, .invokestatic 212, 3, 0, 5, 6, 909), 
  (25, .goto 18, 3, 0, 0, 0, 0), (28, .aload_n 0, 1, 0, 0, 0, 0), (29, .getfield 9, 3, 12, 0, 3, 1009), (32, .iconst 0, 1, 0, 0, 0, 0), (33, .aload_n 1, 1, 0, 0, 0, 0), 
  (34, .iload_n 2, 1, 0, 0, 0, 0), (35, .aload_n 0, 1, 0, 0, 0, 0), (36, .getfield 9, 3, 12, 0, 3, 1009), (39, .arraylength, 1, 0, 0, 0, 0), 
  (40, .invokestatic 106, 3, 202, 5, 1, 910), (43, .return_, 1, 0, 0, 0, 0)]
/-- java/lang/String <init> (Ljava/lang/AbstractStringBuilder;Ljava/lang/Void;)V -/
noncomputable def cd_192 : List (Nat × Ent) := [
  (0, .aload_n 0, 1, 0, 0, 0, 0), (1, .invokespecial 1, 3, 0, 1, 4, 975), (4, .aload_n 1, 1, 0, 0, 0, 0), (5, .invokevirtual 552, 3, 183, 1, 9, 976), (8, .astore_n 3, 1, 0, 0, 0, 0), 
  (9, .aload_n 1, 1, 0, 0, 0, 0), (10, .invokevirtual 549, 3, 200, 1, 9, 981), (13, .istore 4, 2, 0, 0, 0, 0), (15, .aload_n 1, 1, 0, 0, 0, 0), 
  (16, .invokevirtual 1047, 3, 184, 1, 9, 989), (19, .ifCond .eq 22, 3, 0, 0, 0, 0), (22, .aload_n 0, 1, 0, 0, 0, 0), (23, .iconst 0, 1, 0, 0, 0, 0), 
  (24, .putfield 15, 3, 12, 1, 15, 1010), (27, .aload_n 0, 1, 0, 0, 0, 0), (28, .aload_n 3, 1, 0, 0, 0, 0), (29, .iconst 0, 1, 0, 0, 0, 0), (30, .iload 4, 2, 0, 0, 0, 0), 
  (32, .invokestatic 54, 3, 205, 3, 1, 990), (35, .putfield 9, 3, 12, 0, 12, 1009), (38, .goto 59, 3, 0, 0, 0, 0), (41, .getstatic 38, 3, 0, 0, 0, 297), 
  (44, .ifCond .eq 35, 3, 0, 0, 0, 0), (47, .aload_n 1, 1, 0, 0, 0, 0), (48, .getfield 1048, 3, 13, 2, 0, 800), (51, .ifCond .eq 28, 3, 0, 0, 0, 0), (54, .aload_n 0, 1, 0, 0, 0, 0), 
  (55, .aload_n 3, 1, 0, 0, 0, 0), (56, .iconst 0, 1, 0, 0, 0, 0), (57, .iload 4, 2, 0, 0, 0, 0), (59, .invokestatic 1051, 3, 0, 3, 99, 999), (62, .putfield 9, 3, 12, 0, 12, 1009), 
  (65, .aload_n 0, 1, 0, 0, 0, 0), (66, .aload_n 0, 1, 0, 0, 0, 0), (67, .getfield 9, 3, 12, 0, 3, 1009), (70, .iload 4, 2, 0, 0, 0, 0), (72, .invokestatic 47, 3, 0, 2, 99, 1006), 
  (75, .putfield 15, 3, 12, 1, 15, 1010), (78, .return_, 1, 0, 0, 0, 0), (79, .aload_n 0, 1, 0, 0, 0, 0), (80, .iconst 1, 1, 0, 0, 0, 0), (81, .putfield 15, 3, 12, 1, 15, 1010), 
  (84, .aload_n 0, 1, 0, 0, 0, 0), (85, .aload_n 3, 1, 0, 0, 0, 0), (86, .iconst 0, 1, 0, 0, 0, 0), (87, .iload 4, 2, 0, 0, 0, 0), (89, .iconst 1, 1, 0, 0, 0, 0), 
  (90, .ishl, 1, 0, 0, 0, 0), (91, .invokestatic 54, 3, 205, 3, 1, 990), (94, .putfield 9, 3, 12, 0, 12, 1009), (97, .return_, 1, 0, 0, 0, 0)]
/-- java/lang/String checkBoundsOffCount (III)I -/
noncomputable def cd_193 : List (Nat × Ent) := [
  (0, .iload_n 0, 1, 0, 0, 0, 0), (1, .iload_n 1, 1, 0, 0, 0, 0), (2, .iload_n 2, 1, 0, 0, 0, 0), (3, .getstatic 1053, 3, 0, 0, 1, 313), (6, .invokestatic 1065, 3, 210, 4, 1, 902), 
  (9, .ireturn, 1, 0, 0, 0, 0)]
/-- java/lang/String checkBoundsBeginEnd (III)V -/
noncomputable def cd_194 : List (Nat × Ent) := [
  (0, .iload_n 0, 1, 0, 0, 0, 0), (1, .iload_n 1, 1, 0, 0, 0, 0), (2, .iload_n 2, 1, 0, 0, 0, 0), (3, .getstatic 1053, 3, 0, 0, 1, 313), (6, .invokestatic 1062, 3, 209, 4, 1, 870), 
  (9, .pop, 1, 0, 0, 0, 0), (10, .return_, 1, 0, 0, 0, 0)]
/-- java/lang/StringBuilder <init> ()V -/
noncomputable def cd_195 : List (Nat × Ent) := [
  (0, .aload_n 0, 1, 0, 0, 0, 0), (1, .bipush 16, 2, 0, 0, 0, 0), (3, .invokespecial 1, 3, 174, 2, 2, 786), (6, .return_, 1, 0, 0, 0, 0)]
/-- java/lang/StringBuilder append (Ljava/lang/String;)Ljava/lang/StringBuilder; -/
noncomputable def cd_196 : List (Nat × Ent) := [
  (0, .aload_n 0, 1, 0, 0, 0, 0), (1, .aload_n 1, 1, 0, 0, 0, 0), (2, .invokespecial 29, 3, 179, 2, 10, 816), (5, .pop, 1, 0, 0, 0, 0), (6, .aload_n 0, 1, 0, 0, 0, 0), 
  (7, .areturn, 1, 0, 0, 0, 0)]
/-- java/lang/StringBuilder append (C)Ljava/lang/StringBuilder; -/
noncomputable def cd_197 : List (Nat × Ent) := [
  (0, .aload_n 0, 1, 0, 0, 0, 0), (1, .iload_n 1, 1, 0, 0, 0, 0), (2, .invokespecial 50, 3, 181, 2, 10, 917), (5, .pop, 1, 0, 0, 0, 0), (6, .aload_n 0, 1, 0, 0, 0, 0), 
  (7, .areturn, 1, 0, 0, 0, 0)]
/-- java/lang/StringBuilder append (I)Ljava/lang/StringBuilder; -/
noncomputable def cd_198 : List (Nat × Ent) := [
  (0, .aload_n 0, 1, 0, 0, 0, 0), (1, .iload_n 1, 1, 0, 0, 0, 0), (2, .invokespecial 53, 3, 182, 2, 10, 931), (5, .pop, 1, 0, 0, 0, 0), (6, .aload_n 0, 1, 0, 0, 0, 0), 
  (7, .areturn, 1, 0, 0, 0, 0)]
/-- java/lang/StringBuilder toString ()Ljava/lang/String; -/
noncomputable def cd_199 : List (Nat × Ent) := [
  (0, .new 18, 3, 12, 4, 0, 967), (3, .dup, 1, 0, 0, 0, 0), (4, .aload_n 0, 1, 0, 0, 0, 0), (5, .invokespecial 137, 3, 190, 2, 2, 969), (8, .areturn, 1, 0, 0, 0, 0)]
/-- java/lang/StringBuilder length ()I -/
noncomputable def cd_200 : List (Nat × Ent) := [
  (0, .aload_n 0, 1, 0, 0, 0, 0), (1, .invokespecial 343, 3, 175, 1, 10, 987), (4, .ireturn, 1, 0, 0, 0, 0)]
/-- java/lang/StringLatin1 canEncode (C)Z -/
noncomputable def cd_201 : List (Nat × Ent) := [
  (0, .iload_n 0, 1, 0, 0, 0, 0), (1, .sipush 255, 3, 0, 0, 0, 0), (4, .if_icmp .gt 7, 3, 0, 0, 0, 0), (7, .iconst 1, 1, 0, 0, 0, 0), (8, .goto 4, 3, 0, 0, 0, 0), 
  (11, .iconst 0, 1, 0, 0, 0, 0), (12, .ireturn, 1, 0, 0, 1, 0)]
/-- java/lang/StringLatin1 inflate ([BI[BII)V -/
noncomputable def cd_202 : List (Nat × Ent) := [
  (0, .aload_n 0, 1, 0, 0, 0, 0), (1, .iload_n 1, 1, 0, 0, 0, 0), (2, .aload_n 2, 1, 0, 0, 0, 0), (3, .iload_n 3, 1, 0, 0, 0, 0), (4, .iload 4, 2, 0, 0, 0, 0), 
  (6, .invokestatic 240, 3, 0, 5, 99, 893), (9, .return_, 1, 0, 0, 0, 0)]
/-- java/util/Arrays copyOf ([BI)[B -/
noncomputable def cd_203 : List (Nat × Ent) := [
  (0, .iload_n 1, 1, 0, 0, 0, 0), (1, .aload_n 0, 1, 0, 0, 0, 0), (2, .arraylength, 1, 0, 0, 0, 0), (3, .if_icmp .ne 11, 3, 0, 0, 0, 0), (6, .aload_n 0, 1, 0, 0, 0, 0), 
  (7, .invokevirtual 310, 3, 0, 1, 8, 845), (10, .checkcast 311, 3, 3, 0, 0, 851), (13, .areturn, 1, 0, 0, 0, 0), (14, .iload_n 1, 1, 0, 0, 0, 0), 
  (15, .newarray .byte, 2, 3, 0, 0, 0), (17, .astore_n 2, 1, 0, 0, 0, 0), (18, .aload_n 0, 1, 0, 0, 0, 0), (19, .iconst 0, 1, 0, 0, 0, 0), (20, .aload_n 2, 1, 0, 0, 0, 0), 
  (21, .iconst 0, 1, 0, 0, 0, 0), (22, .aload_n 0, 1, 0, 0, 0, 0), (23, .arraylength, 1, 0, 0, 0, 0), (24, .iload_n 1, 1, 0, 0, 0, 0), (25, .invokestatic 304, 3, 0, 2, 5, 852), 
  (28, .invokestatic 150, 3, 0, 5, 6, 855), (31, .aload_n 2, 1, 0, 0, 0, 0), (32, .areturn, 1, 0, 0, 0, 0)]
/-- java/util/Arrays checkLength (II)V -/
noncomputable def cd_204 : List (Nat × Ent) := [
  (0, .iload_n 1, 1, 0, 0, 0, 0), (1, .iload_n 0, 1, 0, 0, 0, 0), (2, .if_icmp .ge 35, 3, 0, 0, 0, 0), (8, .dup, 1, 0, 0, 0, 0), (12, .dup, 1, 0, 0, 0, 0), 
  (13, .invokespecial 47, 3, 0, 0, 99, 0), (16, .iload_n 0, 1, 0, 0, 0, 0), (17, .invokevirtual 54, 3, 0, 0, 99, 0), (23, .invokevirtual 50, 3, 0, 0, 99, 0), 
  (26, .iload_n 1, 1, 0, 0, 0, 0), (27, .invokevirtual 54, 3, 0, 0, 99, 0), (30, .invokevirtual 61, 3, 0, 0, 99, 0), (33, .invokespecial 65, 3, 0, 0, 99, 0), 
  (36, .athrow, 1, 0, 0, 0, 0), (37, .return_, 1, 0, 0, 0, 0)]
/-- java/util/Arrays copyOfRange ([BII)[B -/
noncomputable def cd_205 : List (Nat × Ent) := [
  (0, .iload_n 1, 1, 0, 0, 0, 0), (1, .ifCond .ne 9, 3, 0, 0, 0, 0), (4, .iload_n 2, 1, 0, 0, 0, 0), (5, .aload_n 0, 1, 0, 0, 0, 0), (6, .arraylength, 1, 0, 0, 0, 0), 
  (7, .if_icmp .eq 10, 3, 0, 0, 0, 0), (10, .aload_n 0, 1, 0, 0, 0, 0), (11, .iload_n 1, 1, 0, 0, 0, 0), (12, .iload_n 2, 1, 0, 0, 0, 0), (13, .invokestatic 339, 3, 206, 3, 1, 993), 
  (16, .areturn, 1, 0, 0, 0, 0), (17, .aload_n 0, 1, 0, 0, 0, 0), (18, .invokevirtual 310, 3, 0, 1, 8, 845), (21, .checkcast 311, 3, 3, 0, 0, 851), (24, .areturn, 1, 0, 0, 0, 0)]
/-- java/util/Arrays copyOfRangeByte ([BII)[B -/
noncomputable def cd_206 : List (Nat × Ent) := [
  (0, .iload_n 1, 1, 0, 0, 0, 0), (1, .iload_n 2, 1, 0, 0, 0, 0), (2, .invokestatic 343, 3, 204, 2, 1, 996), (5, .iload_n 2, 1, 0, 0, 0, 0), (6, .iload_n 1, 1, 0, 0, 0, 0), 
  (7, .isub, 1, 0, 0, 0, 0), (8, .istore_n 3, 1, 0, 0, 0, 0), (9, .iload_n 3, 1, 0, 0, 0, 0), (10, .newarray .byte, 2, 3, 0, 0, 0), (12, .astore 4, 2, 0, 0, 0, 0), 
  (14, .aload_n 0, 1, 0, 0, 0, 0), (15, .iload_n 1, 1, 0, 0, 0, 0), (16, .aload 4, 2, 0, 0, 0, 0), (18, .iconst 0, 1, 0, 0, 0, 0), (19, .aload_n 0, 1, 0, 0, 0, 0), 
  (20, .arraylength, 1, 0, 0, 0, 0), (21, .iload_n 1, 1, 0, 0, 0, 0), (22, .isub, 1, 0, 0, 0, 0), (23, .iload_n 3, 1, 0, 0, 0, 0), (24, .invokestatic 304, 3, 0, 2, 5, 852), 
  (27, .invokestatic 150, 3, 0, 5, 6, 855), (30, .aload 4, 2, 0, 0, 0, 0), (32, .areturn, 1, 0, 0, 0, 0)]
/-- jdk/internal/util/ArraysSupport newLength (III)I -/
noncomputable def cd_207 : List (Nat × Ent) := [
  (0, .iload_n 0, 1, 0, 0, 0, 0), (1, .iload_n 1, 1, 0, 0, 0, 0), (2, .iload_n 2, 1, 0, 0, 0, 0), (3, .invokestatic 194, 3, 0, 2, 11, 834), (6, .iadd, 1, 0, 0, 0, 0), 
  (7, .istore_n 3, 1, 0, 0, 0, 0), (8, .iconst 0, 1, 0, 0, 0, 0), (9, .iload_n 3, 1, 0, 0, 0, 0), (10, .if_icmp .ge 11, 3, 0, 0, 0, 0), (13, .iload_n 3, 1, 0, 0, 0, 0), 
  (14, .ldc 200, 2, 2147483639, 0, 1, 837), (16, .if_icmp .gt 5, 3, 0, 0, 0, 0), (19, .iload_n 3, 1, 0, 0, 0, 0), (20, .ireturn, 1, 0, 0, 0, 0), (21, .iload_n 0, 1, 0, 0, 0, 0), 
  (22, .iload_n 1, 1, 0, 0, 0, 0), (23, .invokestatic 201, 3, 208, 2, 1, 838), (26, .ireturn, 1, 0, 0, 0, 0)]
/-- jdk/internal/util/ArraysSupport hugeLength (II)I -/
noncomputable def cd_208 : List (Nat × Ent) := [
  (0, .iload_n 0, 1, 0, 0, 0, 0), (1, .iload_n 1, 1, 0, 0, 0, 0), (2, .iadd, 1, 0, 0, 0, 0), (3, .istore_n 2, 1, 0, 0, 0, 0), (4, .iload_n 2, 1, 0, 0, 0, 0), 
  (5, .ifCond .ge 44, 3, 0, 0, 0, 0), (11, .dup, 1, 0, 0, 0, 0), (15, .dup, 1, 0, 0, 0, 0), (16, .invokespecial 91, 3, 0, 0, 99, 0), (21, .invokevirtual 94, 3, 0, 0, 99, 0), 
  (24, .iload_n 0, 1, 0, 0, 0, 0), (25, .invokevirtual 98, 3, 0, 0, 99, 0), (30, .invokevirtual 94, 3, 0, 0, 99, 0), (33, .iload_n 1, 1, 0, 0, 0, 0), 
  (34, .invokevirtual 98, 3, 0, 0, 99, 0), (39, .invokevirtual 94, 3, 0, 0, 99, 0), (42, .invokevirtual 101, 3, 0, 0, 99, 0), (45, .invokespecial 212, 3, 0, 0, 99, 0), 
  (48, .athrow, 1, 0, 0, 0, 0), (49, .iload_n 2, 1, 0, 0, 0, 0), (50, .ldc 200, 2, 2147483639, 0, 1, 837), (52, .if_icmp .gt 6, 3, 0, 0, 0, 0), 
  (55, .ldc 200, 2, 2147483639, 0, 1, 837), (57, .ireturn, 1, 0, 0, 0, 0), (58, .iload_n 2, 1, 0, 0, 0, 0), (59, .ireturn, 1, 0, 0, 0, 0)]
/-- jdk/internal/util/Preconditions checkFromToIndex (IIILjava/util/function/BiFunction;)I -/
noncomputable def cd_209 : List (Nat × Ent) := [
  (0, .iload_n 0, 1, 0, 0, 0, 0), (1, .ifCond .lt 13, 3, 0, 0, 0, 0), (4, .iload_n 0, 1, 0, 0, 0, 0), (5, .iload_n 1, 1, 0, 0, 0, 0), (6, .if_icmp .gt 8, 3, 0, 0, 0, 0), 
  (9, .iload_n 1, 1, 0, 0, 0, 0), (10, .iload_n 2, 1, 0, 0, 0, 0), (11, .if_icmp .le 11, 3, 0, 0, 0, 0), (14, .aload_n 3, 1, 0, 0, 0, 0), (15, .iload_n 0, 1, 0, 0, 0, 0), 
  (16, .iload_n 1, 1, 0, 0, 0, 0), (17, .iload_n 2, 1, 0, 0, 0, 0), (18, .invokestatic 99, 3, 0, 0, 99, 0), (21, .athrow, 1, 0, 0, 0, 0), (22, .iload_n 0, 1, 0, 0, 0, 0), 
  (23, .ireturn, 1, 0, 0, 0, 0)]
/-- jdk/internal/util/Preconditions checkFromIndexSize (IIILjava/util/function/BiFunction;)I -/
noncomputable def cd_210 : List (Nat × Ent) := [
  (0, .iload_n 2, 1, 0, 0, 0, 0), (1, .iload_n 0, 1, 0, 0, 0, 0), (2, .ior, 1, 0, 0, 0, 0), (3, .iload_n 1, 1, 0, 0, 0, 0), (4, .ior, 1, 0, 0, 0, 0), 
  (5, .ifCond .lt 10, 3, 0, 0, 0, 0), (8, .iload_n 1, 1, 0, 0, 0, 0), (9, .iload_n 2, 1, 0, 0, 0, 0), (10, .iload_n 0, 1, 0, 0, 0, 0), (11, .isub, 1, 0, 0, 0, 0), 
  (12, .if_icmp .le 11, 3, 0, 0, 0, 0), (15, .aload_n 3, 1, 0, 0, 0, 0), (16, .iload_n 0, 1, 0, 0, 0, 0), (17, .iload_n 1, 1, 0, 0, 0, 0), (18, .iload_n 2, 1, 0, 0, 0, 0), 
  (19, .invokestatic 103, 3, 0, 0, 99, 0), (22, .athrow, 1, 0, 0, 0, 0), (23, .iload_n 0, 1, 0, 0, 0, 0), (24, .ireturn, 1, 0, 0, 0, 0)]
/-- DropSwitchLaw draw ([II)I -/
noncomputable def cd_211 : List (Nat × Ent) := [
  (0, .iload_n 1, 1, 0, 0, 0, 0), (1, .aload_n 0, 1, 0, 0, 0, 0), (2, .arraylength, 1, 0, 0, 0, 0), (3, .if_icmp .ge 12, 3, 0, 0, 0, 0), (6, .aload_n 0, 1, 0, 0, 0, 0), 
  (7, .iload_n 1, 1, 0, 0, 0, 0), (8, .iaload, 1, 0, 0, 0, 0), (9, .ldc 7, 2, 2147483647, 0, 1, 1409), (11, .iand, 1, 0, 0, 0, 0), (12, .goto 4, 3, 0, 0, 0, 0), 
  (15, .iconst 0, 1, 0, 0, 0, 0), (16, .ireturn, 1, 0, 0, 0, 0)]
/-- DropSwitchLaw loads (LDropSwitch;Ljava/lang/String;I)Z -/
noncomputable def cd_212 : List (Nat × Ent) := [
  (0, .iconst 0, 1, 0, 0, 0, 0), (1, .istore_n 3, 1, 0, 0, 0, 0), (2, .iload_n 3, 1, 0, 0, 0, 0), (3, .aload_n 1, 1, 0, 0, 0, 0), (4, .invokevirtual 8, 3, 299, 1, 0, 1027), 
  (7, .if_icmp .ge 96, 3, 0, 0, 0, 0), (10, .iconst 5, 1, 0, 0, 0, 0), (11, .newarray .int, 2, 1, 0, 0, 0), (13, .astore 4, 2, 0, 0, 0, 0), (15, .iconst 0, 1, 0, 0, 0, 0), 
  (16, .istore 5, 2, 0, 0, 0, 0), (18, .iload 5, 2, 0, 0, 0, 0), (20, .bipush 20, 2, 0, 0, 0, 0), (22, .if_icmp .ge 49, 3, 0, 0, 0, 0), (25, .iload_n 3, 1, 0, 0, 0, 0), 
  (26, .iload 5, 2, 0, 0, 0, 0), (28, .iadd, 1, 0, 0, 0, 0), (29, .aload_n 1, 1, 0, 0, 0, 0), (30, .invokevirtual 8, 3, 299, 1, 0, 1027), (33, .if_icmp .ge 38, 3, 0, 0, 0, 0), 
  (36, .aload 4, 2, 0, 0, 0, 0), (38, .iload 5, 2, 0, 0, 0, 0), (40, .iconst 4, 1, 0, 0, 0, 0), (41, .idiv, 1, 0, 0, 0, 0), (42, .dup2, 1, 0, 0, 0, 0), (43, .iaload, 1, 0, 0, 0, 0), 
  (44, .aload_n 1, 1, 0, 0, 0, 0), (45, .iload_n 3, 1, 0, 0, 0, 0), (46, .iload 5, 2, 0, 0, 0, 0), (48, .iadd, 1, 0, 0, 0, 0), (49, .invokevirtual 14, 3, 300, 2, 0, 1028), 
  (52, .bipush 24, 2, 0, 0, 0, 0), (54, .bipush 8, 2, 0, 0, 0, 0), (56, .iload 5, 2, 0, 0, 0, 0), (58, .iconst 4, 1, 0, 0, 0, 0), (59, .irem, 1, 0, 0, 0, 0), 
  (60, .imul, 1, 0, 0, 0, 0), (61, .isub, 1, 0, 0, 0, 0), (62, .ishl, 1, 0, 0, 0, 0), (63, .ior, 1, 0, 0, 0, 0), (64, .iastore, 1, 0, 0, 0, 0), (65, .iinc 5 1, 3, 0, 0, 0, 0), 
  (68, .goto (-50), 3, 0, 0, 0, 0), (71, .aload_n 0, 1, 0, 0, 0, 0), (72, .aload 4, 2, 0, 0, 0, 0), (74, .iconst 0, 1, 0, 0, 0, 0), (75, .iaload, 1, 0, 0, 0, 0), 
  (76, .aload 4, 2, 0, 0, 0, 0), (78, .iconst 1, 1, 0, 0, 0, 0), (79, .iaload, 1, 0, 0, 0, 0), (80, .aload 4, 2, 0, 0, 0, 0), (82, .iconst 2, 1, 0, 0, 0, 0), 
  (83, .iaload, 1, 0, 0, 0, 0), (84, .aload 4, 2, 0, 0, 0, 0), (86, .iconst 3, 1, 0, 0, 0, 0), (87, .iaload, 1, 0, 0, 0, 0), (88, .aload 4, 2, 0, 0, 0, 0), 
  (90, .iconst 4, 1, 0, 0, 0, 0), (91, .iaload, 1, 0, 0, 0, 0), (92, .invokevirtual 18, 3, 99, 6, 0, 1029), (95, .istore 5, 2, 0, 0, 0, 0), (97, .iinc 3 20, 3, 0, 0, 0, 0), 
  (100, .goto (-98), 3, 0, 0, 0, 0), (103, .aload_n 0, 1, 0, 0, 0, 0), (104, .aload_n 1, 1, 0, 0, 0, 0), (105, .invokevirtual 8, 3, 299, 1, 0, 1027), 
  (108, .invokevirtual 24, 3, 100, 2, 0, 1037), (111, .istore_n 3, 1, 0, 0, 0, 0), (112, .aload_n 0, 1, 0, 0, 0, 0), (113, .invokevirtual 28, 3, 101, 1, 0, 1041), 
  (116, .iload_n 2, 1, 0, 0, 0, 0), (117, .if_icmp .ne 22, 3, 0, 0, 0, 0), (120, .aload_n 0, 1, 0, 0, 0, 0), (121, .invokevirtual 31, 3, 102, 1, 0, 1153), 
  (124, .iconst (-1), 1, 0, 0, 0, 0), (125, .if_icmp .ne 14, 3, 0, 0, 0, 0), (128, .aload_n 0, 1, 0, 0, 0, 0), (129, .invokevirtual 34, 3, 103, 1, 0, 1157), 
  (132, .ifCond .ne 7, 3, 0, 0, 0, 0), (135, .iconst 1, 1, 0, 0, 0, 0), (136, .goto 4, 3, 0, 0, 0, 0), (139, .iconst 0, 1, 0, 0, 0, 0), (140, .ireturn, 1, 0, 0, 1, 0)]
/-- java/lang/Integer compare (II)I -/
noncomputable def cd_297 : List (Nat × Ent) := [
  (0, .iload_n 0, 1, 0, 0, 0, 0), (1, .iload_n 1, 1, 0, 0, 0, 0), (2, .if_icmp .ge 7, 3, 0, 0, 0, 0), (5, .iconst (-1), 1, 0, 0, 0, 0), (6, .goto 13, 3, 0, 0, 0, 0), 
  (9, .iload_n 0, 1, 0, 0, 0, 0), (10, .iload_n 1, 1, 0, 0, 0, 0), (11, .if_icmp .ne 7, 3, 0, 0, 0, 0), (14, .iconst 0, 1, 0, 0, 0, 0), (15, .goto 4, 3, 0, 0, 0, 0), 
  (18, .iconst 1, 1, 0, 0, 0, 0), (19, .ireturn, 1, 0, 0, 0, 0)]
/-- java/lang/String length ()I -/
noncomputable def cd_299 : List (Nat × Ent) := [
  (0, .aload_n 0, 1, 0, 0, 0, 0), (1, .getfield 9, 3, 12, 0, 3, 1009), (4, .arraylength, 1, 0, 0, 0, 0), (5, .aload_n 0, 1, 0, 0, 0, 0), (6, .invokevirtual 335, 3, 301, 1, 0, 293), 
  (9, .ishr, 1, 0, 0, 0, 0), (10, .ireturn, 1, 0, 0, 0, 0)]
/-- java/lang/String charAt (I)C -/
noncomputable def cd_300 : List (Nat × Ent) := [
  (0, .aload_n 0, 1, 0, 0, 0, 0), (1, .invokevirtual 492, 3, 302, 1, 0, 303), (4, .ifCond .eq 12, 3, 0, 0, 0, 0), (7, .aload_n 0, 1, 0, 0, 0, 0), (8, .getfield 9, 3, 12, 0, 3, 1009), 
  (11, .iload_n 1, 1, 0, 0, 0, 0), (12, .invokestatic 495, 3, 304, 2, 1, 307), (15, .ireturn, 1, 0, 0, 2, 0), (16, .aload_n 0, 1, 0, 0, 0, 0), (17, .getfield 9, 3, 12, 0, 3, 1009), 
  (20, .iload_n 1, 1, 0, 0, 0, 0), (21, .invokestatic 498, 3, 0, 2, 99, 318), (24, .ireturn, 1, 0, 0, 2, 0)]
/-- java/lang/String coder ()B -/
noncomputable def cd_301 : List (Nat × Ent) := [
  (0, .getstatic 38, 3, 0, 0, 0, 297), (3, .ifCond .eq 10, 3, 0, 0, 0, 0), (6, .aload_n 0, 1, 0, 0, 0, 0), (7, .getfield 15, 3, 12, 1, 4, 1010), (10, .goto 4, 3, 0, 0, 0, 0), 
  (13, .iconst 1, 1, 0, 0, 0, 0), (14, .ireturn, 1, 0, 0, 3, 0)]
/-- java/lang/String isLatin1 ()Z -/
noncomputable def cd_302 : List (Nat × Ent) := [
  (0, .getstatic 38, 3, 0, 0, 0, 297), (3, .ifCond .eq 14, 3, 0, 0, 0, 0), (6, .aload_n 0, 1, 0, 0, 0, 0), (7, .getfield 15, 3, 12, 1, 4, 1010), (10, .ifCond .ne 7, 3, 0, 0, 0, 0), 
  (13, .iconst 1, 1, 0, 0, 0, 0), (14, .goto 4, 3, 0, 0, 0, 0), (17, .iconst 0, 1, 0, 0, 0, 0), (18, .ireturn, 1, 0, 0, 1, 0)]
/-- java/lang/String checkIndex (II)V -/
noncomputable def cd_303 : List (Nat × Ent) := [
  (0, .iload_n 0, 1, 0, 0, 0, 0), (1, .iload_n 1, 1, 0, 0, 0, 0), (2, .getstatic 1053, 3, 0, 0, 1, 313), (5, .invokestatic 1059, 3, 306, 3, 1, 315), (8, .pop, 1, 0, 0, 0, 0), 
  (9, .return_, 1, 0, 0, 0, 0)]
/-- java/lang/StringLatin1 charAt ([BI)C -/
noncomputable def cd_304 : List (Nat × Ent) := [
  (0, .iload_n 1, 1, 0, 0, 0, 0), (1, .aload_n 0, 1, 0, 0, 0, 0), (2, .arraylength, 1, 0, 0, 0, 0), (3, .invokestatic 9, 3, 303, 2, 1, 310), (6, .aload_n 0, 1, 0, 0, 0, 0), 
  (7, .iload_n 1, 1, 0, 0, 0, 0), (8, .baload, 1, 0, 0, 0, 0), (9, .sipush 255, 3, 0, 0, 0, 0), (12, .iand, 1, 0, 0, 0, 0), (13, .i2c, 1, 0, 0, 0, 0), (14, .ireturn, 1, 0, 0, 2, 0)]
/-- java/util/Arrays fill ([II)V -/
noncomputable def cd_305 : List (Nat × Ent) := [
  (0, .iconst 0, 1, 0, 0, 0, 0), (1, .istore_n 2, 1, 0, 0, 0, 0), (2, .aload_n 0, 1, 0, 0, 0, 0), (3, .arraylength, 1, 0, 0, 0, 0), (4, .istore_n 3, 1, 0, 0, 0, 0), 
  (5, .iload_n 2, 1, 0, 0, 0, 0), (6, .iload_n 3, 1, 0, 0, 0, 0), (7, .if_icmp .ge 13, 3, 0, 0, 0, 0), (10, .aload_n 0, 1, 0, 0, 0, 0), (11, .iload_n 2, 1, 0, 0, 0, 0), 
  (12, .iload_n 1, 1, 0, 0, 0, 0), (13, .iastore, 1, 0, 0, 0, 0), (14, .iinc 2 1, 3, 0, 0, 0, 0), (17, .goto (-12), 3, 0, 0, 0, 0), (20, .return_, 1, 0, 0, 0, 0)]
/-- jdk/internal/util/Preconditions checkIndex (IILjava/util/function/BiFunction;)I -/
noncomputable def cd_306 : List (Nat × Ent) := [
  (0, .iload_n 0, 1, 0, 0, 0, 0), (1, .ifCond .lt 8, 3, 0, 0, 0, 0), (4, .iload_n 0, 1, 0, 0, 0, 0), (5, .iload_n 1, 1, 0, 0, 0, 0), (6, .if_icmp .lt 10, 3, 0, 0, 0, 0), 
  (9, .aload_n 2, 1, 0, 0, 0, 0), (10, .iload_n 0, 1, 0, 0, 0, 0), (11, .iload_n 1, 1, 0, 0, 0, 0), (12, .invokestatic 95, 3, 0, 0, 99, 0), (15, .athrow, 1, 0, 0, 0, 0), 
  (16, .iload_n 0, 1, 0, 0, 0, 0), (17, .ireturn, 1, 0, 0, 0, 0)]
/-- DropSwitchLaw law ([I)Z -/
noncomputable def cd_344 : List (Nat × Ent) := [
  (0, .new 37, 3, 11, 1, 0, 1396), (3, .dup, 1, 0, 0, 0, 0), (4, .aload_n 0, 1, 0, 0, 0, 0), (5, .iconst 0, 1, 0, 0, 0, 0), (6, .invokestatic 39, 3, 211, 2, 1, 1406), 
  (9, .invokespecial 45, 3, 172, 2, 2, 1398), (12, .astore_n 1, 1, 0, 0, 0, 0), (13, .new 48, 3, 10, 6, 0, 346), (16, .dup, 1, 0, 0, 0, 0), (17, .aload_n 1, 1, 0, 0, 0, 0), 
  (18, .invokespecial 50, 3, 167, 2, 2, 348), (21, .astore_n 2, 1, 0, 0, 0, 0), (22, .aload_n 2, 1, 0, 0, 0, 0), (23, .getfield 53, 3, 10, 5, 20, 1172), 
  (26, .ifCond .eq 18, 3, 0, 0, 0, 0), (29, .aload_n 2, 1, 0, 0, 0, 0), (30, .getfield 57, 3, 10, 0, 22, 1162), (33, .iconst 1, 1, 0, 0, 0, 0), 
  (34, .invokevirtual 61, 3, 104, 2, 0, 73), (37, .aload_n 2, 1, 0, 0, 0, 0), (38, .getfield 65, 3, 10, 2, 20, 1166), (41, .if_icmp .eq 5, 3, 0, 0, 0, 0), 
  (44, .iconst 0, 1, 0, 0, 0, 0), (45, .ireturn, 1, 0, 0, 1, 0), (46, .aload_n 2, 1, 0, 0, 0, 0), (47, .getfield 57, 3, 10, 0, 22, 1162), (50, .astore_n 3, 1, 0, 0, 0, 0), 
  (51, .iconst 1, 1, 0, 0, 0, 0), (52, .istore 4, 2, 0, 0, 0, 0), (54, .iload 4, 2, 0, 0, 0, 0), (56, .aload_n 0, 1, 0, 0, 0, 0), (57, .arraylength, 1, 0, 0, 0, 0), 
  (58, .if_icmp .ge 38, 3, 0, 0, 0, 0), (61, .iload 4, 2, 0, 0, 0, 0), (63, .bipush 30, 2, 0, 0, 0, 0), (65, .if_icmp .ge 31, 3, 0, 0, 0, 0), (68, .aload_n 2, 1, 0, 0, 0, 0), 
  (69, .new 37, 3, 11, 1, 0, 1396), (72, .dup, 1, 0, 0, 0, 0), (73, .aload_n 0, 1, 0, 0, 0, 0), (74, .iload 4, 2, 0, 0, 0, 0), (76, .invokestatic 39, 3, 211, 2, 1, 1406), 
  (79, .invokespecial 45, 3, 172, 2, 2, 1398), (82, .invokevirtual 69, 3, 171, 2, 0, 1186), (85, .ifCond .ne 5, 3, 0, 0, 0, 0), (88, .iconst 0, 1, 0, 0, 0, 0), 
  (89, .ireturn, 1, 0, 0, 1, 0), (90, .iinc 4 1, 3, 0, 0, 0, 0), (93, .goto (-39), 3, 0, 0, 0, 0), (96, .aload_n 3, 1, 0, 0, 0, 0), (97, .iconst 3, 1, 0, 0, 0, 0), 
  (98, .invokevirtual 61, 3, 104, 2, 0, 73), (101, .istore 4, 2, 0, 0, 0, 0), (103, .aload_n 3, 1, 0, 0, 0, 0), (104, .iconst 4, 1, 0, 0, 0, 0), 
  (105, .invokevirtual 61, 3, 104, 2, 0, 73), (108, .istore 5, 2, 0, 0, 0, 0), (110, .iload 4, 2, 0, 0, 0, 0), (112, .newarray .int, 2, 1, 0, 0, 0), (114, .astore 6, 2, 0, 0, 0, 0), 
  (116, .iload 4, 2, 0, 0, 0, 0), (118, .aload_n 2, 1, 0, 0, 0, 0), (119, .getfield 73, 3, 10, 1, 20, 1164), (122, .multianewarray 76 2, 4, 6, 0, 0, 1410), 
  (126, .astore 7, 2, 0, 0, 0, 0), (128, .bipush 11, 2, 0, 0, 0, 0), (130, .newarray .int, 2, 1, 0, 0, 0), (132, .astore 8, 2, 0, 0, 0, 0), (134, .iconst 0, 1, 0, 0, 0, 0), 
  (135, .istore 9, 2, 0, 0, 0, 0), (137, .iconst 0, 1, 0, 0, 0, 0), (138, .istore 10, 2, 0, 0, 0, 0), (140, .iload 10, 2, 0, 0, 0, 0), (142, .iload 5, 2, 0, 0, 0, 0), 
  (144, .if_icmp .ge 207, 3, 0, 0, 0, 0), (147, .aload_n 3, 1, 0, 0, 0, 0), (148, .iload 10, 2, 0, 0, 0, 0), (150, .iconst 0, 1, 0, 0, 0, 0), 
  (151, .invokevirtual 78, 3, 121, 3, 0, 207), (154, .istore 11, 2, 0, 0, 0, 0), (156, .aload_n 3, 1, 0, 0, 0, 0), (157, .iload 10, 2, 0, 0, 0, 0), (159, .iconst 1, 1, 0, 0, 0, 0), 
  (160, .invokevirtual 78, 3, 121, 3, 0, 207), (163, .istore 12, 2, 0, 0, 0, 0), (165, .aload_n 3, 1, 0, 0, 0, 0), (166, .iload 10, 2, 0, 0, 0, 0), (168, .iconst 2, 1, 0, 0, 0, 0), 
  (169, .invokevirtual 78, 3, 121, 3, 0, 207), (172, .istore 13, 2, 0, 0, 0, 0), (174, .aload_n 3, 1, 0, 0, 0, 0), (175, .iload 10, 2, 0, 0, 0, 0), (177, .iconst 3, 1, 0, 0, 0, 0), 
  (178, .invokevirtual 78, 3, 121, 3, 0, 207), (181, .istore 14, 2, 0, 0, 0, 0), (183, .iload 11, 2, 0, 0, 0, 0), (185, .iload 9, 2, 0, 0, 0, 0), 
  (187, .if_icmp .lt 24, 3, 0, 0, 0, 0), (190, .iload 11, 2, 0, 0, 0, 0), (192, .aload_n 3, 1, 0, 0, 0, 0), (193, .iconst 2, 1, 0, 0, 0, 0), 
  (194, .invokevirtual 61, 3, 104, 2, 0, 73), (197, .if_icmp .ge 14, 3, 0, 0, 0, 0), (200, .aload_n 3, 1, 0, 0, 0, 0), (201, .iload 12, 2, 0, 0, 0, 0), 
  (203, .invokevirtual 82, 3, 111, 2, 0, 167), (206, .iload 11, 2, 0, 0, 0, 0), (208, .if_icmp .le 5, 3, 0, 0, 0, 0), (211, .iconst 0, 1, 0, 0, 0, 0), (212, .ireturn, 1, 0, 0, 1, 0), 
  (213, .iload 11, 2, 0, 0, 0, 0), (215, .istore 9, 2, 0, 0, 0, 0), (217, .aload 8, 2, 0, 0, 0, 0), (219, .iload 14, 2, 0, 0, 0, 0), (221, .dup2, 1, 0, 0, 0, 0), 
  (222, .iaload, 1, 0, 0, 0, 0), (223, .iconst 1, 1, 0, 0, 0, 0), (224, .iadd, 1, 0, 0, 0, 0), (225, .iastore, 1, 0, 0, 0, 0), (226, .iload 13, 2, 0, 0, 0, 0), 
  (228, .ifCond .ge 7, 3, 0, 0, 0, 0), (231, .iconst 1, 1, 0, 0, 0, 0), (232, .goto 4, 3, 0, 0, 0, 0), (235, .iconst 0, 1, 0, 0, 0, 0), (236, .iload 14, 2, 0, 0, 0, 0), 
  (238, .iconst 5, 1, 0, 0, 0, 0), (239, .if_icmp .gt 7, 3, 0, 0, 0, 0), (242, .iconst 1, 1, 0, 0, 0, 0), (243, .goto 4, 3, 0, 0, 0, 0), (246, .iconst 0, 1, 0, 0, 0, 0), 
  (247, .if_icmp .eq 5, 3, 0, 0, 0, 0), (250, .iconst 0, 1, 0, 0, 0, 0), (251, .ireturn, 1, 0, 0, 1, 0), (252, .iload 13, 2, 0, 0, 0, 0), (254, .ifCond .ge 15, 3, 0, 0, 0, 0), 
  (257, .aload 6, 2, 0, 0, 0, 0), (259, .iload 12, 2, 0, 0, 0, 0), (261, .dup2, 1, 0, 0, 0, 0), (262, .iaload, 1, 0, 0, 0, 0), (263, .iconst 1, 1, 0, 0, 0, 0), 
  (264, .iadd, 1, 0, 0, 0, 0), (265, .iastore, 1, 0, 0, 0, 0), (266, .goto 15, 3, 0, 0, 0, 0), (269, .aload 7, 2, 0, 0, 0, 0), (271, .iload 12, 2, 0, 0, 0, 0), 
  (273, .aaload, 1, 0, 0, 0, 0), (274, .iload 13, 2, 0, 0, 0, 0), (276, .dup2, 1, 0, 0, 0, 0), (277, .iaload, 1, 0, 0, 0, 0), (278, .iconst 1, 1, 0, 0, 0, 0), 
  (279, .iadd, 1, 0, 0, 0, 0), (280, .iastore, 1, 0, 0, 0, 0), (281, .iload 14, 2, 0, 0, 0, 0), (283, .bipush 8, 2, 0, 0, 0, 0), (285, .if_icmp .ne 7, 3, 0, 0, 0, 0), 
  (288, .iconst 1, 1, 0, 0, 0, 0), (289, .goto 4, 3, 0, 0, 0, 0), (292, .iconst 0, 1, 0, 0, 0, 0), (293, .aload_n 3, 1, 0, 0, 0, 0), (294, .iload 10, 2, 0, 0, 0, 0), 
  (296, .iconst 4, 1, 0, 0, 0, 0), (297, .invokevirtual 78, 3, 121, 3, 0, 207), (300, .ifCond .lt 13, 3, 0, 0, 0, 0), (303, .iload 14, 2, 0, 0, 0, 0), (305, .iconst 2, 1, 0, 0, 0, 0), 
  (306, .if_icmp .eq 7, 3, 0, 0, 0, 0), (309, .iconst 1, 1, 0, 0, 0, 0), (310, .goto 4, 3, 0, 0, 0, 0), (313, .iconst 0, 1, 0, 0, 0, 0), (314, .if_icmp .eq 5, 3, 0, 0, 0, 0), 
  (317, .iconst 0, 1, 0, 0, 0, 0), (318, .ireturn, 1, 0, 0, 1, 0), (319, .aload_n 3, 1, 0, 0, 0, 0), (320, .iload 12, 2, 0, 0, 0, 0), (322, .invokevirtual 85, 3, 122, 2, 0, 219), 
  (325, .iload 10, 2, 0, 0, 0, 0), (327, .if_icmp .le 5, 3, 0, 0, 0, 0), (330, .iconst 0, 1, 0, 0, 0, 0), (331, .ireturn, 1, 0, 0, 1, 0), (332, .aload_n 3, 1, 0, 0, 0, 0), 
  (333, .iload 10, 2, 0, 0, 0, 0), (335, .invokevirtual 88, 3, 144, 2, 0, 259), (338, .bipush 7, 2, 0, 0, 0, 0), (340, .if_icmp .ge 5, 3, 0, 0, 0, 0), (343, .iconst 0, 1, 0, 0, 0, 0), 
  (344, .ireturn, 1, 0, 0, 1, 0), (345, .iinc 10 1, 3, 0, 0, 0, 0), (348, .goto (-208), 3, 0, 0, 0, 0), (351, .iconst 1, 1, 0, 0, 0, 0), (352, .istore 10, 2, 0, 0, 0, 0), 
  (354, .iload 10, 2, 0, 0, 0, 0), (356, .bipush 11, 2, 0, 0, 0, 0), (358, .if_icmp .ge 25, 3, 0, 0, 0, 0), (361, .aload_n 3, 1, 0, 0, 0, 0), (362, .iload 10, 2, 0, 0, 0, 0), 
  (364, .invokevirtual 91, 3, 123, 2, 0, 223), (367, .aload 8, 2, 0, 0, 0, 0), (369, .iload 10, 2, 0, 0, 0, 0), (371, .iaload, 1, 0, 0, 0, 0), (372, .if_icmp .eq 5, 3, 0, 0, 0, 0), 
  (375, .iconst 0, 1, 0, 0, 0, 0), (376, .ireturn, 1, 0, 0, 1, 0), (377, .iinc 10 1, 3, 0, 0, 0, 0), (380, .goto (-26), 3, 0, 0, 0, 0), (383, .iconst 0, 1, 0, 0, 0, 0), 
  (384, .istore 10, 2, 0, 0, 0, 0), (386, .iconst 0, 1, 0, 0, 0, 0), (387, .istore 11, 2, 0, 0, 0, 0), (389, .iload 11, 2, 0, 0, 0, 0), (391, .aload_n 2, 1, 0, 0, 0, 0), 
  (392, .getfield 73, 3, 10, 1, 20, 1164), (395, .if_icmp .ge 161, 3, 0, 0, 0, 0), (398, .aload_n 3, 1, 0, 0, 0, 0), (399, .iload 11, 2, 0, 0, 0, 0), 
  (401, .invokevirtual 94, 3, 112, 2, 0, 175), (404, .istore 12, 2, 0, 0, 0, 0), (406, .iload 12, 2, 0, 0, 0, 0), (408, .aload_n 2, 1, 0, 0, 0, 0), 
  (409, .getfield 97, 3, 10, 4, 22, 1170), (412, .iload 11, 2, 0, 0, 0, 0), (414, .iaload, 1, 0, 0, 0, 0), (415, .if_icmp .gt 14, 3, 0, 0, 0, 0), (418, .iload 12, 2, 0, 0, 0, 0), 
  (420, .aload_n 3, 1, 0, 0, 0, 0), (421, .iload 11, 2, 0, 0, 0, 0), (423, .invokevirtual 101, 3, 113, 2, 0, 183), (426, .if_icmp .ge 5, 3, 0, 0, 0, 0), 
  (429, .iconst 0, 1, 0, 0, 0, 0), (430, .ireturn, 1, 0, 0, 1, 0), (431, .iload 10, 2, 0, 0, 0, 0), (433, .iload 12, 2, 0, 0, 0, 0), (435, .iadd, 1, 0, 0, 0, 0), 
  (436, .istore 10, 2, 0, 0, 0, 0), (438, .iconst 0, 1, 0, 0, 0, 0), (439, .istore 13, 2, 0, 0, 0, 0), (441, .iconst 0, 1, 0, 0, 0, 0), (442, .istore 14, 2, 0, 0, 0, 0), 
  (444, .iload 14, 2, 0, 0, 0, 0), (446, .iload 4, 2, 0, 0, 0, 0), (448, .if_icmp .ge 31, 3, 0, 0, 0, 0), (451, .iload 13, 2, 0, 0, 0, 0), (453, .aload_n 3, 1, 0, 0, 0, 0), 
  (454, .iload 14, 2, 0, 0, 0, 0), (456, .iload 11, 2, 0, 0, 0, 0), (458, .invokevirtual 104, 3, 120, 3, 0, 199), (461, .iconst 2, 1, 0, 0, 0, 0), 
  (462, .if_icmp .ne 7, 3, 0, 0, 0, 0), (465, .iconst 1, 1, 0, 0, 0, 0), (466, .goto 4, 3, 0, 0, 0, 0), (469, .iconst 0, 1, 0, 0, 0, 0), (470, .iadd, 1, 0, 0, 0, 0), 
  (471, .istore 13, 2, 0, 0, 0, 0), (473, .iinc 14 1, 3, 0, 0, 0, 0), (476, .goto (-32), 3, 0, 0, 0, 0), (479, .aload_n 3, 1, 0, 0, 0, 0), (480, .iload 11, 2, 0, 0, 0, 0), 
  (482, .invokevirtual 107, 3, 119, 2, 0, 195), (485, .iload 13, 2, 0, 0, 0, 0), (487, .if_icmp .eq 5, 3, 0, 0, 0, 0), (490, .iconst 0, 1, 0, 0, 0, 0), (491, .ireturn, 1, 0, 0, 1, 0), 
  (492, .iconst 0, 1, 0, 0, 0, 0), (493, .istore 14, 2, 0, 0, 0, 0), (495, .iload 14, 2, 0, 0, 0, 0), (497, .aload_n 3, 1, 0, 0, 0, 0), (498, .iload 11, 2, 0, 0, 0, 0), 
  (500, .invokevirtual 101, 3, 113, 2, 0, 183), (503, .if_icmp .ge 29, 3, 0, 0, 0, 0), (506, .aload_n 3, 1, 0, 0, 0, 0), (507, .aload_n 3, 1, 0, 0, 0, 0), 
  (508, .iload 11, 2, 0, 0, 0, 0), (510, .iload 14, 2, 0, 0, 0, 0), (512, .invokevirtual 110, 3, 114, 3, 0, 187), (515, .iload 11, 2, 0, 0, 0, 0), 
  (517, .invokevirtual 104, 3, 120, 3, 0, 199), (520, .iconst 1, 1, 0, 0, 0, 0), (521, .if_icmp .eq 5, 3, 0, 0, 0, 0), (524, .iconst 0, 1, 0, 0, 0, 0), (525, .ireturn, 1, 0, 0, 1, 0), 
  (526, .iinc 14 1, 3, 0, 0, 0, 0), (529, .goto (-34), 3, 0, 0, 0, 0), (532, .aload_n 3, 1, 0, 0, 0, 0), (533, .iload 11, 2, 0, 0, 0, 0), (535, .aload_n 3, 1, 0, 0, 0, 0), 
  (536, .iload 11, 2, 0, 0, 0, 0), (538, .invokevirtual 101, 3, 113, 2, 0, 183), (541, .invokevirtual 110, 3, 114, 3, 0, 187), (544, .iconst (-1), 1, 0, 0, 0, 0), 
  (545, .if_icmp .eq 5, 3, 0, 0, 0, 0), (548, .iconst 0, 1, 0, 0, 0, 0), (549, .ireturn, 1, 0, 0, 1, 0), (550, .iinc 11 1, 3, 0, 0, 0, 0), (553, .goto (-164), 3, 0, 0, 0, 0), 
  (556, .iload 10, 2, 0, 0, 0, 0), (558, .aload_n 2, 1, 0, 0, 0, 0), (559, .getfield 113, 3, 10, 3, 20, 1168), (562, .if_icmp .le 5, 3, 0, 0, 0, 0), (565, .iconst 0, 1, 0, 0, 0, 0), 
  (566, .ireturn, 1, 0, 0, 1, 0), (567, .iconst 0, 1, 0, 0, 0, 0), (568, .istore 11, 2, 0, 0, 0, 0), (570, .iload 11, 2, 0, 0, 0, 0), (572, .iload 4, 2, 0, 0, 0, 0), 
  (574, .if_icmp .ge 182, 3, 0, 0, 0, 0), (577, .iconst 0, 1, 0, 0, 0, 0), (578, .istore 12, 2, 0, 0, 0, 0), (580, .iconst 0, 1, 0, 0, 0, 0), (581, .istore 13, 2, 0, 0, 0, 0), 
  (583, .iload 13, 2, 0, 0, 0, 0), (585, .aload_n 2, 1, 0, 0, 0, 0), (586, .getfield 73, 3, 10, 1, 20, 1164), (589, .if_icmp .ge 58, 3, 0, 0, 0, 0), (592, .aload_n 3, 1, 0, 0, 0, 0), 
  (593, .iload 11, 2, 0, 0, 0, 0), (595, .iload 13, 2, 0, 0, 0, 0), (597, .invokevirtual 104, 3, 120, 3, 0, 199), (600, .istore 14, 2, 0, 0, 0, 0), (602, .iload 12, 2, 0, 0, 0, 0), 
  (604, .iload 14, 2, 0, 0, 0, 0), (606, .ifCond .le 7, 3, 0, 0, 0, 0), (609, .iconst 1, 1, 0, 0, 0, 0), (610, .goto 4, 3, 0, 0, 0, 0), (613, .iconst 0, 1, 0, 0, 0, 0), 
  (614, .iadd, 1, 0, 0, 0, 0), (615, .istore 12, 2, 0, 0, 0, 0), (617, .aload 7, 2, 0, 0, 0, 0), (619, .iload 11, 2, 0, 0, 0, 0), (621, .aaload, 1, 0, 0, 0, 0), 
  (622, .iload 13, 2, 0, 0, 0, 0), (624, .iaload, 1, 0, 0, 0, 0), (625, .iload 14, 2, 0, 0, 0, 0), (627, .iconst 3, 1, 0, 0, 0, 0), (628, .if_icmp .ne 7, 3, 0, 0, 0, 0), 
  (631, .iconst 1, 1, 0, 0, 0, 0), (632, .goto 4, 3, 0, 0, 0, 0), (635, .iconst 0, 1, 0, 0, 0, 0), (636, .if_icmp .eq 5, 3, 0, 0, 0, 0), (639, .iconst 0, 1, 0, 0, 0, 0), 
  (640, .ireturn, 1, 0, 0, 1, 0), (641, .iinc 13 1, 3, 0, 0, 0, 0), (644, .goto (-61), 3, 0, 0, 0, 0), (647, .aload 6, 2, 0, 0, 0, 0), (649, .iload 11, 2, 0, 0, 0, 0), 
  (651, .iaload, 1, 0, 0, 0, 0), (652, .iload 12, 2, 0, 0, 0, 0), (654, .ifCond .le 7, 3, 0, 0, 0, 0), (657, .iconst 1, 1, 0, 0, 0, 0), (658, .goto 4, 3, 0, 0, 0, 0), 
  (661, .iconst 0, 1, 0, 0, 0, 0), (662, .iadd, 1, 0, 0, 0, 0), (663, .iconst 1, 1, 0, 0, 0, 0), (664, .if_icmp .ne 18, 3, 0, 0, 0, 0), (667, .aload_n 3, 1, 0, 0, 0, 0), 
  (668, .aload_n 3, 1, 0, 0, 0, 0), (669, .iload 11, 2, 0, 0, 0, 0), (671, .invokevirtual 82, 3, 111, 2, 0, 167), (674, .invokevirtual 116, 3, 110, 2, 0, 143), 
  (677, .iload 11, 2, 0, 0, 0, 0), (679, .if_icmp .eq 5, 3, 0, 0, 0, 0), (682, .iconst 0, 1, 0, 0, 0, 0), (683, .ireturn, 1, 0, 0, 1, 0), (684, .iconst 0, 1, 0, 0, 0, 0), 
  (685, .istore 13, 2, 0, 0, 0, 0), (687, .iconst 0, 1, 0, 0, 0, 0), (688, .istore 14, 2, 0, 0, 0, 0), (690, .iload 14, 2, 0, 0, 0, 0), (692, .iload 5, 2, 0, 0, 0, 0), 
  (694, .if_icmp .ge 43, 3, 0, 0, 0, 0), (697, .iload 13, 2, 0, 0, 0, 0), (699, .aload_n 3, 1, 0, 0, 0, 0), (700, .iload 14, 2, 0, 0, 0, 0), (702, .iconst 3, 1, 0, 0, 0, 0), 
  (703, .invokevirtual 78, 3, 121, 3, 0, 207), (706, .bipush 8, 2, 0, 0, 0, 0), (708, .if_icmp .ne 19, 3, 0, 0, 0, 0), (711, .aload_n 3, 1, 0, 0, 0, 0), 
  (712, .iload 14, 2, 0, 0, 0, 0), (714, .iconst 4, 1, 0, 0, 0, 0), (715, .invokevirtual 78, 3, 121, 3, 0, 207), (718, .iload 11, 2, 0, 0, 0, 0), (720, .if_icmp .ne 7, 3, 0, 0, 0, 0), 
  (723, .iconst 1, 1, 0, 0, 0, 0), (724, .goto 4, 3, 0, 0, 0, 0), (727, .iconst 0, 1, 0, 0, 0, 0), (728, .iadd, 1, 0, 0, 0, 0), (729, .istore 13, 2, 0, 0, 0, 0), 
  (731, .iinc 14 1, 3, 0, 0, 0, 0), (734, .goto (-44), 3, 0, 0, 0, 0), (737, .aload_n 3, 1, 0, 0, 0, 0), (738, .iload 11, 2, 0, 0, 0, 0), (740, .invokevirtual 119, 3, 125, 2, 0, 251), 
  (743, .iload 13, 2, 0, 0, 0, 0), (745, .if_icmp .eq 5, 3, 0, 0, 0, 0), (748, .iconst 0, 1, 0, 0, 0, 0), (749, .ireturn, 1, 0, 0, 1, 0), (750, .iinc 11 1, 3, 0, 0, 0, 0), 
  (753, .goto (-183), 3, 0, 0, 0, 0), (756, .iconst 1, 1, 0, 0, 0, 0), (757, .ireturn, 1, 0, 0, 1, 0)]
noncomputable def cdt_a : List (List (Nat × Ent)) := [cd_0, cd_1, cd_2, cd_3, cd_4, cd_5, cd_6, cd_7, cd_8, cd_9, cd_10, cd_11, cd_12, cd_13, cd_14, cd_15, cd_16, cd_17, cd_18, cd_19, cd_20, cd_21, cd_22, cd_23, cd_24, cd_25, cd_26, [], [], [], cd_30, cd_31, cd_32, cd_33, cd_34, cd_35, cd_36, cd_37, cd_38, cd_39, cd_40, cd_41, cd_42, cd_43, cd_44, cd_45, cd_46, cd_47, cd_48, cd_49, [], cd_51, cd_52, cd_53, cd_54, cd_55, cd_56, cd_57, cd_58, cd_59, cd_60, cd_61, cd_62, cd_63, cd_64, cd_65, cd_66, cd_67, cd_68, cd_69, cd_70, cd_71, cd_72, cd_73, cd_74, cd_75, cd_76, cd_77, cd_78, cd_79, cd_80, cd_81, cd_82, cd_83, cd_84, cd_85, cd_86, cd_87, cd_88, cd_89, cd_90, cd_91, cd_92, [], [], [], [], [], cd_98, cd_99, cd_100, cd_101, cd_102, cd_103, cd_104, cd_105, cd_106, cd_107, [], [], cd_110, cd_111, cd_112, cd_113, cd_114, cd_115, [], [], [], cd_119, cd_120, cd_121, cd_122, cd_123, [], cd_125, [], [], [], [], [], [], [], [], [], [], [], [], [], [], [], [], [], [], cd_144, [], [], cd_147, [], cd_149, [], cd_151, cd_152, cd_153, cd_154, cd_155, cd_156, cd_157, cd_158, [], [], [], [], [], [], [], cd_166, cd_167, [], [], [], cd_171, cd_172, cd_173, cd_174, cd_175, cd_176, cd_177, cd_178, cd_179, cd_180, cd_181, cd_182, cd_183, cd_184, cd_185, cd_186, cd_187, cd_188, [], cd_190, cd_191, cd_192, cd_193, cd_194, cd_195, cd_196, cd_197, cd_198, cd_199, cd_200, cd_201, cd_202, cd_203, cd_204, cd_205, cd_206, cd_207, cd_208, cd_209, cd_210, cd_211, cd_212, [], [], [], [], [], [], [], [], [], [], [], [], [], [], [], [], [], [], [], [], [], [], [], [], [], [], [], [], [], [], [], [], [], [], [], [], [], [], [], [], [], [], [], [], [], [], [], [], [], [], [], [], [], [], [], [], [], [], [], [], [], [], [], [], [], [], [], [], [], [], [], [], [], [], [], [], [], [], [], [], [], [], [], [], cd_297, [], cd_299, cd_300, cd_301, cd_302, cd_303, cd_304, cd_305, cd_306, [], [], [], [], [], [], [], [], [], [], [], [], [], [], [], [], [], [], [], [], [], [], [], [], [], [], [], [], [], [], [], [], [], [], [], [], [], cd_344]
def rkt : List Nat := [0, 0, 1, 0, 0, 0, 0, 0, 0, 0, 0, 0, 0, 0, 4, 1, 1, 0, 1, 1, 1, 0, 0, 0, 0, 1, 1, 0, 0, 0, 3, 32, 0, 0, 4, 0, 1, 1, 1, 5, 2, 2, 31, 6, 6, 6, 5, 6, 1, 2, 0, 4, 3, 2, 0, 1, 2, 1, 1, 1, 1, 3, 2, 2, 2, 2, 1, 0, 0, 0, 0, 0, 4, 3, 2, 0, 1, 0, 1, 0, 0, 0, 0, 0, 0, 0, 0, 0, 0, 0, 0, 0, 1, 0, 0, 0, 0, 0, 4, 1, 0, 33, 0, 0, 0, 6, 6, 6, 0, 0, 1, 1, 1, 1, 1, 1, 0, 0, 0, 1, 1, 1, 1, 2, 0, 2, 0, 0, 0, 0, 0, 0, 0, 0, 0, 0, 0, 0, 0, 0, 0, 0, 0, 0, 5, 0, 0, 0, 0, 0, 0, 0, 0, 0, 0, 0, 0, 3, 5, 0, 0, 0, 0, 0, 0, 0, 0, 35, 0, 0, 0, 7, 0, 0, 0, 0, 3, 2, 1, 5, 4, 4, 4, 0, 0, 2, 3, 0, 0, 0, 4, 1, 3, 1, 1, 1, 6, 5, 5, 5, 1, 0, 0, 0, 0, 2, 1, 1, 0, 0, 0, 0, 34, 0, 0, 0, 0, 0, 0, 0, 0, 0, 0, 0, 0, 0, 0, 0, 0, 0, 0, 0, 0, 0, 0, 0, 0, 0, 0, 0, 0, 0, 0, 0, 0, 0, 0, 0, 0, 0, 0, 0, 0, 0, 0, 0, 0, 0, 0, 0, 0, 0, 0, 0, 0, 0, 0, 0, 0, 0, 0, 0, 0, 0, 0, 0, 0, 0, 0, 0, 0, 0, 0, 0, 0, 0, 0, 0, 0, 0, 0, 0, 0, 0, 0, 0, 0, 0, 0, 1, 3, 0, 0, 1, 2, 0, 0, 0, 0, 0, 0, 0, 0, 0, 0, 0, 0, 0, 0, 0, 0, 0, 0, 0, 0, 0, 0, 0, 0, 0, 0, 0, 0, 0, 0, 0, 0, 0, 0, 0, 0, 0, 0, 0, 36]
def rec_ids : List (Nat × Nat) := [(43, 3), (44, 2), (45, 1), (47, 0)]
def stt : List (String × Nat × String) := [("DropSwitch$Reader", 50, "port"), ("DropSwitch$Reader", 60, "police"), ("DropSwitch$Reader", 65, "pass"), ("DropSwitch$Reader", 67, "drop"), ("DropSwitch$Reader", 155, "if"), ("DropSwitch$Reader", 178, "not"), ("DropSwitch$Reader", 189, "any"), ("DropSwitch$Reader", 191, "at"), ("DropSwitch$Reader", 192, "from"), ("DropSwitch$Reader", 194, "to"), ("DropSwitch$Reader", 196, "size"), ("DropSwitch$Reader", 198, "class"), ("DropSwitch$Reader", 176, "and"), ("DropSwitch$Reader", 167, "or"), ("DropSwitch$Reader", 112, "buffer"), ("DropSwitch$Reader", 126, "age"), ("DropSwitch$Reader", 130, "wait"), ("DropSwitch", 366, "down"), ("DropSwitch", 368, "rule"), ("DropSwitch", 370, "policed"), ("DropSwitch", 372, "back"), ("DropSwitch", 374, "nowhere"), ("DropSwitch", 376, "buffer"), ("DropSwitch", 378, "full"), ("DropSwitch", 380, "pushed"), ("DropSwitch", 382, "stale"), ("DropSwitch", 384, "lost"), ("DropSwitchLaw$Made", 33, "port p"), ("DropSwitchLaw$Made", 39, "abcd"), ("DropSwitchLaw$Made", 50, " "), ("DropSwitchLaw$Made", 55, ";"), ("DropSwitchLaw$Made", 60, "buffer "), ("DropSwitchLaw$Made", 62, ";wait "), ("DropSwitchLaw$Made", 64, ";age "), ("DropSwitchLaw$Made", 66, "police pa "), ("DropSwitchLaw$Made", 71, "pass"), ("DropSwitchLaw$Made", 73, "drop"), ("DropSwitchLaw$Made", 75, " if "), ("DropSwitchLaw$Made", 77, "not "), ("DropSwitchLaw$Made", 79, ""), ("DropSwitchLaw$Made", 81, "size > "), ("DropSwitchLaw$Made", 87, "(from = "), ("DropSwitchLaw$Made", 89, " and to < "), ("DropSwitchLaw$Made", 91, ")"), ("DropSwitchLaw$Made", 93, " or at pb and class = 0"), ("DropSwitch$Reader", 50, "port"), ("DropSwitch$Reader", 50, "port"), ("DropSwitch$Reader", 50, "port"), ("DropSwitch$Reader", 50, "port"), ("DropSwitch$Reader", 50, "port"), ("DropSwitch$Reader", 50, "port"), ("DropSwitch$Reader", 50, "port"), ("DropSwitch$Reader", 50, "port")]
/-- the strings' letters; behind them (53, 54) Integer's rows of ones and of tens -/
def stb : List (List Int) := [[112, 111, 114, 116], [112, 111, 108, 105, 99, 101], [112, 97, 115, 115], [100, 114, 111, 112], [105, 102], [110, 111, 116], [97, 110, 121], [97, 116], [102, 114, 111, 109], [116, 111], [115, 105, 122, 101], [99, 108, 97, 115, 115], [97, 110, 100], [111, 114], [98, 117, 102, 102, 101, 114], [97, 103, 101], [119, 97, 105, 116], [100, 111, 119, 110], [114, 117, 108, 101], [112, 111, 108, 105, 99, 101, 100], [98, 97, 99, 107], [110, 111, 119, 104, 101, 114, 101], [98, 117, 102, 102, 101, 114], [102, 117, 108, 108], [112, 117, 115, 104, 101, 100], [115, 116, 97, 108, 101], [108, 111, 115, 116], [112, 111, 114, 116, 32, 112], [97, 98, 99, 100], [32], [59], [98, 117, 102, 102, 101, 114, 32], [59, 119, 97, 105, 116, 32], [59, 97, 103, 101, 32], [112, 111, 108, 105, 99, 101, 32, 112, 97, 32], [112, 97, 115, 115], [100, 114, 111, 112], [32, 105, 102, 32], [110, 111, 116, 32], [], [115, 105, 122, 101, 32, 62, 32], [40, 102, 114, 111, 109, 32, 61, 32], [32, 97, 110, 100, 32, 116, 111, 32, 60, 32], [41], [32, 111, 114, 32, 97, 116, 32, 112, 98, 32, 97, 110, 100, 32, 99, 108, 97, 115, 115, 32, 61, 32, 48], [112, 111, 114, 116], [112, 111, 114, 116], [112, 111, 114, 116], [112, 111, 114, 116], [112, 111, 114, 116], [112, 111, 114, 116], [112, 111, 114, 116], [112, 111, 114, 116], [48, 49, 50, 51, 52, 53, 54, 55, 56, 57, 48, 49, 50, 51, 52, 53, 54, 55, 56, 57, 48, 49, 50, 51, 52, 53, 54, 55, 56, 57, 48, 49, 50, 51, 52, 53, 54, 55, 56, 57, 48, 49, 50, 51, 52, 53, 54, 55, 56, 57, 48, 49, 50, 51, 52, 53, 54, 55, 56, 57, 48, 49, 50, 51, 52, 53, 54, 55, 56, 57, 48, 49, 50, 51, 52, 53, 54, 55, 56, 57, 48, 49, 50, 51, 52, 53, 54, 55, 56, 57, 48, 49, 50, 51, 52, 53, 54, 55, 56, 57], [48, 48, 48, 48, 48, 48, 48, 48, 48, 48, 49, 49, 49, 49, 49, 49, 49, 49, 49, 49, 50, 50, 50, 50, 50, 50, 50, 50, 50, 50, 51, 51, 51, 51, 51, 51, 51, 51, 51, 51, 52, 52, 52, 52, 52, 52, 52, 52, 52, 52, 53, 53, 53, 53, 53, 53, 53, 53, 53, 53, 54, 54, 54, 54, 54, 54, 54, 54, 54, 54, 55, 55, 55, 55, 55, 55, 55, 55, 55, 55, 56, 56, 56, 56, 56, 56, 56, 56, 56, 56, 57, 57, 57, 57, 57, 57, 57, 57, 57, 57]]
def exc : List String := ["java/lang/IndexOutOfBoundsException", "java/lang/IllegalArgumentException", "java/lang/IllegalStateException", "java/util/NoSuchElementException"]
