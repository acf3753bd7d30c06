def RX0 : String := "RatchetPost$Envelope"
def TX0 : u_T := fun k => match k with
  | 0 => ("RatchetPost$Envelope", "bytes", "[I", false)
  | 1 => ("RatchetPost$Envelope", "at", "I", false)
  | 2 => ("RatchetPost$Envelope", "begins", "Z", false)
  | 3 => ("RatchetPost$Envelope", "from", "I", false)
  | 4 => ("RatchetPost$Envelope", "to", "I", false)
  | 5 => ("RatchetPost$Envelope", "identity", "J", false)
  | 6 => ("RatchetPost$Envelope", "beginningOpen", "J", false)
  | 7 => ("RatchetPost$Envelope", "lentNumber", "I", false)
  | 8 => ("RatchetPost$Envelope", "onceNumber", "I", false)
  | 9 => ("RatchetPost$Envelope", "open", "J", false)
  | 10 => ("RatchetPost$Envelope", "pn", "I", false)
  | 11 => ("RatchetPost$Envelope", "place", "I", false)
  | 12 => ("RatchetPost$Envelope", "textLength", "I", false)
  | 13 => ("RatchetPost$Envelope", "textAt", "I", false)
  | 14 => ("RatchetPost$Envelope", "sum", "J", false)
  | _ => ("RatchetPost$Envelope", "tag", "J", false)
def tyX0 : Nat → FieldType := fun k => match k with
  | 0 => .array .int
  | 1 => .int
  | 2 => .boolean
  | 3 => .int
  | 4 => .int
  | 5 => .long
  | 6 => .long
  | 7 => .int
  | 8 => .int
  | 9 => .long
  | 10 => .int
  | 11 => .int
  | 12 => .int
  | 13 => .int
  | 14 => .long
  | _ => .long
theorem nmX0 : ∀ a, a < 16 → ∀ b, b < 16 → a ≠ b → (TX0 a).2.1 ≠ (TX0 b).2.1 := by decide +kernel
theorem tyX0_ok : ∀ k, k < 16 → parseFieldDescriptor (TX0 k).2.2.1 = some (tyX0 k) := by decide +kernel
abbrev cX0_init : ByteArray := prog_2_method_1_code
def yX0_init : MethodName := ⟨RX0, "<init>", "()V"⟩
abbrev cX0_takeApart : ByteArray := prog_2_method_2_code
def yX0_takeApart : MethodName := ⟨RX0, "takeApart", "([I)Z"⟩
abbrev cX0_take : ByteArray := prog_2_method_3_code
def yX0_take : MethodName := ⟨RX0, "take", "(I)J"⟩
abbrev cX0_textByte : ByteArray := prog_2_method_4_code
def yX0_textByte : MethodName := ⟨RX0, "textByte", "(I)I"⟩
abbrev cX0_hasTagOf : ByteArray := prog_2_method_5_code
def yX0_hasTagOf : MethodName := ⟨RX0, "hasTagOf", "(J)Z"⟩
def RX1 : String := "RatchetPost$KeptKeys"
def TX1 : u_T := fun k => match k with
  | 0 => ("RatchetPost$KeptKeys", "opens", "[J", true)
  | 1 => ("RatchetPost$KeptKeys", "places", "[I", true)
  | 2 => ("RatchetPost$KeptKeys", "keys", "[J", true)
  | 3 => ("RatchetPost$KeptKeys", "turns", "[LRatchetPost$Turn;", true)
  | _ => ("RatchetPost$KeptKeys", "size", "I", false)
def tyX1 : Nat → FieldType := fun k => match k with
  | 0 => .array .long
  | 1 => .array .int
  | 2 => .array .long
  | 3 => .array (.object "RatchetPost$Turn")
  | _ => .int
theorem nmX1 : ∀ a, a < 5 → ∀ b, b < 5 → a ≠ b → (TX1 a).2.1 ≠ (TX1 b).2.1 := by decide +kernel
theorem tyX1_ok : ∀ k, k < 5 → parseFieldDescriptor (TX1 k).2.2.1 = some (tyX1 k) := by decide +kernel
abbrev cX1_init : ByteArray := prog_3_method_1_code
def yX1_init : MethodName := ⟨RX1, "<init>", "()V"⟩
abbrev cX1_find : ByteArray := prog_3_method_2_code
def yX1_find : MethodName := ⟨RX1, "find", "(JI)I"⟩
abbrev cX1_keyAt : ByteArray := prog_3_method_3_code
def yX1_keyAt : MethodName := ⟨RX1, "keyAt", "(I)J"⟩
abbrev cX1_keep : ByteArray := prog_3_method_4_code
def yX1_keep : MethodName := ⟨RX1, "keep", "(JIJLRatchetPost$Turn;)V"⟩
abbrev cX1_drop : ByteArray := prog_3_method_5_code
def yX1_drop : MethodName := ⟨RX1, "drop", "(I)V"⟩
abbrev cX1_giveAway : ByteArray := prog_3_method_6_code
def yX1_giveAway : MethodName := ⟨RX1, "giveAway", "()V"⟩
def RX2 : String := "RatchetPost$Letter"
def TX2 : u_T := fun k => match k with
  | 0 => ("RatchetPost$Letter", "bytes", "[I", true)
  | 1 => ("RatchetPost$Letter", "filled", "I", false)
  | 2 => ("RatchetPost$Letter", "turn", "LRatchetPost$Turn;", true)
  | _ => ("RatchetPost$Letter", "place", "I", true)
def tyX2 : Nat → FieldType := fun k => match k with
  | 0 => .array .int
  | 1 => .int
  | 2 => .object "RatchetPost$Turn"
  | _ => .int
theorem nmX2 : ∀ a, a < 4 → ∀ b, b < 4 → a ≠ b → (TX2 a).2.1 ≠ (TX2 b).2.1 := by decide +kernel
theorem tyX2_ok : ∀ k, k < 4 → parseFieldDescriptor (TX2 k).2.2.1 = some (tyX2 k) := by decide +kernel
abbrev cX2_init : ByteArray := prog_4_method_1_code
def yX2_init : MethodName := ⟨RX2, "<init>", "(ILRatchetPost$Turn;I)V"⟩
abbrev cX2_put : ByteArray := prog_4_method_2_code
def yX2_put : MethodName := ⟨RX2, "put", "(JI)V"⟩
abbrev cX2_twin : ByteArray := prog_4_method_3_code
def yX2_twin : MethodName := ⟨RX2, "twin", "()LRatchetPost$Letter;"⟩
def RX3 : String := "RatchetPost$Numbers"
def TX3 : u_T := fun k => match k with
  | _ => ("", "", "", false)
def tyX3 : Nat → FieldType := fun k => match k with
  | _ => .int
theorem nmX3 : ∀ a, a < 0 → ∀ b, b < 0 → a ≠ b → (TX3 a).2.1 ≠ (TX3 b).2.1 := by decide +kernel
theorem tyX3_ok : ∀ k, k < 0 → parseFieldDescriptor (TX3 k).2.2.1 = some (tyX3 k) := by decide +kernel
abbrev cX3_isOpen : ByteArray := prog_5_method_2_code
def yX3_isOpen : MethodName := ⟨RX3, "isOpen", "(J)Z"⟩
abbrev cX3_times : ByteArray := prog_5_method_3_code
def yX3_times : MethodName := ⟨RX3, "times", "(JJ)J"⟩
abbrev cX3_power : ByteArray := prog_5_method_4_code
def yX3_power : MethodName := ⟨RX3, "power", "(JJ)J"⟩
abbrev cX3_rest : ByteArray := prog_5_method_5_code
def yX3_rest : MethodName := ⟨RX3, "rest", "(JJ)J"⟩
abbrev cX3_secretOf : ByteArray := prog_5_method_6_code
def yX3_secretOf : MethodName := ⟨RX3, "secretOf", "(J)J"⟩
abbrev cX3_timesModuloQ : ByteArray := prog_5_method_7_code
def yX3_timesModuloQ : MethodName := ⟨RX3, "timesModuloQ", "(JJ)J"⟩
abbrev cX3_sealSum : ByteArray := prog_5_method_8_code
def yX3_sealSum : MethodName := ⟨RX3, "sealSum", "(JJ)J"⟩
abbrev cX3_sealProof : ByteArray := prog_5_method_9_code
def yX3_sealProof : MethodName := ⟨RX3, "sealProof", "(LRatchetPost$Secret;JJ)J"⟩
abbrev cX3_sealIsRight : ByteArray := prog_5_method_10_code
def yX3_sealIsRight : MethodName := ⟨RX3, "sealIsRight", "(JJJJ)Z"⟩
abbrev cX3_mix : ByteArray := prog_5_method_11_code
def yX3_mix : MethodName := ⟨RX3, "mix", "(JJ)J"⟩
abbrev cX3_sum : ByteArray := prog_5_method_12_code
def yX3_sum : MethodName := ⟨RX3, "sum", "(JJJJ)J"⟩
abbrev cX3_sumOfBytes : ByteArray := prog_5_method_13_code
def yX3_sumOfBytes : MethodName := ⟨RX3, "sumOfBytes", "([II)J"⟩
abbrev cX3_key : ByteArray := prog_5_method_14_code
def yX3_key : MethodName := ⟨RX3, "key", "(IJJ)J"⟩
abbrev cX3_letterKey : ByteArray := prog_5_method_15_code
def yX3_letterKey : MethodName := ⟨RX3, "letterKey", "(J)J"⟩
abbrev cX3_nextOf : ByteArray := prog_5_method_16_code
def yX3_nextOf : MethodName := ⟨RX3, "nextOf", "(J)J"⟩
abbrev cX3_veil : ByteArray := prog_5_method_17_code
def yX3_veil : MethodName := ⟨RX3, "veil", "(JI)I"⟩
def RX4 : String := "RatchetPost$Opening"
def TX4 : u_T := fun k => match k with
  | 0 => ("RatchetPost$Opening", "keys", "[J", true)
  | 1 => ("RatchetPost$Opening", "keptAt", "I", false)
  | 2 => ("RatchetPost$Opening", "turns", "Z", false)
  | 3 => ("RatchetPost$Opening", "oldCount", "I", false)
  | 4 => ("RatchetPost$Opening", "newCount", "I", false)
  | 5 => ("RatchetPost$Opening", "root", "J", false)
  | 6 => ("RatchetPost$Opening", "chain", "J", false)
  | _ => ("RatchetPost$Opening", "key", "J", false)
def tyX4 : Nat → FieldType := fun k => match k with
  | 0 => .array .long
  | 1 => .int
  | 2 => .boolean
  | 3 => .int
  | 4 => .int
  | 5 => .long
  | 6 => .long
  | _ => .long
theorem nmX4 : ∀ a, a < 8 → ∀ b, b < 8 → a ≠ b → (TX4 a).2.1 ≠ (TX4 b).2.1 := by decide +kernel
theorem tyX4_ok : ∀ k, k < 8 → parseFieldDescriptor (TX4 k).2.2.1 = some (tyX4 k) := by decide +kernel
abbrev cX4_init : ByteArray := prog_6_method_1_code
def yX4_init : MethodName := ⟨RX4, "<init>", "()V"⟩
abbrev cX4_plan : ByteArray := prog_6_method_2_code
def yX4_plan : MethodName := ⟨RX4, "plan", "(LRatchetPost$Session;LRatchetPost$Envelope;)I"⟩
abbrev cX4_countSteps : ByteArray := prog_6_method_3_code
def yX4_countSteps : MethodName := ⟨RX4, "countSteps", "(LRatchetPost$Session;LRatchetPost$Envelope;)I"⟩
abbrev cX4_step : ByteArray := prog_6_method_4_code
def yX4_step : MethodName := ⟨RX4, "step", "(II)V"⟩
abbrev cX4_carryOut : ByteArray := prog_6_method_5_code
def yX4_carryOut : MethodName := ⟨RX4, "carryOut", "(LRatchetPost$Session;LRatchetPost$Envelope;LRatchetPost$Person;LRatchetPost$Secret;)V"⟩
abbrev cX4_keep : ByteArray := prog_6_method_6_code
def yX4_keep : MethodName := ⟨RX4, "keep", "(LRatchetPost$Session;II)V"⟩
def RX5 : String := "RatchetPost$Person"
def TX5 : u_T := fun k => match k with
  | 0 => ("RatchetPost$Person", "seed", "J", true)
  | 1 => ("RatchetPost$Person", "drawn", "I", false)
  | 2 => ("RatchetPost$Person", "drawnLast", "LRatchetPost$Secret;", false)
  | 3 => ("RatchetPost$Person", "identity", "LRatchetPost$Secret;", false)
  | 4 => ("RatchetPost$Person", "lentNumber", "I", false)
  | 5 => ("RatchetPost$Person", "lentOpen", "J", false)
  | 6 => ("RatchetPost$Person", "sealOpen", "J", false)
  | 7 => ("RatchetPost$Person", "sealProof", "J", false)
  | 8 => ("RatchetPost$Person", "lentKeys", "[LRatchetPost$Secret;", true)
  | 9 => ("RatchetPost$Person", "onceKeys", "[LRatchetPost$Secret;", true)
  | 10 => ("RatchetPost$Person", "onceUsed", "[Z", true)
  | 11 => ("RatchetPost$Person", "onceMade", "I", false)
  | 12 => ("RatchetPost$Person", "onceTaken", "I", false)
  | 13 => ("RatchetPost$Person", "rows", "[LRatchetPost$Row;", true)
  | 14 => ("RatchetPost$Person", "seenOpens", "[J", true)
  | 15 => ("RatchetPost$Person", "seenLents", "[I", true)
  | _ => ("RatchetPost$Person", "seenCount", "I", false)
def tyX5 : Nat → FieldType := fun k => match k with
  | 0 => .long
  | 1 => .int
  | 2 => .object "RatchetPost$Secret"
  | 3 => .object "RatchetPost$Secret"
  | 4 => .int
  | 5 => .long
  | 6 => .long
  | 7 => .long
  | 8 => .array (.object "RatchetPost$Secret")
  | 9 => .array (.object "RatchetPost$Secret")
  | 10 => .array .boolean
  | 11 => .int
  | 12 => .int
  | 13 => .array (.object "RatchetPost$Row")
  | 14 => .array .long
  | 15 => .array .int
  | _ => .int
theorem nmX5 : ∀ a, a < 17 → ∀ b, b < 17 → a ≠ b → (TX5 a).2.1 ≠ (TX5 b).2.1 := by decide +kernel
theorem tyX5_ok : ∀ k, k < 17 → parseFieldDescriptor (TX5 k).2.2.1 = some (tyX5 k) := by decide +kernel
abbrev cX5_init : ByteArray := prog_7_method_1_code
def yX5_init : MethodName := ⟨RX5, "<init>", "(JI)V"⟩
abbrev cX5_isRegistered : ByteArray := prog_7_method_2_code
def yX5_isRegistered : MethodName := ⟨RX5, "isRegistered", "()Z"⟩
abbrev cX5_drawSecret : ByteArray := prog_7_method_3_code
def yX5_drawSecret : MethodName := ⟨RX5, "drawSecret", "()LRatchetPost$Secret;"⟩
abbrev cX5_drawnWith : ByteArray := prog_7_method_4_code
def yX5_drawnWith : MethodName := ⟨RX5, "drawnWith", "(J)LRatchetPost$Secret;"⟩
abbrev cX5_enrol : ByteArray := prog_7_method_5_code
def yX5_enrol : MethodName := ⟨RX5, "enrol", "()V"⟩
abbrev cX5_makeLentKey : ByteArray := prog_7_method_6_code
def yX5_makeLentKey : MethodName := ⟨RX5, "makeLentKey", "()V"⟩
abbrev cX5_sealIsRight : ByteArray := prog_7_method_7_code
def yX5_sealIsRight : MethodName := ⟨RX5, "sealIsRight", "()Z"⟩
abbrev cX5_lentKey : ByteArray := prog_7_method_8_code
def yX5_lentKey : MethodName := ⟨RX5, "lentKey", "(I)LRatchetPost$Secret;"⟩
abbrev cX5_keptLentKey : ByteArray := prog_7_method_9_code
def yX5_keptLentKey : MethodName := ⟨RX5, "keptLentKey", "(I)LRatchetPost$Secret;"⟩
abbrev cX5_makeOnceKey : ByteArray := prog_7_method_10_code
def yX5_makeOnceKey : MethodName := ⟨RX5, "makeOnceKey", "()V"⟩
abbrev cX5_onceThere : ByteArray := prog_7_method_11_code
def yX5_onceThere : MethodName := ⟨RX5, "onceThere", "()I"⟩
abbrev cX5_leastOnce : ByteArray := prog_7_method_12_code
def yX5_leastOnce : MethodName := ⟨RX5, "leastOnce", "()I"⟩
abbrev cX5_takeOnce : ByteArray := prog_7_method_13_code
def yX5_takeOnce : MethodName := ⟨RX5, "takeOnce", "()I"⟩
abbrev cX5_onceKey : ByteArray := prog_7_method_14_code
def yX5_onceKey : MethodName := ⟨RX5, "onceKey", "(I)LRatchetPost$Secret;"⟩
abbrev cX5_keptOnceKey : ByteArray := prog_7_method_15_code
def yX5_keptOnceKey : MethodName := ⟨RX5, "keptOnceKey", "(I)LRatchetPost$Secret;"⟩
abbrev cX5_useOnce : ByteArray := prog_7_method_16_code
def yX5_useOnce : MethodName := ⟨RX5, "useOnce", "(I)V"⟩
abbrev cX5_onceSecretsKept : ByteArray := prog_7_method_17_code
def yX5_onceSecretsKept : MethodName := ⟨RX5, "onceSecretsKept", "()I"⟩
abbrev cX5_sessionsInAll : ByteArray := prog_7_method_18_code
def yX5_sessionsInAll : MethodName := ⟨RX5, "sessionsInAll", "()I"⟩
abbrev cX5_hasSeen : ByteArray := prog_7_method_19_code
def yX5_hasSeen : MethodName := ⟨RX5, "hasSeen", "(JI)Z"⟩
abbrev cX5_remember : ByteArray := prog_7_method_20_code
def yX5_remember : MethodName := ⟨RX5, "remember", "(JI)V"⟩
abbrev cX5_giveAway : ByteArray := prog_7_method_21_code
def yX5_giveAway : MethodName := ⟨RX5, "giveAway", "()V"⟩
def RX6 : String := "RatchetPost$Row"
def TX6 : u_T := fun k => match k with
  | 0 => ("RatchetPost$Row", "sessions", "[LRatchetPost$Session;", true)
  | _ => ("RatchetPost$Row", "size", "I", false)
def tyX6 : Nat → FieldType := fun k => match k with
  | 0 => .array (.object "RatchetPost$Session")
  | _ => .int
theorem nmX6 : ∀ a, a < 2 → ∀ b, b < 2 → a ≠ b → (TX6 a).2.1 ≠ (TX6 b).2.1 := by decide +kernel
theorem tyX6_ok : ∀ k, k < 2 → parseFieldDescriptor (TX6 k).2.2.1 = some (tyX6 k) := by decide +kernel
abbrev cX6_init : ByteArray := prog_8_method_1_code
def yX6_init : MethodName := ⟨RX6, "<init>", "()V"⟩
abbrev cX6_at : ByteArray := prog_8_method_2_code
def yX6_at : MethodName := ⟨RX6, "at", "(I)LRatchetPost$Session;"⟩
abbrev cX6_putFirst : ByteArray := prog_8_method_3_code
def yX6_putFirst : MethodName := ⟨RX6, "putFirst", "(LRatchetPost$Session;)V"⟩
abbrev cX6_bringFirst : ByteArray := prog_8_method_4_code
def yX6_bringFirst : MethodName := ⟨RX6, "bringFirst", "(I)V"⟩
abbrev cX6_shiftInto : ByteArray := prog_8_method_5_code
def yX6_shiftInto : MethodName := ⟨RX6, "shiftInto", "(I)V"⟩
abbrev cX6_retireAll : ByteArray := prog_8_method_6_code
def yX6_retireAll : MethodName := ⟨RX6, "retireAll", "()I"⟩
abbrev cX6_begunByOther : ByteArray := prog_8_method_7_code
def yX6_begunByOther : MethodName := ⟨RX6, "begunByOther", "(J)I"⟩
abbrev cX6_giveAway : ByteArray := prog_8_method_8_code
def yX6_giveAway : MethodName := ⟨RX6, "giveAway", "()V"⟩
def RX7 : String := "RatchetPost$Secret"
def TX7 : u_T := fun k => match k with
  | 0 => ("RatchetPost$Secret", "value", "J", true)
  | 1 => ("RatchetPost$Secret", "open", "J", true)
  | 2 => ("RatchetPost$Secret", "drawnBefore", "LRatchetPost$Secret;", true)
  | _ => ("RatchetPost$Secret", "got", "Z", false)
def tyX7 : Nat → FieldType := fun k => match k with
  | 0 => .long
  | 1 => .long
  | 2 => .object "RatchetPost$Secret"
  | _ => .boolean
theorem nmX7 : ∀ a, a < 4 → ∀ b, b < 4 → a ≠ b → (TX7 a).2.1 ≠ (TX7 b).2.1 := by decide +kernel
theorem tyX7_ok : ∀ k, k < 4 → parseFieldDescriptor (TX7 k).2.2.1 = some (tyX7 k) := by decide +kernel
abbrev cX7_init : ByteArray := prog_9_method_1_code
def yX7_init : MethodName := ⟨RX7, "<init>", "(JJLRatchetPost$Secret;)V"⟩
abbrev cX7_give : ByteArray := prog_9_method_2_code
def yX7_give : MethodName := ⟨RX7, "give", "(LRatchetPost$Secret;)V"⟩
abbrev cX7_isGot : ByteArray := prog_9_method_3_code
def yX7_isGot : MethodName := ⟨RX7, "isGot", "(LRatchetPost$Secret;)Z"⟩
def RX8 : String := "RatchetPost$Session"
def TX8 : u_T := fun k => match k with
  | 0 => ("RatchetPost$Session", "begunHere", "Z", true)
  | 1 => ("RatchetPost$Session", "firstRoot", "J", true)
  | 2 => ("RatchetPost$Session", "beginningOpen", "J", true)
  | 3 => ("RatchetPost$Session", "beginningLent", "I", false)
  | 4 => ("RatchetPost$Session", "beginningOnce", "I", false)
  | 5 => ("RatchetPost$Session", "beginningGoes", "Z", false)
  | 6 => ("RatchetPost$Session", "root", "J", false)
  | 7 => ("RatchetPost$Session", "rootTurn", "LRatchetPost$Turn;", false)
  | 8 => ("RatchetPost$Session", "sending", "J", false)
  | 9 => ("RatchetPost$Session", "sendingTurn", "LRatchetPost$Turn;", false)
  | 10 => ("RatchetPost$Session", "receiving", "J", false)
  | 11 => ("RatchetPost$Session", "receivingTurn", "LRatchetPost$Turn;", false)
  | 12 => ("RatchetPost$Session", "own", "LRatchetPost$Secret;", false)
  | 13 => ("RatchetPost$Session", "other", "J", false)
  | 14 => ("RatchetPost$Session", "otherSecret", "LRatchetPost$Secret;", false)
  | 15 => ("RatchetPost$Session", "hasOther", "Z", false)
  | 16 => ("RatchetPost$Session", "ns", "I", false)
  | 17 => ("RatchetPost$Session", "nr", "I", false)
  | 18 => ("RatchetPost$Session", "pn", "I", false)
  | _ => ("RatchetPost$Session", "kept", "LRatchetPost$KeptKeys;", true)
def tyX8 : Nat → FieldType := fun k => match k with
  | 0 => .boolean
  | 1 => .long
  | 2 => .long
  | 3 => .int
  | 4 => .int
  | 5 => .boolean
  | 6 => .long
  | 7 => .object "RatchetPost$Turn"
  | 8 => .long
  | 9 => .object "RatchetPost$Turn"
  | 10 => .long
  | 11 => .object "RatchetPost$Turn"
  | 12 => .object "RatchetPost$Secret"
  | 13 => .long
  | 14 => .object "RatchetPost$Secret"
  | 15 => .boolean
  | 16 => .int
  | 17 => .int
  | 18 => .int
  | _ => .object "RatchetPost$KeptKeys"
theorem nmX8 : ∀ a, a < 20 → ∀ b, b < 20 → a ≠ b → (TX8 a).2.1 ≠ (TX8 b).2.1 := by decide +kernel
theorem tyX8_ok : ∀ k, k < 20 → parseFieldDescriptor (TX8 k).2.2.1 = some (tyX8 k) := by decide +kernel
abbrev cX8_init : ByteArray := prog_10_method_1_code
def yX8_init : MethodName := ⟨RX8, "<init>", "(ZJJLRatchetPost$Secret;LRatchetPost$Turn;)V"⟩
abbrev cX8_meet : ByteArray := prog_10_method_2_code
def yX8_meet : MethodName := ⟨RX8, "meet", "(JLRatchetPost$Secret;)V"⟩
abbrev cX8_turnSending : ByteArray := prog_10_method_3_code
def yX8_turnSending : MethodName := ⟨RX8, "turnSending", "(LRatchetPost$Secret;)V"⟩
abbrev cX8_turnReceiving : ByteArray := prog_10_method_4_code
def yX8_turnReceiving : MethodName := ⟨RX8, "turnReceiving", "(JLRatchetPost$Secret;J)V"⟩
abbrev cX8_giveAway : ByteArray := prog_10_method_5_code
def yX8_giveAway : MethodName := ⟨RX8, "giveAway", "()V"⟩
def RX9 : String := "RatchetPost$Turn"
def TX9 : u_T := fun k => match k with
  | 0 => ("RatchetPost$Turn", "before", "LRatchetPost$Turn;", true)
  | 1 => ("RatchetPost$Turn", "pairs", "[LRatchetPost$Secret;", true)
  | 2 => ("RatchetPost$Turn", "newestAfter", "LRatchetPost$Turn;", false)
  | 3 => ("RatchetPost$Turn", "olderSister", "LRatchetPost$Turn;", false)
  | 4 => ("RatchetPost$Turn", "rootGot", "Z", false)
  | 5 => ("RatchetPost$Turn", "chainGotFrom", "I", false)
  | _ => ("RatchetPost$Turn", "keyGot", "[Z", true)
def tyX9 : Nat → FieldType := fun k => match k with
  | 0 => .object "RatchetPost$Turn"
  | 1 => .array (.object "RatchetPost$Secret")
  | 2 => .object "RatchetPost$Turn"
  | 3 => .object "RatchetPost$Turn"
  | 4 => .boolean
  | 5 => .int
  | _ => .array .boolean
theorem nmX9 : ∀ a, a < 7 → ∀ b, b < 7 → a ≠ b → (TX9 a).2.1 ≠ (TX9 b).2.1 := by decide +kernel
theorem tyX9_ok : ∀ k, k < 7 → parseFieldDescriptor (TX9 k).2.2.1 = some (tyX9 k) := by decide +kernel
abbrev cX9_init : ByteArray := prog_11_method_1_code
def yX9_init : MethodName := ⟨RX9, "<init>", "(LRatchetPost$Turn;[LRatchetPost$Secret;)V"⟩
abbrev cX9_turnOf : ByteArray := prog_11_method_2_code
def yX9_turnOf : MethodName := ⟨RX9, "turnOf", "([LRatchetPost$Secret;)LRatchetPost$Turn;"⟩
abbrev cX9_isOf : ByteArray := prog_11_method_3_code
def yX9_isOf : MethodName := ⟨RX9, "isOf", "([LRatchetPost$Secret;)Z"⟩
abbrev cX9_giveRoot : ByteArray := prog_11_method_4_code
def yX9_giveRoot : MethodName := ⟨RX9, "giveRoot", "()V"⟩
abbrev cX9_giveChain : ByteArray := prog_11_method_5_code
def yX9_giveChain : MethodName := ⟨RX9, "giveChain", "(I)V"⟩
abbrev cX9_giveKey : ByteArray := prog_11_method_6_code
def yX9_giveKey : MethodName := ⟨RX9, "giveKey", "(I)V"⟩
abbrev cX9_givesKey : ByteArray := prog_11_method_7_code
def yX9_givesKey : MethodName := ⟨RX9, "givesKey", "(I)Z"⟩
abbrev cX9_isWorkedOut : ByteArray := prog_11_method_8_code
def yX9_isWorkedOut : MethodName := ⟨RX9, "isWorkedOut", "()Z"⟩
abbrev cX9_hasCommons : ByteArray := prog_11_method_9_code
def yX9_hasCommons : MethodName := ⟨RX9, "hasCommons", "()Z"⟩
def RX10 : String := "RatchetPost"
def TX10 : u_T := fun k => match k with
  | 0 => ("RatchetPost", "people", "[LRatchetPost$Person;", true)
  | 1 => ("RatchetPost", "letters", "[LRatchetPost$Letter;", true)
  | 2 => ("RatchetPost", "letterCount", "I", false)
  | 3 => ("RatchetPost", "copyCount", "I", false)
  | 4 => ("RatchetPost", "begunCount", "I", false)
  | 5 => ("RatchetPost", "madeCount", "I", false)
  | 6 => ("RatchetPost", "openedCount", "I", false)
  | 7 => ("RatchetPost", "lookCount", "I", false)
  | 8 => ("RatchetPost", "tape", "[I", true)
  | 9 => ("RatchetPost", "tapeSize", "I", false)
  | 10 => ("RatchetPost", "reading", "[I", true)
  | 11 => ("RatchetPost", "readingSize", "I", false)
  | 12 => ("RatchetPost", "envelope", "LRatchetPost$Envelope;", true)
  | 13 => ("RatchetPost", "opening", "LRatchetPost$Opening;", true)
  | _ => ("RatchetPost", "noTurn", "LRatchetPost$Turn;", true)
def tyX10 : Nat → FieldType := fun k => match k with
  | 0 => .array (.object "RatchetPost$Person")
  | 1 => .array (.object "RatchetPost$Letter")
  | 2 => .int
  | 3 => .int
  | 4 => .int
  | 5 => .int
  | 6 => .int
  | 7 => .int
  | 8 => .array .int
  | 9 => .int
  | 10 => .array .int
  | 11 => .int
  | 12 => .object "RatchetPost$Envelope"
  | 13 => .object "RatchetPost$Opening"
  | _ => .object "RatchetPost$Turn"
theorem nmX10 : ∀ a, a < 15 → ∀ b, b < 15 → a ≠ b → (TX10 a).2.1 ≠ (TX10 b).2.1 := by decide +kernel
theorem tyX10_ok : ∀ k, k < 15 → parseFieldDescriptor (TX10 k).2.2.1 = some (tyX10 k) := by decide +kernel
abbrev cX10_init : ByteArray := prog_1_method_1_code
def yX10_init : MethodName := ⟨RX10, "<init>", "(II)V"⟩
abbrev cX10_feed : ByteArray := prog_1_method_2_code
def yX10_feed : MethodName := ⟨RX10, "feed", "(IIIII)I"⟩
abbrev cX10_putOnTape : ByteArray := prog_1_method_3_code
def yX10_putOnTape : MethodName := ⟨RX10, "putOnTape", "(I)V"⟩
abbrev cX10_end : ByteArray := prog_1_method_4_code
def yX10_end : MethodName := ⟨RX10, "end", "(I)I"⟩
abbrev cX10_register : ByteArray := prog_1_method_5_code
def yX10_register : MethodName := ⟨RX10, "register", "(I)I"⟩
abbrev cX10_publish : ByteArray := prog_1_method_6_code
def yX10_publish : MethodName := ⟨RX10, "publish", "(II)I"⟩
abbrev cX10_rotate : ByteArray := prog_1_method_7_code
def yX10_rotate : MethodName := ⟨RX10, "rotate", "(I)I"⟩
abbrev cX10_write : ByteArray := prog_1_method_8_code
def yX10_write : MethodName := ⟨RX10, "write", "(II)I"⟩
abbrev cX10_begin : ByteArray := prog_1_method_9_code
def yX10_begin : MethodName := ⟨RX10, "begin", "(II)I"⟩
abbrev cX10_forget : ByteArray := prog_1_method_10_code
def yX10_forget : MethodName := ⟨RX10, "forget", "(II)I"⟩
abbrev cX10_come : ByteArray := prog_1_method_11_code
def yX10_come : MethodName := ⟨RX10, "come", "(II)I"⟩
abbrev cX10_byteOf : ByteArray := prog_1_method_12_code
def yX10_byteOf : MethodName := ⟨RX10, "byteOf", "(I)I"⟩
abbrev cX10_copy : ByteArray := prog_1_method_13_code
def yX10_copy : MethodName := ⟨RX10, "copy", "(I)I"⟩
abbrev cX10_spoil : ByteArray := prog_1_method_14_code
def yX10_spoil : MethodName := ⟨RX10, "spoil", "(III)I"⟩
abbrev cX10_letter : ByteArray := prog_1_method_15_code
def yX10_letter : MethodName := ⟨RX10, "letter", "(II)I"⟩
abbrev cX10_forge : ByteArray := prog_1_method_16_code
def yX10_forge : MethodName := ⟨RX10, "forge", "(IJ)I"⟩
abbrev cX10_user : ByteArray := prog_1_method_17_code
def yX10_user : MethodName := ⟨RX10, "user", "(II)I"⟩
abbrev cX10_number : ByteArray := prog_1_method_18_code
def yX10_number : MethodName := ⟨RX10, "number", "(II)J"⟩
abbrev cX10_session : ByteArray := prog_1_method_19_code
def yX10_session : MethodName := ⟨RX10, "session", "(IIII)I"⟩
abbrev cX10_inside : ByteArray := prog_1_method_20_code
def yX10_inside : MethodName := ⟨RX10, "inside", "(IIII)J"⟩
abbrev cX10_same : ByteArray := prog_1_method_21_code
def yX10_same : MethodName := ⟨RX10, "same", "(IIII)I"⟩
abbrev cX10_look : ByteArray := prog_1_method_22_code
def yX10_look : MethodName := ⟨RX10, "look", "(I)I"⟩
abbrev cX10_readable : ByteArray := prog_1_method_23_code
def yX10_readable : MethodName := ⟨RX10, "readable", "(I)I"⟩
abbrev cX10_count : ByteArray := prog_1_method_24_code
def yX10_count : MethodName := ⟨RX10, "count", "(I)I"⟩
abbrev cX10_isUser : ByteArray := prog_1_method_25_code
def yX10_isUser : MethodName := ⟨RX10, "isUser", "(I)Z"⟩
abbrev cX10_arePair : ByteArray := prog_1_method_26_code
def yX10_arePair : MethodName := ⟨RX10, "arePair", "(II)Z"⟩
abbrev cX10_isLetter : ByteArray := prog_1_method_27_code
def yX10_isLetter : MethodName := ⟨RX10, "isLetter", "(I)Z"⟩
abbrev cX10_oneIf : ByteArray := prog_1_method_28_code
def yX10_oneIf : MethodName := ⟨RX10, "oneIf", "(Z)I"⟩
abbrev cX10_openOf : ByteArray := prog_1_method_29_code
def yX10_openOf : MethodName := ⟨RX10, "openOf", "(LRatchetPost$Secret;)J"⟩
abbrev cX10_commonWith : ByteArray := prog_1_method_30_code
def yX10_commonWith : MethodName := ⟨RX10, "commonWith", "(LRatchetPost$Secret;J)J"⟩
abbrev cX10_secretOf : ByteArray := prog_1_method_31_code
def yX10_secretOf : MethodName := ⟨RX10, "secretOf", "(J)LRatchetPost$Secret;"⟩
abbrev cX10_beginSession : ByteArray := prog_1_method_32_code
def yX10_beginSession : MethodName := ⟨RX10, "beginSession", "(II)I"⟩
abbrev cX10_firstPairs : ByteArray := prog_1_method_33_code
def yX10_firstPairs : MethodName := ⟨RX10, "firstPairs", "(LRatchetPost$Secret;LRatchetPost$Secret;LRatchetPost$Secret;LRatchetPost$Secret;LRatchetPost$Secret;)[LRatchetPost$Secret;"⟩
abbrev cX10_writeIn : ByteArray := prog_1_method_34_code
def yX10_writeIn : MethodName := ⟨RX10, "writeIn", "(LRatchetPost$Session;II)LRatchetPost$Letter;"⟩
abbrev cX10_faultAtTheDoor : ByteArray := prog_1_method_35_code
def yX10_faultAtTheDoor : MethodName := ⟨RX10, "faultAtTheDoor", "(LRatchetPost$Letter;I)I"⟩
abbrev cX10_openWithBeginning : ByteArray := prog_1_method_36_code
def yX10_openWithBeginning : MethodName := ⟨RX10, "openWithBeginning", "(LRatchetPost$Person;)I"⟩
abbrev cX10_openWithoutBeginning : ByteArray := prog_1_method_37_code
def yX10_openWithoutBeginning : MethodName := ⟨RX10, "openWithoutBeginning", "(LRatchetPost$Person;)I"⟩
abbrev cX10_openIn : ByteArray := prog_1_method_38_code
def yX10_openIn : MethodName := ⟨RX10, "openIn", "(LRatchetPost$Person;I)I"⟩
abbrev cX10_openInNew : ByteArray := prog_1_method_39_code
def yX10_openInNew : MethodName := ⟨RX10, "openInNew", "(LRatchetPost$Person;)I"⟩
abbrev cX10_takeReading : ByteArray := prog_1_method_40_code
def yX10_takeReading : MethodName := ⟨RX10, "takeReading", "()V"⟩
def RX11 : String := "RatchetPostModel"
def TX11 : u_T := fun k => match k with
  | 0 => ("RatchetPostModel", "n", "I", true)
  | 1 => ("RatchetPostModel", "seeds", "[J", true)
  | 2 => ("RatchetPostModel", "terms", "I", false)
  | 3 => ("RatchetPostModel", "tSort", "[I", true)
  | 4 => ("RatchetPostModel", "tA", "[I", true)
  | 5 => ("RatchetPostModel", "tB", "[I", true)
  | 6 => ("RatchetPostModel", "tC", "[I", true)
  | 7 => ("RatchetPostModel", "tD", "[I", true)
  | 8 => ("RatchetPostModel", "isGot", "[Z", true)
  | 9 => ("RatchetPostModel", "isKnown", "[Z", true)
  | 10 => ("RatchetPostModel", "opens", "I", false)
  | 11 => ("RatchetPostModel", "openNumber", "[J", true)
  | 12 => ("RatchetPostModel", "openTerm", "[I", true)
  | 13 => ("RatchetPostModel", "isUser", "[Z", true)
  | 14 => ("RatchetPostModel", "draws", "[I", true)
  | 15 => ("RatchetPostModel", "identity", "[J", true)
  | 16 => ("RatchetPostModel", "identityOpen", "[J", true)
  | 17 => ("RatchetPostModel", "identityTerm", "[I", true)
  | 18 => ("RatchetPostModel", "lents", "[I", true)
  | 19 => ("RatchetPostModel", "lent", "[J", true)
  | 20 => ("RatchetPostModel", "lentOpen", "[J", true)
  | 21 => ("RatchetPostModel", "lentTerm", "[I", true)
  | 22 => ("RatchetPostModel", "directoryLent", "[J", true)
  | 23 => ("RatchetPostModel", "sealR", "[J", true)
  | 24 => ("RatchetPostModel", "sealT", "[J", true)
  | 25 => ("RatchetPostModel", "onces", "[I", true)
  | 26 => ("RatchetPostModel", "once", "[J", true)
  | 27 => ("RatchetPostModel", "onceOpen", "[J", true)
  | 28 => ("RatchetPostModel", "onceTerm", "[I", true)
  | 29 => ("RatchetPostModel", "onceThere", "[Z", true)
  | 30 => ("RatchetPostModel", "onceKept", "[Z", true)
  | 31 => ("RatchetPostModel", "drawn", "J", false)
  | 32 => ("RatchetPostModel", "drawnOpen", "J", false)
  | 33 => ("RatchetPostModel", "drawnTerm", "I", false)
  | 34 => ("RatchetPostModel", "order", "[I", true)
  | 35 => ("RatchetPostModel", "rowMany", "[I", true)
  | 36 => ("RatchetPostModel", "sRoot", "[J", true)
  | 37 => ("RatchetPostModel", "sSend", "[J", true)
  | 38 => ("RatchetPostModel", "hasSend", "[Z", true)
  | 39 => ("RatchetPostModel", "sRecv", "[J", true)
  | 40 => ("RatchetPostModel", "hasRecv", "[Z", true)
  | 41 => ("RatchetPostModel", "sOwn", "[J", true)
  | 42 => ("RatchetPostModel", "sOwnOpen", "[J", true)
  | 43 => ("RatchetPostModel", "sOther", "[J", true)
  | 44 => ("RatchetPostModel", "hasOther", "[Z", true)
  | 45 => ("RatchetPostModel", "sNs", "[I", true)
  | 46 => ("RatchetPostModel", "sNr", "[I", true)
  | 47 => ("RatchetPostModel", "sPn", "[I", true)
  | 48 => ("RatchetPostModel", "goesWith", "[Z", true)
  | 49 => ("RatchetPostModel", "isBegun", "[Z", true)
  | 50 => ("RatchetPostModel", "sE", "[J", true)
  | 51 => ("RatchetPostModel", "sLent", "[I", true)
  | 52 => ("RatchetPostModel", "sOnce", "[I", true)
  | 53 => ("RatchetPostModel", "tRoot", "[I", true)
  | 54 => ("RatchetPostModel", "tFirst", "[I", true)
  | 55 => ("RatchetPostModel", "tSend", "[I", true)
  | 56 => ("RatchetPostModel", "tRecv", "[I", true)
  | 57 => ("RatchetPostModel", "tOwn", "[I", true)
  | 58 => ("RatchetPostModel", "keptMany", "[I", true)
  | 59 => ("RatchetPostModel", "keptOpen", "[J", true)
  | 60 => ("RatchetPostModel", "keptPlace", "[I", true)
  | 61 => ("RatchetPostModel", "keptKey", "[J", true)
  | 62 => ("RatchetPostModel", "keptTerm", "[I", true)
  | 63 => ("RatchetPostModel", "begun", "I", false)
  | 64 => ("RatchetPostModel", "heard", "[I", true)
  | 65 => ("RatchetPostModel", "heardLent", "[I", true)
  | 66 => ("RatchetPostModel", "heardE", "[J", true)
  | 67 => ("RatchetPostModel", "tape", "[I", true)
  | 68 => ("RatchetPostModel", "taped", "I", false)
  | 69 => ("RatchetPostModel", "letterByte", "[I", true)
  | 70 => ("RatchetPostModel", "letterSize", "[I", true)
  | 71 => ("RatchetPostModel", "letterTerm", "[I", true)
  | 72 => ("RatchetPostModel", "letters", "I", false)
  | 73 => ("RatchetPostModel", "copies", "I", false)
  | 74 => ("RatchetPostModel", "reading", "[I", true)
  | 75 => ("RatchetPostModel", "readingSize", "I", false)
  | 76 => ("RatchetPostModel", "writeAt", "I", false)
  | 77 => ("RatchetPostModel", "lAt", "I", false)
  | 78 => ("RatchetPostModel", "lSize", "I", false)
  | 79 => ("RatchetPostModel", "headOpen", "J", false)
  | 80 => ("RatchetPostModel", "headPn", "I", false)
  | 81 => ("RatchetPostModel", "headN", "I", false)
  | 82 => ("RatchetPostModel", "textAt", "I", false)
  | 83 => ("RatchetPostModel", "textSize", "I", false)
  | 84 => ("RatchetPostModel", "opened", "I", false)
  | 85 => ("RatchetPostModel", "madeByLetters", "I", false)
  | _ => ("RatchetPostModel", "looks", "I", false)
def tyX11 : Nat → FieldType := fun k => match k with
  | 0 => .int
  | 1 => .array .long
  | 2 => .int
  | 3 => .array .int
  | 4 => .array .int
  | 5 => .array .int
  | 6 => .array .int
  | 7 => .array .int
  | 8 => .array .boolean
  | 9 => .array .boolean
  | 10 => .int
  | 11 => .array .long
  | 12 => .array .int
  | 13 => .array .boolean
  | 14 => .array .int
  | 15 => .array .long
  | 16 => .array .long
  | 17 => .array .int
  | 18 => .array .int
  | 19 => .array .long
  | 20 => .array .long
  | 21 => .array .int
  | 22 => .array .long
  | 23 => .array .long
  | 24 => .array .long
  | 25 => .array .int
  | 26 => .array .long
  | 27 => .array .long
  | 28 => .array .int
  | 29 => .array .boolean
  | 30 => .array .boolean
  | 31 => .long
  | 32 => .long
  | 33 => .int
  | 34 => .array .int
  | 35 => .array .int
  | 36 => .array .long
  | 37 => .array .long
  | 38 => .array .boolean
  | 39 => .array .long
  | 40 => .array .boolean
  | 41 => .array .long
  | 42 => .array .long
  | 43 => .array .long
  | 44 => .array .boolean
  | 45 => .array .int
  | 46 => .array .int
  | 47 => .array .int
  | 48 => .array .boolean
  | 49 => .array .boolean
  | 50 => .array .long
  | 51 => .array .int
  | 52 => .array .int
  | 53 => .array .int
  | 54 => .array .int
  | 55 => .array .int
  | 56 => .array .int
  | 57 => .array .int
  | 58 => .array .int
  | 59 => .array .long
  | 60 => .array .int
  | 61 => .array .long
  | 62 => .array .int
  | 63 => .int
  | 64 => .array .int
  | 65 => .array .int
  | 66 => .array .long
  | 67 => .array .int
  | 68 => .int
  | 69 => .array .int
  | 70 => .array .int
  | 71 => .array .int
  | 72 => .int
  | 73 => .int
  | 74 => .array .int
  | 75 => .int
  | 76 => .int
  | 77 => .int
  | 78 => .int
  | 79 => .long
  | 80 => .int
  | 81 => .int
  | 82 => .int
  | 83 => .int
  | 84 => .int
  | 85 => .int
  | _ => .int
theorem nmX11 : ∀ a, a < 87 → ∀ b, b < 87 → a ≠ b → (TX11 a).2.1 ≠ (TX11 b).2.1 := by decide +kernel
theorem tyX11_ok : ∀ k, k < 87 → parseFieldDescriptor (TX11 k).2.2.1 = some (tyX11 k) := by decide +kernel
abbrev cX11_init : ByteArray := prog_13_method_1_code
def yX11_init : MethodName := ⟨RX11, "<init>", "(II)V"⟩
abbrev cX11_mix : ByteArray := prog_13_method_2_code
def yX11_mix : MethodName := ⟨RX11, "mix", "(JJ)J"⟩
abbrev cX11_key : ByteArray := prog_13_method_3_code
def yX11_key : MethodName := ⟨RX11, "key", "(IJJ)J"⟩
abbrev cX11_times : ByteArray := prog_13_method_4_code
def yX11_times : MethodName := ⟨RX11, "times", "(JJ)J"⟩
abbrev cX11_timesQ : ByteArray := prog_13_method_5_code
def yX11_timesQ : MethodName := ⟨RX11, "timesQ", "(JJ)J"⟩
abbrev cX11_power : ByteArray := prog_13_method_6_code
def yX11_power : MethodName := ⟨RX11, "power", "(JJ)J"⟩
abbrev cX11_common : ByteArray := prog_13_method_7_code
def yX11_common : MethodName := ⟨RX11, "common", "(JJ)J"⟩
abbrev cX11_modQ : ByteArray := prog_13_method_8_code
def yX11_modQ : MethodName := ⟨RX11, "modQ", "(J)J"⟩
abbrev cX11_asSecret : ByteArray := prog_13_method_9_code
def yX11_asSecret : MethodName := ⟨RX11, "asSecret", "(J)J"⟩
abbrev cX11_term : ByteArray := prog_13_method_10_code
def yX11_term : MethodName := ⟨RX11, "term", "(IIIII)I"⟩
abbrev cX11_secretOf : ByteArray := prog_13_method_11_code
def yX11_secretOf : MethodName := ⟨RX11, "secretOf", "(J)I"⟩
abbrev cX11_commonTerm : ByteArray := prog_13_method_12_code
def yX11_commonTerm : MethodName := ⟨RX11, "commonTerm", "(II)I"⟩
abbrev cX11_draw : ByteArray := prog_13_method_13_code
def yX11_draw : MethodName := ⟨RX11, "draw", "(I)V"⟩
abbrev cX11_drawTerm : ByteArray := prog_13_method_14_code
def yX11_drawTerm : MethodName := ⟨RX11, "drawTerm", "(I)V"⟩
abbrev cX11_isThere : ByteArray := prog_13_method_15_code
def yX11_isThere : MethodName := ⟨RX11, "isThere", "(I)Z"⟩
abbrev cX11_lend : ByteArray := prog_13_method_16_code
def yX11_lend : MethodName := ⟨RX11, "lend", "(I)V"⟩
abbrev cX11_register : ByteArray := prog_13_method_17_code
def yX11_register : MethodName := ⟨RX11, "register", "(I)I"⟩
abbrev cX11_onceInDirectory : ByteArray := prog_13_method_18_code
def yX11_onceInDirectory : MethodName := ⟨RX11, "onceInDirectory", "(I)I"⟩
abbrev cX11_leastOnce : ByteArray := prog_13_method_19_code
def yX11_leastOnce : MethodName := ⟨RX11, "leastOnce", "(I)I"⟩
abbrev cX11_publish : ByteArray := prog_13_method_20_code
def yX11_publish : MethodName := ⟨RX11, "publish", "(II)I"⟩
abbrev cX11_rotate : ByteArray := prog_13_method_21_code
def yX11_rotate : MethodName := ⟨RX11, "rotate", "(I)I"⟩
abbrev cX11_isSealRight : ByteArray := prog_13_method_22_code
def yX11_isSealRight : MethodName := ⟨RX11, "isSealRight", "(I)Z"⟩
abbrev cX11_newSession : ByteArray := prog_13_method_23_code
def yX11_newSession : MethodName := ⟨RX11, "newSession", "(II)I"⟩
abbrev cX11_toFront : ByteArray := prog_13_method_24_code
def yX11_toFront : MethodName := ⟨RX11, "toFront", "(II)V"⟩
abbrev cX11_clear : ByteArray := prog_13_method_25_code
def yX11_clear : MethodName := ⟨RX11, "clear", "(I)V"⟩
abbrev cX11_turnSending : ByteArray := prog_13_method_26_code
def yX11_turnSending : MethodName := ⟨RX11, "turnSending", "(I)V"⟩
abbrev cX11_sumOf : ByteArray := prog_13_method_27_code
def yX11_sumOf : MethodName := ⟨RX11, "sumOf", "(JJJJ)J"⟩
abbrev cX11_beginNow : ByteArray := prog_13_method_28_code
def yX11_beginNow : MethodName := ⟨RX11, "beginNow", "(II)I"⟩
abbrev cX11_begin : ByteArray := prog_13_method_29_code
def yX11_begin : MethodName := ⟨RX11, "begin", "(II)I"⟩
abbrev cX11_forget : ByteArray := prog_13_method_30_code
def yX11_forget : MethodName := ⟨RX11, "forget", "(II)I"⟩
abbrev cX11_feed : ByteArray := prog_13_method_31_code
def yX11_feed : MethodName := ⟨RX11, "feed", "(IIIII)I"⟩
abbrev cX11_end : ByteArray := prog_13_method_32_code
def yX11_end : MethodName := ⟨RX11, "end", "(I)I"⟩
abbrev cX11_put : ByteArray := prog_13_method_33_code
def yX11_put : MethodName := ⟨RX11, "put", "(JI)V"⟩
abbrev cX11_sumOfBytes : ByteArray := prog_13_method_34_code
def yX11_sumOfBytes : MethodName := ⟨RX11, "sumOfBytes", "(II)J"⟩
abbrev cX11_write : ByteArray := prog_13_method_35_code
def yX11_write : MethodName := ⟨RX11, "write", "(II)I"⟩
abbrev cX11_isLetter : ByteArray := prog_13_method_36_code
def yX11_isLetter : MethodName := ⟨RX11, "isLetter", "(I)Z"⟩
abbrev cX11_copy : ByteArray := prog_13_method_37_code
def yX11_copy : MethodName := ⟨RX11, "copy", "(I)I"⟩
abbrev cX11_spoil : ByteArray := prog_13_method_38_code
def yX11_spoil : MethodName := ⟨RX11, "spoil", "(III)I"⟩
abbrev cX11_letter : ByteArray := prog_13_method_39_code
def yX11_letter : MethodName := ⟨RX11, "letter", "(II)I"⟩
abbrev cX11_byteOf : ByteArray := prog_13_method_40_code
def yX11_byteOf : MethodName := ⟨RX11, "byteOf", "(I)I"⟩
abbrev cX11_forge : ByteArray := prog_13_method_41_code
def yX11_forge : MethodName := ⟨RX11, "forge", "(IJ)I"⟩
abbrev cX11_bytesAt : ByteArray := prog_13_method_42_code
def yX11_bytesAt : MethodName := ⟨RX11, "bytesAt", "(II)J"⟩
abbrev cX11_readLetter : ByteArray := prog_13_method_43_code
def yX11_readLetter : MethodName := ⟨RX11, "readLetter", "(II)Z"⟩
abbrev cX11_isTag : ByteArray := prog_13_method_44_code
def yX11_isTag : MethodName := ⟨RX11, "isTag", "(IJ)Z"⟩
abbrev cX11_keptAt : ByteArray := prog_13_method_45_code
def yX11_keptAt : MethodName := ⟨RX11, "keptAt", "(I)I"⟩
abbrev cX11_dropKept : ByteArray := prog_13_method_46_code
def yX11_dropKept : MethodName := ⟨RX11, "dropKept", "(II)V"⟩
abbrev cX11_readText : ByteArray := prog_13_method_47_code
def yX11_readText : MethodName := ⟨RX11, "readText", "(J)V"⟩
abbrev cX11_keepUpTo : ByteArray := prog_13_method_48_code
def yX11_keepUpTo : MethodName := ⟨RX11, "keepUpTo", "(II)V"⟩
abbrev cX11_stepReceiving : ByteArray := prog_13_method_49_code
def yX11_stepReceiving : MethodName := ⟨RX11, "stepReceiving", "(I)V"⟩
abbrev cX11_open : ByteArray := prog_13_method_50_code
def yX11_open : MethodName := ⟨RX11, "open", "(III)I"⟩
abbrev cX11_turn : ByteArray := prog_13_method_51_code
def yX11_turn : MethodName := ⟨RX11, "turn", "(IIJ)V"⟩
abbrev cX11_come : ByteArray := prog_13_method_52_code
def yX11_come : MethodName := ⟨RX11, "come", "(II)I"⟩
abbrev cX11_comeLater : ByteArray := prog_13_method_53_code
def yX11_comeLater : MethodName := ⟨RX11, "comeLater", "(III)I"⟩
abbrev cX11_comeFirst : ByteArray := prog_13_method_54_code
def yX11_comeFirst : MethodName := ⟨RX11, "comeFirst", "(IIII)I"⟩
abbrev cX11_user : ByteArray := prog_13_method_55_code
def yX11_user : MethodName := ⟨RX11, "user", "(II)I"⟩
abbrev cX11_keptSecrets : ByteArray := prog_13_method_56_code
def yX11_keptSecrets : MethodName := ⟨RX11, "keptSecrets", "(I)I"⟩
abbrev cX11_sessionsOf : ByteArray := prog_13_method_57_code
def yX11_sessionsOf : MethodName := ⟨RX11, "sessionsOf", "(I)I"⟩
abbrev cX11_number : ByteArray := prog_13_method_58_code
def yX11_number : MethodName := ⟨RX11, "number", "(II)J"⟩
abbrev cX11_slotOf : ByteArray := prog_13_method_59_code
def yX11_slotOf : MethodName := ⟨RX11, "slotOf", "(III)I"⟩
abbrev cX11_session : ByteArray := prog_13_method_60_code
def yX11_session : MethodName := ⟨RX11, "session", "(IIII)I"⟩
abbrev cX11_inside : ByteArray := prog_13_method_61_code
def yX11_inside : MethodName := ⟨RX11, "inside", "(IIII)J"⟩
abbrev cX11_same : ByteArray := prog_13_method_62_code
def yX11_same : MethodName := ⟨RX11, "same", "(IIII)I"⟩
abbrev cX11_look : ByteArray := prog_13_method_63_code
def yX11_look : MethodName := ⟨RX11, "look", "(I)I"⟩
abbrev cX11_lookInto : ByteArray := prog_13_method_64_code
def yX11_lookInto : MethodName := ⟨RX11, "lookInto", "(I)V"⟩
abbrev cX11_follows : ByteArray := prog_13_method_65_code
def yX11_follows : MethodName := ⟨RX11, "follows", "(I)Z"⟩
abbrev cX11_readable : ByteArray := prog_13_method_66_code
def yX11_readable : MethodName := ⟨RX11, "readable", "(I)I"⟩
abbrev cX11_count : ByteArray := prog_13_method_67_code
def yX11_count : MethodName := ⟨RX11, "count", "(I)I"⟩
def RJ9 : String := "java/lang/Math"
def RL : String := "RatchetPostLaw"
abbrev cL_cell : ByteArray := method_2_code
def yL_cell : MethodName := ⟨RL, "cell", "([II)I"⟩
abbrev cL_law : ByteArray := code
def yL_law : MethodName := ⟨RL, "law", "([I)Z"⟩
def ev_cl0 : List vw_C := [(RX0, TX0, 16), (RX1, TX1, 5), (RX2, TX2, 4), (RX4, TX4, 8), (RX5, TX5, 17), (RX6, TX6, 2), (RX7, TX7, 4), (RX8, TX8, 20), (RX9, TX9, 7), (RX10, TX10, 15), (RX11, TX11, 87)]
def ev_tl0 : List FieldType := [.int, .long, .boolean, .object "RatchetPost$Letter", .object "RatchetPost$Secret", .object "RatchetPost$Person", .object "RatchetPost$Row", .object "RatchetPost$Session", .object "RatchetPost$Turn"]
def ev_TT : List (List Cond) := [k2_sels lw_privs, tables_1_1, tables_1_2, tables_1_3, tables_1_4, tables_1_5, tables_1_6, tables_1_7]
theorem ev_cin {w : Cond} {l : List Cond} (k i : Nat) (hl : ev_TT[k]? = some l) (h : l[i]? = some w) (hg : goodWord w = true) : w ∈ ev_TT.flatten.filter goodWord := List.mem_filter.mpr ⟨List.mem_flatten.mpr ⟨l, List.mem_of_getElem? hl, List.mem_of_getElem? h⟩, hg⟩
def ev_G0 : ev_G := (ev_cl0, ev_tl0, [])
def ev_AO0 : List String := ["RatchetPost$Letter", "RatchetPost$Secret", "RatchetPost$Person", "RatchetPost$Row", "RatchetPost$Session", "RatchetPost$Turn"]
def ev_TY0 : Nat → Nat → FieldType := fun ci => match ci with
  | 0 => tyX0
  | 1 => tyX1
  | 2 => tyX2
  | 3 => tyX4
  | 4 => tyX5
  | 5 => tyX6
  | 6 => tyX7
  | 7 => tyX8
  | 8 => tyX9
  | 9 => tyX10
  | _ => tyX11
/-! roles of arrays: 100 Letter.bytes, 101 pairs, 102 X10.letters, 103 X10.tape, 104 X10.reading, 105 X10.people, 106 X11.seeds, 107 X11.tSort, 108 X11.tA, 109 X11.tB, 110 X11.tC, 111 X11.tD, 112 X11.isGot, 113 X11.isKnown, 114 X11.openNumber, 115 X11.openTerm, 116 X11.isUser, 117 X11.draws, 118 X11.identity, 119 X11.identityOpen, 120 X11.identityTerm, 121 X11.lents, 122 X11.lent, 123 X11.lentOpen, 124 X11.lentTerm, 125 X11.directoryLent, 126 X11.sealR, 127 X11.sealT, 128 X11.onces, 129 X11.once, 130 X11.onceOpen, 131 X11.onceTerm, 132 X11.onceThere, 133 X11.onceKept, 134 X11.order, 135 X11.rowMany, 136 X11.sRoot, 137 X11.sSend, 138 X11.hasSend, 139 X11.sRecv, 140 X11.hasRecv, 141 X11.sOwn, 142 X11.sOwnOpen, 143 X11.sOther, 144 X11.hasOther, 145 X11.sNs, 146 X11.sNr, 147 X11.sPn, 148 X11.goesWith, 149 X11.isBegun, 150 X11.sE, 151 X11.sLent, 152 X11.sOnce, 153 X11.tRoot, 154 X11.tFirst, 155 X11.tSend, 156 X11.tRecv, 157 X11.tOwn, 158 X11.keptMany, 159 X11.keptOpen, 160 X11.keptPlace, 161 X11.keptKey, 162 X11.keptTerm, 163 X11.heard, 164 X11.heardLent, 165 X11.heardE, 166 X11.tape, 167 X11.letterByte, 168 X11.letterSize, 169 X11.letterTerm, 170 X11.reading, 171 X1.opens, 172 X1.places, 173 X1.keys, 174 X1.turns, 175 X4.keys, 176 X5.lentKeys, 177 X5.onceKeys, 178 X5.onceUsed, 179 X5.seenOpens, 180 X5.seenLents, 181 X5.rows, 182 X6.sessions, 183 X9.keyGot -/
def ra_l : List (Nat × Nat × Nat) := [(0, 0, 0), (3, 4, 6), (3, 3, 2), (0, 0, 0), (0, 0, 0), (3, 5, 4), (1, 1, 0), (0, 0, 0), (0, 0, 0), (0, 0, 0), (0, 0, 0), (0, 0, 0), (2, 2, 0), (2, 2, 0), (1, 1, 0), (0, 0, 0), (2, 2, 0), (0, 0, 0), (1, 1, 0), (1, 1, 0), (0, 0, 0), (0, 0, 0), (1, 1, 0), (1, 1, 0), (0, 0, 0), (1, 1, 0), (1, 1, 0), (1, 1, 0), (0, 0, 0), (1, 1, 0), (1, 1, 0), (0, 0, 0), (2, 2, 0), (2, 2, 0), (0, 0, 0), (0, 0, 0), (1, 1, 0), (1, 1, 0), (2, 2, 0), (1, 1, 0), (2, 2, 0), (1, 1, 0), (1, 1, 0), (1, 1, 0), (2, 2, 0), (0, 0, 0), (0, 0, 0), (0, 0, 0), (2, 2, 0), (2, 2, 0), (1, 1, 0), (0, 0, 0), (0, 0, 0), (0, 0, 0), (0, 0, 0), (0, 0, 0), (0, 0, 0), (0, 0, 0), (0, 0, 0), (1, 1, 0), (0, 0, 0), (1, 1, 0), (0, 0, 0), (0, 0, 0), (0, 0, 0), (1, 1, 0), (0, 0, 0), (0, 0, 0), (0, 0, 0), (0, 0, 0), (0, 0, 0), (1, 1, 0), (0, 0, 0), (1, 1, 0), (3, 8, 8), (1, 1, 0), (3, 4, 6), (3, 4, 6), (2, 2, 0), (1, 1, 0), (0, 0, 0), (3, 6, 5), (3, 7, 7), (2, 2, 0)]
def ra0 : cx_A := fun s => if s = 98 then (0, 0, 0) else if s < 100 then (9, 0, 0) else match ev_nth ra_l (s - 100) with
  | some x => x
  | none => (9, 0, 0)
theorem ra_98 : ra0 98 = (0, 0, 0) := rfl
theorem ra_100 : ra0 100 = (0, 0, 0) := rfl
theorem ra_101 : ra0 101 = (3, 4, 6) := rfl
theorem ra_102 : ra0 102 = (3, 3, 2) := rfl
theorem ra_103 : ra0 103 = (0, 0, 0) := rfl
theorem ra_104 : ra0 104 = (0, 0, 0) := rfl
theorem ra_105 : ra0 105 = (3, 5, 4) := rfl
theorem ra_106 : ra0 106 = (1, 1, 0) := rfl
theorem ra_107 : ra0 107 = (0, 0, 0) := rfl
theorem ra_108 : ra0 108 = (0, 0, 0) := rfl
theorem ra_109 : ra0 109 = (0, 0, 0) := rfl
theorem ra_110 : ra0 110 = (0, 0, 0) := rfl
theorem ra_111 : ra0 111 = (0, 0, 0) := rfl
theorem ra_112 : ra0 112 = (2, 2, 0) := rfl
theorem ra_113 : ra0 113 = (2, 2, 0) := rfl
theorem ra_114 : ra0 114 = (1, 1, 0) := rfl
theorem ra_115 : ra0 115 = (0, 0, 0) := rfl
theorem ra_116 : ra0 116 = (2, 2, 0) := rfl
theorem ra_117 : ra0 117 = (0, 0, 0) := rfl
theorem ra_118 : ra0 118 = (1, 1, 0) := rfl
theorem ra_119 : ra0 119 = (1, 1, 0) := rfl
theorem ra_120 : ra0 120 = (0, 0, 0) := rfl
theorem ra_121 : ra0 121 = (0, 0, 0) := rfl
theorem ra_122 : ra0 122 = (1, 1, 0) := rfl
theorem ra_123 : ra0 123 = (1, 1, 0) := rfl
theorem ra_124 : ra0 124 = (0, 0, 0) := rfl
theorem ra_125 : ra0 125 = (1, 1, 0) := rfl
theorem ra_126 : ra0 126 = (1, 1, 0) := rfl
theorem ra_127 : ra0 127 = (1, 1, 0) := rfl
theorem ra_128 : ra0 128 = (0, 0, 0) := rfl
theorem ra_129 : ra0 129 = (1, 1, 0) := rfl
theorem ra_130 : ra0 130 = (1, 1, 0) := rfl
theorem ra_131 : ra0 131 = (0, 0, 0) := rfl
theorem ra_132 : ra0 132 = (2, 2, 0) := rfl
theorem ra_133 : ra0 133 = (2, 2, 0) := rfl
theorem ra_134 : ra0 134 = (0, 0, 0) := rfl
theorem ra_135 : ra0 135 = (0, 0, 0) := rfl
theorem ra_136 : ra0 136 = (1, 1, 0) := rfl
theorem ra_137 : ra0 137 = (1, 1, 0) := rfl
theorem ra_138 : ra0 138 = (2, 2, 0) := rfl
theorem ra_139 : ra0 139 = (1, 1, 0) := rfl
theorem ra_140 : ra0 140 = (2, 2, 0) := rfl
theorem ra_141 : ra0 141 = (1, 1, 0) := rfl
theorem ra_142 : ra0 142 = (1, 1, 0) := rfl
theorem ra_143 : ra0 143 = (1, 1, 0) := rfl
theorem ra_144 : ra0 144 = (2, 2, 0) := rfl
theorem ra_145 : ra0 145 = (0, 0, 0) := rfl
theorem ra_146 : ra0 146 = (0, 0, 0) := rfl
theorem ra_147 : ra0 147 = (0, 0, 0) := rfl
theorem ra_148 : ra0 148 = (2, 2, 0) := rfl
theorem ra_149 : ra0 149 = (2, 2, 0) := rfl
theorem ra_150 : ra0 150 = (1, 1, 0) := rfl
theorem ra_151 : ra0 151 = (0, 0, 0) := rfl
theorem ra_152 : ra0 152 = (0, 0, 0) := rfl
theorem ra_153 : ra0 153 = (0, 0, 0) := rfl
theorem ra_154 : ra0 154 = (0, 0, 0) := rfl
theorem ra_155 : ra0 155 = (0, 0, 0) := rfl
theorem ra_156 : ra0 156 = (0, 0, 0) := rfl
theorem ra_157 : ra0 157 = (0, 0, 0) := rfl
theorem ra_158 : ra0 158 = (0, 0, 0) := rfl
theorem ra_159 : ra0 159 = (1, 1, 0) := rfl
theorem ra_160 : ra0 160 = (0, 0, 0) := rfl
theorem ra_161 : ra0 161 = (1, 1, 0) := rfl
theorem ra_162 : ra0 162 = (0, 0, 0) := rfl
theorem ra_163 : ra0 163 = (0, 0, 0) := rfl
theorem ra_164 : ra0 164 = (0, 0, 0) := rfl
theorem ra_165 : ra0 165 = (1, 1, 0) := rfl
theorem ra_166 : ra0 166 = (0, 0, 0) := rfl
theorem ra_167 : ra0 167 = (0, 0, 0) := rfl
theorem ra_168 : ra0 168 = (0, 0, 0) := rfl
theorem ra_169 : ra0 169 = (0, 0, 0) := rfl
theorem ra_170 : ra0 170 = (0, 0, 0) := rfl
theorem ra_171 : ra0 171 = (1, 1, 0) := rfl
theorem ra_172 : ra0 172 = (0, 0, 0) := rfl
theorem ra_173 : ra0 173 = (1, 1, 0) := rfl
theorem ra_174 : ra0 174 = (3, 8, 8) := rfl
theorem ra_175 : ra0 175 = (1, 1, 0) := rfl
theorem ra_176 : ra0 176 = (3, 4, 6) := rfl
theorem ra_177 : ra0 177 = (3, 4, 6) := rfl
theorem ra_178 : ra0 178 = (2, 2, 0) := rfl
theorem ra_179 : ra0 179 = (1, 1, 0) := rfl
theorem ra_180 : ra0 180 = (0, 0, 0) := rfl
theorem ra_181 : ra0 181 = (3, 6, 5) := rfl
theorem ra_182 : ra0 182 = (3, 7, 7) := rfl
theorem ra_183 : ra0 183 = (2, 2, 0) := rfl
