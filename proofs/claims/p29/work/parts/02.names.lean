def RX0 : String := "Corpusline$Part"
def TX0 : u_T := fun k => match k with
  | 0 => ("Corpusline$Part", "tests", "[LCorpusline$TokenTest;", true)
  | 1 => ("Corpusline$Part", "nexts", "[I", true)
  | 2 => ("Corpusline$Part", "firsts", "I", false)
  | 3 => ("Corpusline$Part", "lasts", "I", false)
  | 4 => ("Corpusline$Part", "isNoneToo", "Z", false)
  | 5 => ("Corpusline$Part", "isTest", "Z", false)
  | _ => ("Corpusline$Part", "readSettings", "I", false)
def tyX0 : Nat → FieldType := fun k => match k with
  | 0 => .array (.object "Corpusline$TokenTest")
  | 1 => .array .int
  | 2 => .int
  | 3 => .int
  | 4 => .boolean
  | 5 => .boolean
  | _ => .int
theorem nmX0 : ∀ a, a < 7 → ∀ b, b < 7 → a ≠ b → (TX0 a).2.1 ≠ (TX0 b).2.1 := by decide +kernel
theorem tyX0_ok : ∀ k, k < 7 → parseFieldDescriptor (TX0 k).2.2.1 = some (tyX0 k) := by decide +kernel
abbrev cX0_init : ByteArray := prog_2_method_1_code
def yX0_init : MethodName := ⟨RX0, "<init>", "(I)V"⟩
abbrev cX0_ofTest : ByteArray := prog_2_method_2_code
def yX0_ofTest : MethodName := ⟨RX0, "ofTest", "(LCorpusline$TokenTest;)LCorpusline$Part;"⟩
abbrev cX0_ofChain : ByteArray := prog_2_method_3_code
def yX0_ofChain : MethodName := ⟨RX0, "ofChain", "(LCorpusline$Part;LCorpusline$Part;)LCorpusline$Part;"⟩
abbrev cX0_ofEither : ByteArray := prog_2_method_4_code
def yX0_ofEither : MethodName := ⟨RX0, "ofEither", "(LCorpusline$Part;LCorpusline$Part;)LCorpusline$Part;"⟩
abbrev cX0_ofRepeat : ByteArray := prog_2_method_5_code
def yX0_ofRepeat : MethodName := ⟨RX0, "ofRepeat", "(LCorpusline$Part;II)LCorpusline$Part;"⟩
abbrev cX0_ofTimes : ByteArray := prog_2_method_6_code
def yX0_ofTimes : MethodName := ⟨RX0, "ofTimes", "(LCorpusline$Part;Z)LCorpusline$Part;"⟩
abbrev cX0_ofTestsOf : ByteArray := prog_2_method_7_code
def yX0_ofTestsOf : MethodName := ⟨RX0, "ofTestsOf", "(LCorpusline$Part;LCorpusline$Part;)LCorpusline$Part;"⟩
abbrev cX0_takeTests : ByteArray := prog_2_method_8_code
def yX0_takeTests : MethodName := ⟨RX0, "takeTests", "(LCorpusline$Part;I)V"⟩
def RX1 : String := "Corpusline$Result"
def TX1 : u_T := fun k => match k with
  | 0 => ("Corpusline$Result", "isThere", "Z", false)
  | 1 => ("Corpusline$Result", "side", "I", false)
  | _ => ("Corpusline$Result", "lengths", "[I", true)
def tyX1 : Nat → FieldType := fun k => match k with
  | 0 => .boolean
  | 1 => .int
  | _ => .array .int
theorem nmX1 : ∀ a, a < 3 → ∀ b, b < 3 → a ≠ b → (TX1 a).2.1 ≠ (TX1 b).2.1 := by decide +kernel
theorem tyX1_ok : ∀ k, k < 3 → parseFieldDescriptor (TX1 k).2.2.1 = some (tyX1 k) := by decide +kernel
abbrev cX1_init : ByteArray := prog_3_method_1_code
def yX1_init : MethodName := ⟨RX1, "<init>", "()V"⟩
abbrev cX1_begin : ByteArray := prog_3_method_2_code
def yX1_begin : MethodName := ⟨RX1, "begin", "(I)V"⟩
abbrev cX1_matchCount : ByteArray := prog_3_method_3_code
def yX1_matchCount : MethodName := ⟨RX1, "matchCount", "()I"⟩
def RX2 : String := "Corpusline$Settings"
def TX2 : u_T := fun k => match k with
  | _ => ("", "", "", false)
def tyX2 : Nat → FieldType := fun k => match k with
  | _ => .int
theorem nmX2 : ∀ a, a < 0 → ∀ b, b < 0 → a ≠ b → (TX2 a).2.1 ≠ (TX2 b).2.1 := by decide +kernel
theorem tyX2_ok : ∀ k, k < 0 → parseFieldDescriptor (TX2 k).2.2.1 = some (tyX2 k) := by decide +kernel
abbrev cX2_fieldOf : ByteArray := prog_4_method_2_code
def yX2_fieldOf : MethodName := ⟨RX2, "fieldOf", "(I)I"⟩
abbrev cX2_tokenOf : ByteArray := prog_4_method_3_code
def yX2_tokenOf : MethodName := ⟨RX2, "tokenOf", "(II)I"⟩
abbrev cX2_withToken : ByteArray := prog_4_method_4_code
def yX2_withToken : MethodName := ⟨RX2, "withToken", "(III)I"⟩
def RX3 : String := "Corpusline$Side"
def TX3 : u_T := fun k => match k with
  | 0 => ("Corpusline$Side", "count", "I", false)
  | 1 => ("Corpusline$Side", "isSentenceEnded", "Z", false)
  | 2 => ("Corpusline$Side", "isTextEnded", "Z", false)
  | 3 => ("Corpusline$Side", "values", "[I", true)
  | 4 => ("Corpusline$Side", "sentences", "[I", true)
  | 5 => ("Corpusline$Side", "texts", "[I", true)
  | _ => ("Corpusline$Side", "partners", "[J", true)
def tyX3 : Nat → FieldType := fun k => match k with
  | 0 => .int
  | 1 => .boolean
  | 2 => .boolean
  | 3 => .array .int
  | 4 => .array .int
  | 5 => .array .int
  | _ => .array .long
theorem nmX3 : ∀ a, a < 7 → ∀ b, b < 7 → a ≠ b → (TX3 a).2.1 ≠ (TX3 b).2.1 := by decide +kernel
theorem tyX3_ok : ∀ k, k < 7 → parseFieldDescriptor (TX3 k).2.2.1 = some (tyX3 k) := by decide +kernel
abbrev cX3_init : ByteArray := prog_5_method_1_code
def yX3_init : MethodName := ⟨RX3, "<init>", "()V"⟩
abbrev cX3_append : ByteArray := prog_5_method_2_code
def yX3_append : MethodName := ⟨RX3, "append", "(III)I"⟩
abbrev cX3_valueAt : ByteArray := prog_5_method_3_code
def yX3_valueAt : MethodName := ⟨RX3, "valueAt", "(II)I"⟩
abbrev cX3_isSentence : ByteArray := prog_5_method_4_code
def yX3_isSentence : MethodName := ⟨RX3, "isSentence", "(I)Z"⟩
abbrev cX3_isWithin : ByteArray := prog_5_method_5_code
def yX3_isWithin : MethodName := ⟨RX3, "isWithin", "(III)Z"⟩
def RX4 : String := "Corpusline$TokenTest"
def TX4 : u_T := fun k => match k with
  | 0 => ("Corpusline$TokenTest", "passing", "[J", true)
  | 1 => ("Corpusline$TokenTest", "sames", "I", false)
  | _ => ("Corpusline$TokenTest", "labels", "I", false)
def tyX4 : Nat → FieldType := fun k => match k with
  | 0 => .array .long
  | 1 => .int
  | _ => .int
theorem nmX4 : ∀ a, a < 3 → ∀ b, b < 3 → a ≠ b → (TX4 a).2.1 ≠ (TX4 b).2.1 := by decide +kernel
theorem tyX4_ok : ∀ k, k < 3 → parseFieldDescriptor (TX4 k).2.2.1 = some (tyX4 k) := by decide +kernel
abbrev cX4_init : ByteArray := prog_6_method_1_code
def yX4_init : MethodName := ⟨RX4, "<init>", "()V"⟩
abbrev cX4_ofSames : ByteArray := prog_6_method_2_code
def yX4_ofSames : MethodName := ⟨RX4, "ofSames", "(I)LCorpusline$TokenTest;"⟩
abbrev cX4_ofValue : ByteArray := prog_6_method_3_code
def yX4_ofValue : MethodName := ⟨RX4, "ofValue", "(IIZ)LCorpusline$TokenTest;"⟩
abbrev cX4_ofBoth : ByteArray := prog_6_method_4_code
def yX4_ofBoth : MethodName := ⟨RX4, "ofBoth", "(LCorpusline$TokenTest;LCorpusline$TokenTest;)LCorpusline$TokenTest;"⟩
abbrev cX4_withLabel : ByteArray := prog_6_method_5_code
def yX4_withLabel : MethodName := ⟨RX4, "withLabel", "(I)LCorpusline$TokenTest;"⟩
abbrev cX4_readSettings : ByteArray := prog_6_method_6_code
def yX4_readSettings : MethodName := ⟨RX4, "readSettings", "()I"⟩
abbrev cX4_hasPassingValues : ByteArray := prog_6_method_7_code
def yX4_hasPassingValues : MethodName := ⟨RX4, "hasPassingValues", "(LCorpusline$Side;I)Z"⟩
abbrev cX4_hasSameValues : ByteArray := prog_6_method_8_code
def yX4_hasSameValues : MethodName := ⟨RX4, "hasSameValues", "(LCorpusline$Side;II)Z"⟩
abbrev cX4_settingsBehind : ByteArray := prog_6_method_9_code
def yX4_settingsBehind : MethodName := ⟨RX4, "settingsBehind", "(II)I"⟩
def RX5 : String := "Corpusline$Walker"
def TX5 : u_T := fun k => match k with
  | 0 => ("Corpusline$Walker", "ways", "[I", false)
  | 1 => ("Corpusline$Walker", "spareWays", "[I", false)
  | _ => ("Corpusline$Walker", "wayCount", "I", false)
def tyX5 : Nat → FieldType := fun k => match k with
  | 0 => .array .int
  | 1 => .array .int
  | _ => .int
theorem nmX5 : ∀ a, a < 3 → ∀ b, b < 3 → a ≠ b → (TX5 a).2.1 ≠ (TX5 b).2.1 := by decide +kernel
theorem tyX5_ok : ∀ k, k < 3 → parseFieldDescriptor (TX5 k).2.2.1 = some (tyX5 k) := by decide +kernel
abbrev cX5_init : ByteArray := prog_7_method_1_code
def yX5_init : MethodName := ⟨RX5, "<init>", "()V"⟩
abbrev cX5_lengthFrom : ByteArray := prog_7_method_2_code
def yX5_lengthFrom : MethodName := ⟨RX5, "lengthFrom", "(LCorpusline$Part;LCorpusline$Side;IIZ)I"⟩
abbrev cX5_isWholeBehind : ByteArray := prog_7_method_3_code
def yX5_isWholeBehind : MethodName := ⟨RX5, "isWholeBehind", "(LCorpusline$Part;LCorpusline$Side;I)Z"⟩
abbrev cX5_addWaysThrough : ByteArray := prog_7_method_4_code
def yX5_addWaysThrough : MethodName := ⟨RX5, "addWaysThrough", "(LCorpusline$Part;ILCorpusline$Side;II)I"⟩
abbrev cX5_nextsOf : ByteArray := prog_7_method_5_code
def yX5_nextsOf : MethodName := ⟨RX5, "nextsOf", "(LCorpusline$Part;I)I"⟩
abbrev cX5_isSpareWay : ByteArray := prog_7_method_6_code
def yX5_isSpareWay : MethodName := ⟨RX5, "isSpareWay", "(III)Z"⟩
def RX6 : String := "Corpusline"
def TX6 : u_T := fun k => match k with
  | 0 => ("Corpusline", "sides", "[LCorpusline$Side;", true)
  | 1 => ("Corpusline", "pairCount", "I", false)
  | 2 => ("Corpusline", "pile", "[LCorpusline$Part;", true)
  | 3 => ("Corpusline", "pileCount", "I", false)
  | 4 => ("Corpusline", "patterns", "[LCorpusline$Part;", true)
  | 5 => ("Corpusline", "patternCount", "I", false)
  | 6 => ("Corpusline", "results", "[LCorpusline$Result;", true)
  | 7 => ("Corpusline", "walker", "LCorpusline$Walker;", true)
  | _ => ("Corpusline", "groupCounts", "[I", true)
def tyX6 : Nat → FieldType := fun k => match k with
  | 0 => .array (.object "Corpusline$Side")
  | 1 => .int
  | 2 => .array (.object "Corpusline$Part")
  | 3 => .int
  | 4 => .array (.object "Corpusline$Part")
  | 5 => .int
  | 6 => .array (.object "Corpusline$Result")
  | 7 => .object "Corpusline$Walker"
  | _ => .array .int
theorem nmX6 : ∀ a, a < 9 → ∀ b, b < 9 → a ≠ b → (TX6 a).2.1 ≠ (TX6 b).2.1 := by decide +kernel
theorem tyX6_ok : ∀ k, k < 9 → parseFieldDescriptor (TX6 k).2.2.1 = some (tyX6 k) := by decide +kernel
abbrev cX6_init : ByteArray := prog_1_method_1_code
def yX6_init : MethodName := ⟨RX6, "<init>", "()V"⟩
abbrev cX6_token : ByteArray := prog_1_method_2_code
def yX6_token : MethodName := ⟨RX6, "token", "(IIII)I"⟩
abbrev cX6_end : ByteArray := prog_1_method_3_code
def yX6_end : MethodName := ⟨RX6, "end", "(IZ)I"⟩
abbrev cX6_align : ByteArray := prog_1_method_4_code
def yX6_align : MethodName := ⟨RX6, "align", "(II)I"⟩
abbrev cX6_tokens : ByteArray := prog_1_method_5_code
def yX6_tokens : MethodName := ⟨RX6, "tokens", "(I)I"⟩
abbrev cX6_sentenceOf : ByteArray := prog_1_method_6_code
def yX6_sentenceOf : MethodName := ⟨RX6, "sentenceOf", "(II)I"⟩
abbrev cX6_occurs : ByteArray := prog_1_method_7_code
def yX6_occurs : MethodName := ⟨RX6, "occurs", "(III)I"⟩
abbrev cX6_test : ByteArray := prog_1_method_8_code
def yX6_test : MethodName := ⟨RX6, "test", "(IIZ)I"⟩
abbrev cX6_any : ByteArray := prog_1_method_9_code
def yX6_any : MethodName := ⟨RX6, "any", "()I"⟩
abbrev cX6_same : ByteArray := prog_1_method_10_code
def yX6_same : MethodName := ⟨RX6, "same", "(II)I"⟩
abbrev cX6_label : ByteArray := prog_1_method_11_code
def yX6_label : MethodName := ⟨RX6, "label", "(I)V"⟩
abbrev cX6_both : ByteArray := prog_1_method_12_code
def yX6_both : MethodName := ⟨RX6, "both", "()I"⟩
abbrev cX6_chain : ByteArray := prog_1_method_13_code
def yX6_chain : MethodName := ⟨RX6, "chain", "()I"⟩
abbrev cX6_either : ByteArray := prog_1_method_14_code
def yX6_either : MethodName := ⟨RX6, "either", "()I"⟩
abbrev cX6_repeat : ByteArray := prog_1_method_15_code
def yX6_repeat : MethodName := ⟨RX6, "repeat", "(II)I"⟩
abbrev cX6_keep : ByteArray := prog_1_method_16_code
def yX6_keep : MethodName := ⟨RX6, "keep", "()I"⟩
abbrev cX6_wipe : ByteArray := prog_1_method_17_code
def yX6_wipe : MethodName := ⟨RX6, "wipe", "()I"⟩
abbrev cX6_run : ByteArray := prog_1_method_18_code
def yX6_run : MethodName := ⟨RX6, "run", "(IIIIZ)I"⟩
abbrev cX6_walk : ByteArray := prog_1_method_19_code
def yX6_walk : MethodName := ⟨RX6, "walk", "(IIIZ)I"⟩
abbrev cX6_join : ByteArray := prog_1_method_20_code
def yX6_join : MethodName := ⟨RX6, "join", "(III)I"⟩
abbrev cX6_thin : ByteArray := prog_1_method_21_code
def yX6_thin : MethodName := ⟨RX6, "thin", "(I)I"⟩
abbrev cX6_aligned : ByteArray := prog_1_method_22_code
def yX6_aligned : MethodName := ⟨RX6, "aligned", "(IIZ)I"⟩
abbrev cX6_drop : ByteArray := prog_1_method_23_code
def yX6_drop : MethodName := ⟨RX6, "drop", "(I)I"⟩
abbrev cX6_size : ByteArray := prog_1_method_24_code
def yX6_size : MethodName := ⟨RX6, "size", "(I)I"⟩
abbrev cX6_match : ByteArray := prog_1_method_25_code
def yX6_match : MethodName := ⟨RX6, "match", "(II)I"⟩
abbrev cX6_groups : ByteArray := prog_1_method_26_code
def yX6_groups : MethodName := ⟨RX6, "groups", "(IIZ)I"⟩
abbrev cX6_groupAt : ByteArray := prog_1_method_27_code
def yX6_groupAt : MethodName := ⟨RX6, "groupAt", "(IIZI)I"⟩
abbrev cX6_demandRange : ByteArray := prog_1_method_28_code
def yX6_demandRange : MethodName := ⟨RX6, "demandRange", "(III)V"⟩
abbrev cX6_knownSide : ByteArray := prog_1_method_29_code
def yX6_knownSide : MethodName := ⟨RX6, "knownSide", "(I)LCorpusline$Side;"⟩
abbrev cX6_knownPattern : ByteArray := prog_1_method_30_code
def yX6_knownPattern : MethodName := ⟨RX6, "knownPattern", "(I)LCorpusline$Part;"⟩
abbrev cX6_isResult : ByteArray := prog_1_method_31_code
def yX6_isResult : MethodName := ⟨RX6, "isResult", "(I)Z"⟩
abbrev cX6_knownResult : ByteArray := prog_1_method_32_code
def yX6_knownResult : MethodName := ⟨RX6, "knownResult", "(I)LCorpusline$Result;"⟩
abbrev cX6_testsOnPile : ByteArray := prog_1_method_33_code
def yX6_testsOnPile : MethodName := ⟨RX6, "testsOnPile", "()I"⟩
abbrev cX6_demandRoomForTest : ByteArray := prog_1_method_34_code
def yX6_demandRoomForTest : MethodName := ⟨RX6, "demandRoomForTest", "()V"⟩
abbrev cX6_partFromTop : ByteArray := prog_1_method_35_code
def yX6_partFromTop : MethodName := ⟨RX6, "partFromTop", "(I)LCorpusline$Part;"⟩
abbrev cX6_testFromTop : ByteArray := prog_1_method_36_code
def yX6_testFromTop : MethodName := ⟨RX6, "testFromTop", "(I)LCorpusline$TokenTest;"⟩
abbrev cX6_push : ByteArray := prog_1_method_37_code
def yX6_push : MethodName := ⟨RX6, "push", "(LCorpusline$Part;)I"⟩
abbrev cX6_pop : ByteArray := prog_1_method_38_code
def yX6_pop : MethodName := ⟨RX6, "pop", "(I)V"⟩
abbrev cX6_joined : ByteArray := prog_1_method_39_code
def yX6_joined : MethodName := ⟨RX6, "joined", "(III)I"⟩
abbrev cX6_sentencesWith : ByteArray := prog_1_method_40_code
def yX6_sentencesWith : MethodName := ⟨RX6, "sentencesWith", "(LCorpusline$Part;LCorpusline$Side;)J"⟩
abbrev cX6_countGroups : ByteArray := prog_1_method_41_code
def yX6_countGroups : MethodName := ⟨RX6, "countGroups", "(LCorpusline$Result;IZ)V"⟩
abbrev cX6_groupsAheadOf : ByteArray := prog_1_method_42_code
def yX6_groupsAheadOf : MethodName := ⟨RX6, "groupsAheadOf", "(I)I"⟩
def RX7 : String := "CorpuslineModel"
def TX7 : u_T := fun k => match k with
  | _ => ("", "", "", false)
def tyX7 : Nat → FieldType := fun k => match k with
  | _ => .int
theorem nmX7 : ∀ a, a < 0 → ∀ b, b < 0 → a ≠ b → (TX7 a).2.1 ≠ (TX7 b).2.1 := by decide +kernel
theorem tyX7_ok : ∀ k, k < 0 → parseFieldDescriptor (TX7 k).2.2.1 = some (tyX7 k) := by decide +kernel
def RJ6 : String := "java/lang/Integer"
def TJ6 : u_T := fun k => match k with
  | _ => ("", "", "", false)
def tyJ6 : Nat → FieldType := fun k => match k with
  | _ => .int
theorem nmJ6 : ∀ a, a < 0 → ∀ b, b < 0 → a ≠ b → (TJ6 a).2.1 ≠ (TJ6 b).2.1 := by decide +kernel
theorem tyJ6_ok : ∀ k, k < 0 → parseFieldDescriptor (TJ6 k).2.2.1 = some (tyJ6 k) := by decide +kernel
abbrev cJ6_highestOneBit_0f7a4 : ByteArray := prog_14_method_45_code
def yJ6_highestOneBit_0f7a4 : MethodName := ⟨RJ6, "highestOneBit", "(I)I"⟩
abbrev cJ6_numberOfLeadingZeros_0f7a4 : ByteArray := prog_14_method_47_code
def yJ6_numberOfLeadingZeros_0f7a4 : MethodName := ⟨RJ6, "numberOfLeadingZeros", "(I)I"⟩
abbrev cJ6_numberOfTrailingZeros_0f7a4 : ByteArray := prog_14_method_48_code
def yJ6_numberOfTrailingZeros_0f7a4 : MethodName := ⟨RJ6, "numberOfTrailingZeros", "(I)I"⟩
abbrev cJ6_bitCount_0f7a4 : ByteArray := prog_14_method_49_code
def yJ6_bitCount_0f7a4 : MethodName := ⟨RJ6, "bitCount", "(I)I"⟩
def RJ0 : String := "java/lang/String"
def TJ0 : u_T := fun k => match k with
  | _ => ("", "", "", false)
def tyJ0 : Nat → FieldType := fun k => match k with
  | _ => .int
theorem nmJ0 : ∀ a, a < 0 → ∀ b, b < 0 → a ≠ b → (TJ0 a).2.1 ≠ (TJ0 b).2.1 := by decide +kernel
theorem tyJ0_ok : ∀ k, k < 0 → parseFieldDescriptor (TJ0 k).2.2.1 = some (tyJ0 k) := by decide +kernel
def RL : String := "CorpuslineLaw"
abbrev cL_draw : ByteArray := method_2_code
def yL_draw : MethodName := ⟨RL, "draw", "([II)I"⟩
abbrev cL_ofTest : ByteArray := method_3_code
def yL_ofTest : MethodName := ⟨RL, "ofTest", "(LCorpusline;III)I"⟩
abbrev cL_ofRepeat : ByteArray := method_4_code
def yL_ofRepeat : MethodName := ⟨RL, "ofRepeat", "(LCorpusline;II)I"⟩
abbrev cL_ofBoth : ByteArray := method_5_code
def yL_ofBoth : MethodName := ⟨RL, "ofBoth", "(LCorpusline;)I"⟩
abbrev cL_isLabelled : ByteArray := method_6_code
def yL_isLabelled : MethodName := ⟨RL, "isLabelled", "(LCorpusline;I)Z"⟩
abbrev cL_builds : ByteArray := method_7_code
def yL_builds : MethodName := ⟨RL, "builds", "(LCorpusline;[III)Z"⟩
abbrev cL_step : ByteArray := method_8_code
def yL_step : MethodName := ⟨RL, "step", "(LCorpusline;[IIII)Z"⟩
abbrev cL_runs : ByteArray := method_9_code
def yL_runs : MethodName := ⟨RL, "runs", "(LCorpusline;[IIIIIZ)Z"⟩
abbrev cL_joins : ByteArray := method_10_code
def yL_joins : MethodName := ⟨RL, "joins", "(LCorpusline;[IIII)Z"⟩
abbrev cL_thins : ByteArray := method_11_code
def yL_thins : MethodName := ⟨RL, "thins", "(LCorpusline;[II)Z"⟩
abbrev cL_groups : ByteArray := method_12_code
def yL_groups : MethodName := ⟨RL, "groups", "(LCorpusline;IIZ)Z"⟩
abbrev cL_law : ByteArray := code
def yL_law : MethodName := ⟨RL, "law", "([I)Z"⟩
abbrev vwCl : List vw_C := [(RX0, TX0, 7), (RX1, TX1, 3), (RX3, TX3, 7), (RX4, TX4, 3), (RX5, TX5, 3), (RX6, TX6, 9)]
/-- the good words of the tables -/
def TB : List Cond := lw_tbl.filter goodWord
theorem tb_of (i : Nat) {w : Cond} (h : tables_1[i]? = some w) (hg : goodWord w = true) : w ∈ TB :=
  List.mem_filter.mpr ⟨List.mem_append_right _ (List.mem_of_getElem? h), hg⟩
theorem tb_sel (i : Nat) {w : Cond} (h : (k2_sels lw_privs)[i]? = some w) (hg : goodWord w = true) : w ∈ TB :=
  List.mem_filter.mpr ⟨List.mem_append_left _ (List.mem_of_getElem? h), hg⟩
theorem tb_good {w : Cond} (h : w ∈ TB) : goodWord w = true := (List.mem_filter.mp h).2
theorem tb_in {w : Cond} (h : w ∈ TB) : w ∈ lw_tbl := (List.mem_filter.mp h).1
/-- an instruction, its length, and where the next one is -/
def dn (cc : ByteArray) (pc : Nat) (ig : Instr) (k n : Nat) : Prop := decode cc pc = .ok (ig, k) ∧ pc + k = n
def dnL (cc : ByteArray) (L : List (Nat × Instr × Nat)) : Bool := L.all (fun q => decide (decode cc q.1 = .ok q.2))
theorem dnL_mem {cc : ByteArray} {L : List (Nat × Instr × Nat)} (h : dnL cc L = true) (q : Nat × Instr × Nat) (hq : q ∈ L) : decode cc q.1 = .ok q.2 := by
  unfold dnL at h
  rw [List.all_eq_true] at h
  have h1 := h q hq
  rw [decide_eq_true_eq] at h1
  exact h1
theorem dnAt {cc : ByteArray} {L : List (Nat × Instr × Nat)} (h : dnL cc L = true) (i : Nat) {pc n k : Nat} {ig : Instr} (hi : L[i]? = some (pc, ig, k)) (hn : pc + k = n) : dn cc pc ig k n :=
  And.intro (dnL_mem h (pc, ig, k) (List.mem_of_getElem? hi)) hn
