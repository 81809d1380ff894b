/-! What the tables of part 02 say of the real bytecode. -/
def am_nL : List MethodName := [⟨"LargeBubble$Blower", "<init>", "(IIIII)V"⟩, ⟨"LargeBubble$Blower", "tellLetters", "([I)V"⟩, ⟨"LargeBubble$Blower", "keepIn", "([I)V"⟩, ⟨"LargeBubble$Blower", "takeFrom", "([I)V"⟩, ⟨"LargeBubble$Blower", "pace", "(I)I"⟩, ⟨"LargeBubble$Blower", "shuts", "(LLargeBubble$Course;)Z"⟩, ⟨"LargeBubble$Blower", "opens", "(I[I)I"⟩, ⟨"LargeBubble$Blower", "grows", "(I[I)I"⟩, ⟨"LargeBubble$Blower", "tells", "(I[I)I"⟩, ⟨"LargeBubble$Blower", "note", "(I[I)V"⟩, ⟨"LargeBubble$Bold", "<init>", "(IIIII)V"⟩, ⟨"LargeBubble$Bold", "shuts", "(LLargeBubble$Course;)Z"⟩, ⟨"LargeBubble$Bold", "grows", "(I[I)I"⟩, ⟨"LargeBubble$Careful", "<init>", "(IIIII)V"⟩, ⟨"LargeBubble$Careful", "shuts", "(LLargeBubble$Course;)Z"⟩, ⟨"LargeBubble$Careful", "opens", "(I[I)I"⟩, ⟨"LargeBubble$Course", "<init>", "()V"⟩, ⟨"LargeBubble$Course", "run", "(LLargeBubble$Blower;)V"⟩, ⟨"LargeBubble$Course", "walk", "(LLargeBubble$Blower;)V"⟩, ⟨"LargeBubble$Course", "free", "()V"⟩, ⟨"LargeBubble$Course", "tear", "()V"⟩, ⟨"LargeBubble$Course", "look", "(II)I"⟩, ⟨"LargeBubble$Mad", "<init>", "(IIIII)V"⟩, ⟨"LargeBubble$Mad", "pace", "(I)I"⟩, ⟨"LargeBubble$Mad", "shuts", "(LLargeBubble$Course;)Z"⟩, ⟨"LargeBubble$Mad", "opens", "(I[I)I"⟩, ⟨"LargeBubble$Mad", "grows", "(I[I)I"⟩, ⟨"LargeBubble$Slow", "<init>", "(IIIII)V"⟩, ⟨"LargeBubble$Slow", "pace", "(I)I"⟩, ⟨"LargeBubble$Slow", "tells", "(I[I)I"⟩, ⟨"LargeBubble$Square", "<init>", "()V"⟩, ⟨"LargeBubble$Square", "empty", "()V"⟩, ⟨"LargeBubble$Square", "add", "(III)V"⟩, ⟨"LargeBubble$Square", "close", "(II)V"⟩, ⟨"LargeBubble$Square", "together", "(I[II)I"⟩, ⟨"LargeBubble$Square", "isSo", "(II[I)Z"⟩, ⟨"LargeBubble$State", "<init>", "()V"⟩, ⟨"LargeBubble$State", "good", "()I"⟩, ⟨"LargeBubble$State", "goodOf", "(III)I"⟩, ⟨"LargeBubble$State", "copy", "(LLargeBubble$State;)V"⟩, ⟨"LargeBubble$State", "keepBlowers", "()V"⟩, ⟨"LargeBubble$State", "giveBackToBlowers", "()V"⟩, ⟨"LargeBubble$Text", "<init>", "()V"⟩, ⟨"LargeBubble$Text", "isFull", "()Z"⟩, ⟨"LargeBubble$Text", "add", "(I)V"⟩, ⟨"LargeBubble$Text", "readInto", "(LLargeBubble$Square;)Z"⟩, ⟨"LargeBubble$Text", "readClause", "(LLargeBubble$Square;)Z"⟩, ⟨"LargeBubble$Text", "readWord", "()I"⟩, ⟨"LargeBubble$Text", "passWord", "(Ljava/lang/String;)Z"⟩, ⟨"LargeBubble$Text", "readNumber", "()I"⟩, ⟨"LargeBubble$Text", "readEither", "(LLargeBubble$Square;I)Z"⟩, ⟨"LargeBubble$Text", "readBoth", "(LLargeBubble$Square;I)Z"⟩, ⟨"LargeBubble$Text", "readPart", "(LLargeBubble$Square;I)Z"⟩, ⟨"LargeBubble$Text", "readTest", "(LLargeBubble$Square;)Z"⟩, ⟨"LargeBubble$Text", "readOneOf", "(Ljava/lang/String;)I"⟩, ⟨"LargeBubble$Text", "passSign", "(I)Z"⟩, ⟨"LargeBubble$Text", "peek", "()I"⟩, ⟨"LargeBubble$Told", "<init>", "(IIIII)V"⟩, ⟨"LargeBubble$Told", "keepIn", "([I)V"⟩, ⟨"LargeBubble$Told", "takeFrom", "([I)V"⟩, ⟨"LargeBubble$Told", "shuts", "(LLargeBubble$Course;)Z"⟩, ⟨"LargeBubble$Told", "grows", "(I[I)I"⟩, ⟨"LargeBubble$Told", "opens", "(I[I)I"⟩, ⟨"LargeBubble$Wise", "<init>", "(IIIII)V"⟩, ⟨"LargeBubble$Wise", "shuts", "(LLargeBubble$Course;)Z"⟩, ⟨"LargeBubble$Wise", "tells", "(I[I)I"⟩, ⟨"LargeBubble", "<init>", "()V"⟩, ⟨"LargeBubble", "blower", "(IIII)I"⟩, ⟨"LargeBubble", "of", "(II)I"⟩, ⟨"LargeBubble", "set", "(III)I"⟩, ⟨"LargeBubble", "mix", "(II)I"⟩, ⟨"LargeBubble", "row", "(III)I"⟩, ⟨"LargeBubble", "feed", "(I)I"⟩, ⟨"LargeBubble", "square", "()I"⟩, ⟨"LargeBubble", "told", "(I)I"⟩, ⟨"LargeBubble", "pause", "(I)I"⟩, ⟨"LargeBubble", "go", "(I)I"⟩, ⟨"LargeBubble", "would", "(II)I"⟩, ⟨"LargeBubble", "aim", "(II)I"⟩, ⟨"LargeBubble", "cord", "(II)I"⟩, ⟨"LargeBubble", "best", "(II)I"⟩, ⟨"LargeBubble", "when", "(II)I"⟩, ⟨"LargeBubble", "day", "(II)I"⟩, ⟨"LargeBubble", "most", "(I)I"⟩, ⟨"LargeBubble", "longest", "(II)I"⟩, ⟨"LargeBubble", "see", "(III)I"⟩, ⟨"LargeBubble", "was", "()I"⟩, ⟨"LargeBubble", "calm", "(I)I"⟩, ⟨"LargeBubble", "odds", "(II)J"⟩, ⟨"LargeBubble", "mean", "(II)J"⟩, ⟨"LargeBubble", "book", "(IZ)I"⟩, ⟨"LargeBubble", "looked", "()I"⟩, ⟨"LargeBubble", "judge", "(II)I"⟩, ⟨"LargeBubble", "image", "()I"⟩, ⟨"LargeBubble", "undo", "()I"⟩, ⟨"LargeBubble", "act", "(III)I"⟩, ⟨"LargeBubble", "trace", "(I)I"⟩, ⟨"LargeBubble", "taken", "(II)I"⟩, ⟨"LargeBubble", "count", "(I)I"⟩, ⟨"LargeBubble", "tape", "(III)I"⟩, ⟨"LargeBubble", "item", "(IIJ)I"⟩, ⟨"LargeBubble", "read", "(II)J"⟩, ⟨"LargeBubble", "shift", "(IIIII)I"⟩, ⟨"LargeBubble", "within", "(III)Z"⟩, ⟨"LargeBubble", "find", "(I)LLargeBubble$Blower;"⟩, ⟨"LargeBubble", "made", "(IIIII)LLargeBubble$Blower;"⟩, ⟨"LargeBubble", "isOfKind", "(LLargeBubble$Blower;I)Z"⟩, ⟨"LargeBubble", "begin", "(LLargeBubble$Blower;)V"⟩, ⟨"LargeBubble", "runAhead", "(LLargeBubble$Blower;I)V"⟩, ⟨"LargeBubble", "bestBy", "(IIIII)I"⟩, ⟨"LargeBubble", "vary", "(II)V"⟩, ⟨"LargeBubble", "runDay", "(I)V"⟩, ⟨"LargeBubble", "isAllSeenBy", "(I)Z"⟩, ⟨"LargeBubble", "lowest", "(III)I"⟩, ⟨"LargeBubble", "isTape", "(I)Z"⟩, ⟨"LargeBubble", "holds", "(I)Z"⟩, ⟨"LargeBubble", "hasPlaces", "(III)Z"⟩, ⟨"LargeBubble", "asItem", "(IJ)J"⟩, ⟨"LargeBubbleModel", "<init>", "()V"⟩, ⟨"LargeBubbleModel", "in", "(III)Z"⟩, ⟨"LargeBubbleModel", "isBlower", "(I)Z"⟩, ⟨"LargeBubbleModel", "blower", "(IIII)I"⟩, ⟨"LargeBubbleModel", "of", "(II)I"⟩, ⟨"LargeBubbleModel", "set", "(III)I"⟩, ⟨"LargeBubbleModel", "mix", "(II)I"⟩, ⟨"LargeBubbleModel", "row", "(III)I"⟩, ⟨"LargeBubbleModel", "feed", "(I)I"⟩, ⟨"LargeBubbleModel", "next", "()I"⟩, ⟨"LargeBubbleModel", "takes", "(I)Z"⟩, ⟨"LargeBubbleModel", "takesWord", "(II)Z"⟩, ⟨"LargeBubbleModel", "isDigit", "()Z"⟩, ⟨"LargeBubbleModel", "takesNumber", "()Z"⟩, ⟨"LargeBubbleModel", "emits", "(I)V"⟩, ⟨"LargeBubbleModel", "whole", "()V"⟩, ⟨"LargeBubbleModel", "settle", "(I)V"⟩, ⟨"LargeBubbleModel", "place", "(I)I"⟩, ⟨"LargeBubbleModel", "takesTest", "()Z"⟩, ⟨"LargeBubbleModel", "takesE", "(I)Z"⟩, ⟨"LargeBubbleModel", "takesHead", "(I)Z"⟩, ⟨"LargeBubbleModel", "takesClause", "(I)Z"⟩, ⟨"LargeBubbleModel", "goesText", "(I)Z"⟩, ⟨"LargeBubbleModel", "square", "()I"⟩, ⟨"LargeBubbleModel", "begin", "()I"⟩, ⟨"LargeBubbleModel", "behind", "()I"⟩, ⟨"LargeBubbleModel", "factOf", "(II)I"⟩, ⟨"LargeBubbleModel", "holds", "(II)Z"⟩, ⟨"LargeBubbleModel", "sumOf", "(III)I"⟩, ⟨"LargeBubbleModel", "apart", "(II)I"⟩, ⟨"LargeBubbleModel", "least", "(II)I"⟩, ⟨"LargeBubbleModel", "most", "(II)I"⟩, ⟨"LargeBubbleModel", "good", "()I"⟩, ⟨"LargeBubbleModel", "told", "(I)I"⟩, ⟨"LargeBubbleModel", "pause", "(I)I"⟩, ⟨"LargeBubbleModel", "paceOf", "(I)I"⟩, ⟨"LargeBubbleModel", "shuts", "(II)Z"⟩, ⟨"LargeBubbleModel", "ends", "(I)V"⟩, ⟨"LargeBubbleModel", "least2", "(J)J"⟩, ⟨"LargeBubbleModel", "goes", "(II)V"⟩, ⟨"LargeBubbleModel", "go", "(I)I"⟩, ⟨"LargeBubbleModel", "would", "(II)I"⟩, ⟨"LargeBubbleModel", "brings", "(II)I"⟩, ⟨"LargeBubbleModel", "aim", "(II)I"⟩, ⟨"LargeBubbleModel", "cord", "(II)I"⟩, ⟨"LargeBubbleModel", "best", "(II)I"⟩, ⟨"LargeBubbleModel", "when", "(II)I"⟩, ⟨"LargeBubbleModel", "layDay", "(I)V"⟩, ⟨"LargeBubbleModel", "day", "(II)I"⟩, ⟨"LargeBubbleModel", "most", "(I)I"⟩, ⟨"LargeBubbleModel", "longest", "(II)I"⟩, ⟨"LargeBubbleModel", "see", "(III)I"⟩, ⟨"LargeBubbleModel", "isSeen", "(I)Z"⟩, ⟨"LargeBubbleModel", "was", "()I"⟩, ⟨"LargeBubbleModel", "calm", "(I)I"⟩, ⟨"LargeBubbleModel", "divisor", "(JJ)J"⟩, ⟨"LargeBubbleModel", "lowest", "(JJI)J"⟩, ⟨"LargeBubbleModel", "odds", "(II)J"⟩, ⟨"LargeBubbleModel", "mean", "(II)J"⟩, ⟨"LargeBubbleModel", "book", "(IZ)I"⟩, ⟨"LargeBubbleModel", "looked", "()I"⟩, ⟨"LargeBubbleModel", "judge", "(II)I"⟩, ⟨"LargeBubbleModel", "image", "()I"⟩, ⟨"LargeBubbleModel", "undo", "()I"⟩, ⟨"LargeBubbleModel", "body", "(I)V"⟩, ⟨"LargeBubbleModel", "blowerOpens", "(II)I"⟩, ⟨"LargeBubbleModel", "opensAct", "(II)I"⟩, ⟨"LargeBubbleModel", "blowerGrows", "(II)I"⟩, ⟨"LargeBubbleModel", "boldGrows", "(II)I"⟩, ⟨"LargeBubbleModel", "growsAct", "(II)I"⟩, ⟨"LargeBubbleModel", "blowerTells", "(II)I"⟩, ⟨"LargeBubbleModel", "tellsAct", "(II)I"⟩, ⟨"LargeBubbleModel", "act", "(III)I"⟩, ⟨"LargeBubbleModel", "trace", "(I)I"⟩, ⟨"LargeBubbleModel", "taken", "(II)I"⟩, ⟨"LargeBubbleModel", "count", "(I)I"⟩, ⟨"LargeBubbleModel", "isTape", "(I)Z"⟩, ⟨"LargeBubbleModel", "tape", "(III)I"⟩, ⟨"LargeBubbleModel", "narrow", "(IJ)J"⟩, ⟨"LargeBubbleModel", "item", "(IIJ)I"⟩, ⟨"LargeBubbleModel", "read", "(II)J"⟩, ⟨"LargeBubbleModel", "shift", "(IIIII)I"⟩, ⟨"java/lang/Math", "abs", "(I)I"⟩, ⟨"java/lang/Math", "max", "(II)I"⟩, ⟨"java/lang/Math", "min", "(II)I"⟩, ⟨"java/lang/Math", "floorMod", "(II)I"⟩, ⟨"java/lang/String", "length", "()I"⟩, ⟨"java/lang/String", "coder", "()B"⟩, ⟨"java/lang/String", "charAt", "(I)C"⟩, ⟨"java/lang/String", "isLatin1", "()Z"⟩, ⟨"java/lang/StringLatin1", "charAt", "([BI)C"⟩, ⟨"java/lang/String", "checkIndex", "(II)V"⟩, ⟨"jdk/internal/util/Preconditions", "checkIndex", "(IILjava/util/function/BiFunction;)I"⟩, ⟨"LargeBubbleLaw", "law", "([I)Z"⟩]
def am_N (m : Nat) : MethodName := am_nL.getD m ⟨"", "", ""⟩
def am_bL : List ByteArray := [prog_2_method_1_code, prog_2_method_2_code, prog_2_method_3_code, prog_2_method_4_code, prog_2_method_5_code, prog_2_method_6_code, prog_2_method_7_code, prog_2_method_8_code, prog_2_method_9_code, prog_2_method_10_code, prog_3_method_1_code, prog_3_method_2_code, prog_3_method_3_code, prog_4_method_1_code, prog_4_method_2_code, prog_4_method_3_code, prog_5_method_1_code, prog_5_method_2_code, prog_5_method_3_code, prog_5_method_4_code, prog_5_method_5_code, prog_5_method_6_code, prog_6_method_1_code, prog_6_method_2_code, prog_6_method_3_code, prog_6_method_4_code, prog_6_method_5_code, prog_7_method_1_code, prog_7_method_2_code, prog_7_method_3_code, prog_8_method_1_code, prog_8_method_2_code, prog_8_method_3_code, prog_8_method_4_code, prog_8_method_5_code, prog_8_method_6_code, prog_9_method_1_code, prog_9_method_2_code, prog_9_method_3_code, prog_9_method_4_code, prog_9_method_5_code, prog_9_method_6_code, prog_10_method_1_code, prog_10_method_2_code, prog_10_method_3_code, prog_10_method_4_code, prog_10_method_5_code, prog_10_method_6_code, prog_10_method_7_code, prog_10_method_8_code, prog_10_method_9_code, prog_10_method_10_code, prog_10_method_11_code, prog_10_method_12_code, prog_10_method_13_code, prog_10_method_14_code, prog_10_method_15_code, prog_11_method_1_code, prog_11_method_2_code, prog_11_method_3_code, prog_11_method_4_code, prog_11_method_5_code, prog_11_method_6_code, prog_12_method_1_code, prog_12_method_2_code, prog_12_method_3_code, prog_1_method_1_code, prog_1_method_2_code, prog_1_method_3_code, prog_1_method_4_code, prog_1_method_5_code, prog_1_method_6_code, prog_1_method_7_code, prog_1_method_8_code, prog_1_method_9_code, prog_1_method_10_code, prog_1_method_11_code, prog_1_method_12_code, prog_1_method_13_code, prog_1_method_14_code, prog_1_method_15_code, prog_1_method_16_code, prog_1_method_17_code, prog_1_method_18_code, prog_1_method_19_code, prog_1_method_20_code, prog_1_method_21_code, prog_1_method_22_code, prog_1_method_23_code, prog_1_method_24_code, prog_1_method_25_code, prog_1_method_26_code, prog_1_method_27_code, prog_1_method_28_code, prog_1_method_29_code, prog_1_method_30_code, prog_1_method_31_code, prog_1_method_32_code, prog_1_method_33_code, prog_1_method_34_code, prog_1_method_35_code, prog_1_method_36_code, prog_1_method_37_code, prog_1_method_38_code, prog_1_method_39_code, prog_1_method_40_code, prog_1_method_41_code, prog_1_method_42_code, prog_1_method_43_code, prog_1_method_44_code, prog_1_method_45_code, prog_1_method_46_code, prog_1_method_47_code, prog_1_method_48_code, prog_1_method_49_code, prog_1_method_50_code, prog_1_method_51_code, prog_1_method_52_code, prog_14_method_1_code, prog_14_method_2_code, prog_14_method_3_code, prog_14_method_4_code, prog_14_method_5_code, prog_14_method_6_code, prog_14_method_7_code, prog_14_method_8_code, prog_14_method_9_code, prog_14_method_10_code, prog_14_method_11_code, prog_14_method_12_code, prog_14_method_13_code, prog_14_method_14_code, prog_14_method_15_code, prog_14_method_16_code, prog_14_method_17_code, prog_14_method_18_code, prog_14_method_19_code, prog_14_method_20_code, prog_14_method_21_code, prog_14_method_22_code, prog_14_method_23_code, prog_14_method_24_code, prog_14_method_25_code, prog_14_method_26_code, prog_14_method_27_code, prog_14_method_28_code, prog_14_method_29_code, prog_14_method_30_code, prog_14_method_31_code, prog_14_method_32_code, prog_14_method_33_code, prog_14_method_34_code, prog_14_method_35_code, prog_14_method_36_code, prog_14_method_37_code, prog_14_method_38_code, prog_14_method_39_code, prog_14_method_40_code, prog_14_method_41_code, prog_14_method_42_code, prog_14_method_43_code, prog_14_method_44_code, prog_14_method_45_code, prog_14_method_46_code, prog_14_method_47_code, prog_14_method_48_code, prog_14_method_49_code, prog_14_method_50_code, prog_14_method_51_code, prog_14_method_52_code, prog_14_method_53_code, prog_14_method_54_code, prog_14_method_55_code, prog_14_method_56_code, prog_14_method_57_code, prog_14_method_58_code, prog_14_method_59_code, prog_14_method_60_code, prog_14_method_61_code, prog_14_method_62_code, prog_14_method_63_code, prog_14_method_64_code, prog_14_method_65_code, prog_14_method_66_code, prog_14_method_67_code, prog_14_method_68_code, prog_14_method_69_code, prog_14_method_70_code, prog_14_method_71_code, prog_14_method_72_code, prog_14_method_73_code, prog_14_method_74_code, prog_14_method_75_code, prog_14_method_76_code, prog_14_method_77_code, prog_14_method_78_code, prog_14_method_79_code, prog_14_method_80_code, prog_14_method_81_code, prog_14_method_82_code, prog_15_method_59_code, prog_15_method_65_code, prog_15_method_69_code, prog_15_method_50_code, prog_16_method_54_code, prog_16_method_152_code, prog_16_method_56_code, prog_16_method_154_code, prog_17_method_2_code, prog_16_method_155_code, prog_20_method_11_code, code]
def am_B (m : Nat) : ByteArray := am_bL.getD m ⟨#[]⟩
def am_rL : List (Option FieldType) := [none, none, none, none, (some .int), (some .boolean), (some .int), (some .int), (some .int), none, none, (some .boolean), (some .int), none, (some .boolean), (some .int), none, none, none, none, none, (some .int), none, (some .int), (some .boolean), (some .int), (some .int), none, (some .int), (some .int), none, none, none, none, (some .int), (some .boolean), none, (some .int), (some .int), none, none, none, none, (some .boolean), none, (some .boolean), (some .boolean), (some .int), (some .boolean), (some .int), (some .boolean), (some .boolean), (some .boolean), (some .boolean), (some .int), (some .boolean), (some .int), none, none, none, (some .boolean), (some .int), (some .int), none, (some .boolean), (some .int), none, (some .int), (some .int), (some .int), (some .int), (some .int), (some .int), (some .int), (some .int), (some .int), (some .int), (some .int), (some .int), (some .int), (some .int), (some .int), (some .int), (some .int), (some .int), (some .int), (some .int), (some .int), (some .long), (some .long), (some .int), (some .int), (some .int), (some .int), (some .int), (some .int), (some .int), (some .int), (some .int), (some .int), (some .int), (some .long), (some .int), (some .boolean), (some (.object "LargeBubble$Blower")), (some (.object "LargeBubble$Blower")), (some .boolean), none, none, (some .int), none, none, (some .boolean), (some .int), (some .boolean), (some .boolean), (some .boolean), (some .long), none, (some .boolean), (some .boolean), (some .int), (some .int), (some .int), (some .int), (some .int), (some .int), (some .int), (some .boolean), (some .boolean), (some .boolean), (some .boolean), none, none, none, (some .int), (some .boolean), (some .boolean), (some .boolean), (some .boolean), (some .boolean), (some .int), (some .int), (some .int), (some .int), (some .boolean), (some .int), (some .int), (some .int), (some .int), (some .int), (some .int), (some .int), (some .int), (some .boolean), none, (some .long), none, (some .int), (some .int), (some .int), (some .int), (some .int), (some .int), (some .int), none, (some .int), (some .int), (some .int), (some .int), (some .boolean), (some .int), (some .int), (some .long), (some .long), (some .long), (some .long), (some .int), (some .int), (some .int), (some .int), (some .int), none, (some .int), (some .int), (some .int), (some .int), (some .int), (some .int), (some .int), (some .int), (some .int), (some .int), (some .int), (some .boolean), (some .int), (some .long), (some .int), (some .long), (some .int), (some .int), (some .int), (some .int), (some .int), (some .int), (some .byte), (some .char), (some .boolean), (some .char), none, (some .int), (some .boolean)]
def am_Rt (m : Nat) : Option FieldType := am_rL.getD m none
/-- the number of the kind that a method stands in -/
def am_oL : List Nat := [0, 0, 0, 0, 0, 0, 0, 0, 0, 0, 1, 1, 1, 2, 2, 2, 3, 3, 3, 3, 3, 3, 4, 4, 4, 4, 4, 5, 5, 5, 6, 6, 6, 6, 6, 6, 7, 7, 7, 7, 7, 7, 8, 8, 8, 8, 8, 8, 8, 8, 8, 8, 8, 8, 8, 8, 8, 9, 9, 9, 9, 9, 9, 10, 10, 10, 11, 11, 11, 11, 11, 11, 11, 11, 11, 11, 11, 11, 11, 11, 11, 11, 11, 11, 11, 11, 11, 11, 11, 11, 11, 11, 11, 11, 11, 11, 11, 11, 11, 11, 11, 11, 11, 11, 11, 11, 11, 11, 11, 11, 11, 11, 11, 11, 11, 11, 11, 11, 12, 12, 12, 12, 12, 12, 12, 12, 12, 12, 12, 12, 12, 12, 12, 12, 12, 12, 12, 12, 12, 12, 12, 12, 12, 12, 12, 12, 12, 12, 12, 12, 12, 12, 12, 12, 12, 12, 12, 12, 12, 12, 12, 12, 12, 12, 12, 12, 12, 12, 12, 12, 12, 12, 12, 12, 12, 12, 12, 12, 12, 12, 12, 12, 12, 12, 12, 12, 12, 12, 12, 12, 12, 12, 12, 12, 12, 12, 12, 12, 12, 12, 13, 13, 13, 13, 14, 14, 14, 14, 15, 14, 16, 17]
def am_O (m : Nat) : Nat := am_oL.getD m 99
def am_onL : List String := ["LargeBubble$Blower", "LargeBubble$Bold", "LargeBubble$Careful", "LargeBubble$Course", "LargeBubble$Mad", "LargeBubble$Slow", "LargeBubble$Square", "LargeBubble$State", "LargeBubble$Text", "LargeBubble$Told", "LargeBubble$Wise", "LargeBubble", "LargeBubbleModel", "java/lang/Math", "java/lang/String", "java/lang/StringLatin1", "jdk/internal/util/Preconditions", "LargeBubbleLaw"]
def am_on (k : Nat) : String := am_onL.getD k ""
def am_iL : List Bool := [true, false, false, false, false, false, false, false, false, false, true, false, false, true, false, false, true, false, false, false, false, false, true, false, false, false, false, true, false, false, true, false, false, false, false, false, true, false, false, false, false, false, true, false, false, false, false, false, false, false, false, false, false, false, false, false, false, true, false, false, false, false, false, true, false, false, true, false, false, false, false, false, false, false, false, false, false, false, false, false, false, false, false, false, false, false, false, false, false, false, false, false, false, false, false, false, false, false, false, false, false, false, false, false, false, false, false, false, false, false, false, false, false, false, false, false, false, false, true, false, false, false, false, false, false, false, false, false, false, false, false, false, false, false, false, false, false, false, false, false, false, false, false, false, false, false, false, false, false, false, false, false, false, false, false, false, false, false, false, false, false, false, false, false, false, false, false, false, false, false, false, false, false, false, false, false, false, false, false, false, false, false, false, false, false, false, false, false, false, false, false, false, false, false, false, false, false, false, false, false, false, false, false, false, false, false, false, false, false, false, false, false]
def am_ini (m : Nat) : Bool := am_iL.getD m false
/-- the types of the fields: 0 int, 1 boolean, 2 a reference -/
def am_fL : List (List Nat) := [[0, 0, 0, 0, 0, 0], [0, 0, 0, 0, 0, 0], [0, 0, 0, 0, 0, 0], [2, 0, 0, 0, 0, 0, 1, 0, 0, 0, 0, 0, 0, 1, 2], [0, 0, 0, 0, 0, 0], [0, 0, 0, 0, 0, 0], [2, 2, 2, 0, 2, 2, 2, 0], [2, 0, 2, 0, 0, 2, 2, 2, 0, 2, 2, 0, 2], [2, 0, 0], [0, 0, 0, 0, 0, 0, 2], [0, 0, 0, 0, 0, 0], [2, 2, 2, 2, 2, 0, 2, 2, 0, 0, 2, 2, 2, 2], [0, 0, 2, 2, 2, 2, 2, 2, 2, 0, 0, 0, 0, 0, 2, 2, 2, 2, 2, 2, 2, 2, 0, 0, 0, 2, 2, 0, 0, 0, 0, 0, 0, 0, 1, 1, 0, 2, 0, 0, 0, 2, 2, 2, 0, 2, 2, 1, 0, 0, 0, 0, 0, 2, 2, 2, 2, 2, 2, 2, 2, 2, 2, 2, 2, 0, 2, 2, 2, 2, 2]]
def am_fty (t k : Nat) : Nat := (am_fL.getD t []).getD k 0
def am_finL : List (List Bool) := [[true, true, true, false, false, false], [true, true, true, false, false, false], [true, true, true, false, false, false], [false, false, false, false, false, false, false, false, false, false, false, false, false, false, true], [true, true, true, false, false, false], [true, true, true, false, false, false], [true, true, true, false, true, true, true, false], [true, false, true, false, false, true, true, true, false, true, true, false, true], [true, false, false], [true, true, true, false, false, false, true], [true, true, true, false, false, false], [true, false, true, true, true, false, false, true, false, false, true, true, true, true], [false, false, true, true, true, true, true, true, true, false, false, false, false, false, true, true, true, true, true, true, true, true, false, false, false, true, true, false, false, false, false, false, false, false, false, false, false, true, false, false, false, true, true, true, false, true, true, false, false, false, false, false, false, true, true, true, true, true, true, true, true, true, true, true, true, false, true, true, true, true, true]]
def am_fin (t k : Nat) : Bool := (am_finL.getD t []).getD k true
def am_T (t : Nat) : u_T := (vwCl.getD t (RX0, TX0, 6)).2.1
def am_lenOf : Instr → Nat
  | .bipush _ => 2
  | .sipush _ => 3
  | .ldc _ => 2
  | .ldc_w _ => 3
  | .ldc2_w _ => 3
  | .iload _ => 2
  | .lload _ => 2
  | .aload _ => 2
  | .istore _ => 2
  | .lstore _ => 2
  | .astore _ => 2
  | .iinc _ _ => 3
  | .ifCond _ _ => 3
  | .if_icmp _ _ => 3
  | .ifnull _ => 3
  | .ifnonnull _ => 3
  | .goto _ => 3
  | .getfield _ => 3
  | .putfield _ => 3
  | .getstatic _ => 3
  | .new _ => 3
  | .anewarray _ => 3
  | .instanceof _ => 3
  | .checkcast _ => 3
  | .invokestatic _ => 3
  | .invokespecial _ => 3
  | .invokevirtual _ => 3
  | .newarray _ => 2
  | .multianewarray _ _ => 4
  | _ => 1
def am_sw : Instr → Bool
  | .tableswitch _ _ _ _ => true
  | .lookupswitch _ _ => true
  | _ => false
def am_aty (a : Nat) : ArrayType := match a with
  | 20 => .int
  | 21 => .long
  | 22 => .byte
  | _ => .boolean
/-- the real instruction j at pc is what op says -/
def am_nrm (pc : Nat) (j op : Instr) (a b : Nat) : Bool := match op with
  | .bipush v => (match j with
    | .iconst w => decide (Int32.ofInt w = Int32.ofInt v)
    | .bipush w => decide ((Int8.ofInt w).toInt32 = Int32.ofInt v)
    | .sipush w => decide ((Int16.ofInt w).toInt32 = Int32.ofInt v)
    | .ldc i => decide (i = a ∧ b = 1)
    | .ldc_w i => decide (i = a ∧ b = 2)
    | _ => false)
  | .sipush v => (match j with
    | .lconst w => decide (Int64.ofNat (w : Nat) = Int64.ofInt v)
    | .ldc2_w i => decide (i = a ∧ b = 1)
    | _ => false)
  | .iload i => (match j with
    | .iload_n k => decide ((k : Nat) = i)
    | .iload k => decide (k = i)
    | _ => false)
  | .lload i => (match j with
    | .lload_n k => decide ((k : Nat) = i)
    | .lload k => decide (k = i)
    | _ => false)
  | .aload i => (match j with
    | .aload_n k => decide ((k : Nat) = i)
    | .aload k => decide (k = i)
    | _ => false)
  | .istore i => (match j with
    | .istore_n k => decide ((k : Nat) = i)
    | .istore k => decide (k = i)
    | _ => false)
  | .lstore i => (match j with
    | .lstore_n k => decide ((k : Nat) = i)
    | .lstore k => decide (k = i)
    | _ => false)
  | .astore i => (match j with
    | .astore_n k => decide ((k : Nat) = i)
    | .astore k => decide (k = i)
    | _ => false)
  | .ifCond _ off => decide (j = op) && decide ((pc : Int) + off = (a : Int))
  | .if_icmp _ off => decide (j = op) && decide ((pc : Int) + off = (a : Int))
  | .ifnull off => decide (j = op) && decide ((pc : Int) + off = (a : Int))
  | .ifnonnull off => decide (j = op) && decide ((pc : Int) + off = (a : Int))
  | .goto off => decide (j = op) && decide ((pc : Int) + off = (a : Int))
  | .newarray t => decide (j = op) && decide (t = am_aty a ∧ 20 ≤ a ∧ a ≤ 23)
  | .tableswitch df lo hi offs => decide (j = op) && (decide (0 ≤ (pc : Int) + df) && (offs.toList.all (fun o => decide (0 ≤ (pc : Int) + o)) && decide ((offs.size : Int) = hi - lo + 1)))
  | .lookupswitch df ps => decide (j = op) && ((ps.toList.zip (ps.toList.drop 1)).all (fun (x, next) => x.1 < next.1) && (decide (0 ≤ (pc : Int) + df) && ps.toList.all (fun q => decide (0 ≤ (pc : Int) + q.2))))
  | _ => decide (j = op)
/-- what a method's own head must bear out -/
def am_hd (m : Nat) (op : Instr) (a b c : Nat) : Bool := match op with
  | .ireturn => (match am_Rt m, a with
    | some .int, 0 => true
    | some .boolean, 1 => true
    | some .byte, 2 => true
    | some .char, 3 => true
    | _, _ => false)
  | .lreturn => (match am_Rt m with
    | some .long => true
    | _ => false)
  | .areturn => (match am_Rt m with
    | some (.object _) => true
    | _ => false)
  | .return_ => (match am_Rt m with
    | none => true
    | _ => false)
  | .putfield _ => !(am_fin b a) || (am_ini m && am_O m == b)
  | _ => true
def am_chk (m pc : Nat) (E : am_E) : Bool := match E with
  | (.nop, _, _, _, _) => true
  | (op, n, a, b, c) => match decode (am_B m) pc with
    | .ok (j, len) => am_nrm pc j op a b && (decide (len = am_lenOf j) && decide (n = pc + len) || am_sw op) && am_hd m op a b c
    | _ => false
set_option maxRecDepth 100000 in
theorem ck_0 : am_c0.all (fun ch => ch.all (fun q => am_chk 0 q.1 q.2)) = true := by decide +kernel
set_option maxRecDepth 100000 in
theorem ck_1 : am_c1.all (fun ch => ch.all (fun q => am_chk 1 q.1 q.2)) = true := by decide +kernel
set_option maxRecDepth 100000 in
theorem ck_2 : am_c2.all (fun ch => ch.all (fun q => am_chk 2 q.1 q.2)) = true := by decide +kernel
set_option maxRecDepth 100000 in
theorem ck_3 : am_c3.all (fun ch => ch.all (fun q => am_chk 3 q.1 q.2)) = true := by decide +kernel
set_option maxRecDepth 100000 in
theorem ck_4 : am_c4.all (fun ch => ch.all (fun q => am_chk 4 q.1 q.2)) = true := by decide +kernel
set_option maxRecDepth 100000 in
theorem ck_5 : am_c5.all (fun ch => ch.all (fun q => am_chk 5 q.1 q.2)) = true := by decide +kernel
set_option maxRecDepth 100000 in
theorem ck_6 : am_c6.all (fun ch => ch.all (fun q => am_chk 6 q.1 q.2)) = true := by decide +kernel
set_option maxRecDepth 100000 in
theorem ck_7 : am_c7.all (fun ch => ch.all (fun q => am_chk 7 q.1 q.2)) = true := by decide +kernel
set_option maxRecDepth 100000 in
theorem ck_8 : am_c8.all (fun ch => ch.all (fun q => am_chk 8 q.1 q.2)) = true := by decide +kernel
set_option maxRecDepth 100000 in
theorem ck_9 : am_c9.all (fun ch => ch.all (fun q => am_chk 9 q.1 q.2)) = true := by decide +kernel
set_option maxRecDepth 100000 in
theorem ck_10 : am_c10.all (fun ch => ch.all (fun q => am_chk 10 q.1 q.2)) = true := by decide +kernel
set_option maxRecDepth 100000 in
theorem ck_11 : am_c11.all (fun ch => ch.all (fun q => am_chk 11 q.1 q.2)) = true := by decide +kernel
set_option maxRecDepth 100000 in
theorem ck_12 : am_c12.all (fun ch => ch.all (fun q => am_chk 12 q.1 q.2)) = true := by decide +kernel
set_option maxRecDepth 100000 in
theorem ck_13 : am_c13.all (fun ch => ch.all (fun q => am_chk 13 q.1 q.2)) = true := by decide +kernel
set_option maxRecDepth 100000 in
theorem ck_14 : am_c14.all (fun ch => ch.all (fun q => am_chk 14 q.1 q.2)) = true := by decide +kernel
set_option maxRecDepth 100000 in
theorem ck_15 : am_c15.all (fun ch => ch.all (fun q => am_chk 15 q.1 q.2)) = true := by decide +kernel
set_option maxRecDepth 100000 in
theorem ck_16 : am_c16.all (fun ch => ch.all (fun q => am_chk 16 q.1 q.2)) = true := by decide +kernel
set_option maxRecDepth 100000 in
theorem ck_17 : am_c17.all (fun ch => ch.all (fun q => am_chk 17 q.1 q.2)) = true := by decide +kernel
set_option maxRecDepth 100000 in
theorem ck_18 : am_c18.all (fun ch => ch.all (fun q => am_chk 18 q.1 q.2)) = true := by decide +kernel
set_option maxRecDepth 100000 in
theorem ck_19 : am_c19.all (fun ch => ch.all (fun q => am_chk 19 q.1 q.2)) = true := by decide +kernel
set_option maxRecDepth 100000 in
theorem ck_20 : am_c20.all (fun ch => ch.all (fun q => am_chk 20 q.1 q.2)) = true := by decide +kernel
set_option maxRecDepth 100000 in
theorem ck_21 : am_c21.all (fun ch => ch.all (fun q => am_chk 21 q.1 q.2)) = true := by decide +kernel
set_option maxRecDepth 100000 in
theorem ck_22 : am_c22.all (fun ch => ch.all (fun q => am_chk 22 q.1 q.2)) = true := by decide +kernel
set_option maxRecDepth 100000 in
theorem ck_23 : am_c23.all (fun ch => ch.all (fun q => am_chk 23 q.1 q.2)) = true := by decide +kernel
set_option maxRecDepth 100000 in
theorem ck_24 : am_c24.all (fun ch => ch.all (fun q => am_chk 24 q.1 q.2)) = true := by decide +kernel
set_option maxRecDepth 100000 in
theorem ck_25 : am_c25.all (fun ch => ch.all (fun q => am_chk 25 q.1 q.2)) = true := by decide +kernel
set_option maxRecDepth 100000 in
theorem ck_26 : am_c26.all (fun ch => ch.all (fun q => am_chk 26 q.1 q.2)) = true := by decide +kernel
set_option maxRecDepth 100000 in
theorem ck_27 : am_c27.all (fun ch => ch.all (fun q => am_chk 27 q.1 q.2)) = true := by decide +kernel
set_option maxRecDepth 100000 in
theorem ck_28 : am_c28.all (fun ch => ch.all (fun q => am_chk 28 q.1 q.2)) = true := by decide +kernel
set_option maxRecDepth 100000 in
theorem ck_29 : am_c29.all (fun ch => ch.all (fun q => am_chk 29 q.1 q.2)) = true := by decide +kernel
set_option maxRecDepth 100000 in
theorem ck_30 : am_c30.all (fun ch => ch.all (fun q => am_chk 30 q.1 q.2)) = true := by decide +kernel
set_option maxRecDepth 100000 in
theorem ck_31 : am_c31.all (fun ch => ch.all (fun q => am_chk 31 q.1 q.2)) = true := by decide +kernel
set_option maxRecDepth 100000 in
theorem ck_32 : am_c32.all (fun ch => ch.all (fun q => am_chk 32 q.1 q.2)) = true := by decide +kernel
set_option maxRecDepth 100000 in
theorem ck_33 : am_c33.all (fun ch => ch.all (fun q => am_chk 33 q.1 q.2)) = true := by decide +kernel
set_option maxRecDepth 100000 in
theorem ck_34 : am_c34.all (fun ch => ch.all (fun q => am_chk 34 q.1 q.2)) = true := by decide +kernel
set_option maxRecDepth 100000 in
theorem ck_35 : am_c35.all (fun ch => ch.all (fun q => am_chk 35 q.1 q.2)) = true := by decide +kernel
set_option maxRecDepth 100000 in
theorem ck_36 : am_c36.all (fun ch => ch.all (fun q => am_chk 36 q.1 q.2)) = true := by decide +kernel
set_option maxRecDepth 100000 in
theorem ck_37 : am_c37.all (fun ch => ch.all (fun q => am_chk 37 q.1 q.2)) = true := by decide +kernel
set_option maxRecDepth 100000 in
theorem ck_38 : am_c38.all (fun ch => ch.all (fun q => am_chk 38 q.1 q.2)) = true := by decide +kernel
set_option maxRecDepth 100000 in
theorem ck_39 : am_c39.all (fun ch => ch.all (fun q => am_chk 39 q.1 q.2)) = true := by decide +kernel
set_option maxRecDepth 100000 in
theorem ck_40 : am_c40.all (fun ch => ch.all (fun q => am_chk 40 q.1 q.2)) = true := by decide +kernel
set_option maxRecDepth 100000 in
theorem ck_41 : am_c41.all (fun ch => ch.all (fun q => am_chk 41 q.1 q.2)) = true := by decide +kernel
set_option maxRecDepth 100000 in
theorem ck_42 : am_c42.all (fun ch => ch.all (fun q => am_chk 42 q.1 q.2)) = true := by decide +kernel
set_option maxRecDepth 100000 in
theorem ck_43 : am_c43.all (fun ch => ch.all (fun q => am_chk 43 q.1 q.2)) = true := by decide +kernel
set_option maxRecDepth 100000 in
theorem ck_44 : am_c44.all (fun ch => ch.all (fun q => am_chk 44 q.1 q.2)) = true := by decide +kernel
set_option maxRecDepth 100000 in
theorem ck_45 : am_c45.all (fun ch => ch.all (fun q => am_chk 45 q.1 q.2)) = true := by decide +kernel
set_option maxRecDepth 100000 in
theorem ck_46 : am_c46.all (fun ch => ch.all (fun q => am_chk 46 q.1 q.2)) = true := by decide +kernel
set_option maxRecDepth 100000 in
theorem ck_47 : am_c47.all (fun ch => ch.all (fun q => am_chk 47 q.1 q.2)) = true := by decide +kernel
set_option maxRecDepth 100000 in
theorem ck_48 : am_c48.all (fun ch => ch.all (fun q => am_chk 48 q.1 q.2)) = true := by decide +kernel
set_option maxRecDepth 100000 in
theorem ck_49 : am_c49.all (fun ch => ch.all (fun q => am_chk 49 q.1 q.2)) = true := by decide +kernel
set_option maxRecDepth 100000 in
theorem ck_50 : am_c50.all (fun ch => ch.all (fun q => am_chk 50 q.1 q.2)) = true := by decide +kernel
set_option maxRecDepth 100000 in
theorem ck_51 : am_c51.all (fun ch => ch.all (fun q => am_chk 51 q.1 q.2)) = true := by decide +kernel
set_option maxRecDepth 100000 in
theorem ck_52 : am_c52.all (fun ch => ch.all (fun q => am_chk 52 q.1 q.2)) = true := by decide +kernel
set_option maxRecDepth 100000 in
theorem ck_53 : am_c53.all (fun ch => ch.all (fun q => am_chk 53 q.1 q.2)) = true := by decide +kernel
set_option maxRecDepth 100000 in
theorem ck_54 : am_c54.all (fun ch => ch.all (fun q => am_chk 54 q.1 q.2)) = true := by decide +kernel
set_option maxRecDepth 100000 in
theorem ck_55 : am_c55.all (fun ch => ch.all (fun q => am_chk 55 q.1 q.2)) = true := by decide +kernel
set_option maxRecDepth 100000 in
theorem ck_56 : am_c56.all (fun ch => ch.all (fun q => am_chk 56 q.1 q.2)) = true := by decide +kernel
set_option maxRecDepth 100000 in
theorem ck_57 : am_c57.all (fun ch => ch.all (fun q => am_chk 57 q.1 q.2)) = true := by decide +kernel
set_option maxRecDepth 100000 in
theorem ck_58 : am_c58.all (fun ch => ch.all (fun q => am_chk 58 q.1 q.2)) = true := by decide +kernel
set_option maxRecDepth 100000 in
theorem ck_59 : am_c59.all (fun ch => ch.all (fun q => am_chk 59 q.1 q.2)) = true := by decide +kernel
set_option maxRecDepth 100000 in
theorem ck_60 : am_c60.all (fun ch => ch.all (fun q => am_chk 60 q.1 q.2)) = true := by decide +kernel
set_option maxRecDepth 100000 in
theorem ck_61 : am_c61.all (fun ch => ch.all (fun q => am_chk 61 q.1 q.2)) = true := by decide +kernel
set_option maxRecDepth 100000 in
theorem ck_62 : am_c62.all (fun ch => ch.all (fun q => am_chk 62 q.1 q.2)) = true := by decide +kernel
set_option maxRecDepth 100000 in
theorem ck_63 : am_c63.all (fun ch => ch.all (fun q => am_chk 63 q.1 q.2)) = true := by decide +kernel
set_option maxRecDepth 100000 in
theorem ck_64 : am_c64.all (fun ch => ch.all (fun q => am_chk 64 q.1 q.2)) = true := by decide +kernel
set_option maxRecDepth 100000 in
theorem ck_65 : am_c65.all (fun ch => ch.all (fun q => am_chk 65 q.1 q.2)) = true := by decide +kernel
set_option maxRecDepth 100000 in
theorem ck_66 : am_c66.all (fun ch => ch.all (fun q => am_chk 66 q.1 q.2)) = true := by decide +kernel
set_option maxRecDepth 100000 in
theorem ck_67 : am_c67.all (fun ch => ch.all (fun q => am_chk 67 q.1 q.2)) = true := by decide +kernel
set_option maxRecDepth 100000 in
theorem ck_68 : am_c68.all (fun ch => ch.all (fun q => am_chk 68 q.1 q.2)) = true := by decide +kernel
set_option maxRecDepth 100000 in
theorem ck_69 : am_c69.all (fun ch => ch.all (fun q => am_chk 69 q.1 q.2)) = true := by decide +kernel
set_option maxRecDepth 100000 in
theorem ck_70 : am_c70.all (fun ch => ch.all (fun q => am_chk 70 q.1 q.2)) = true := by decide +kernel
set_option maxRecDepth 100000 in
theorem ck_71 : am_c71.all (fun ch => ch.all (fun q => am_chk 71 q.1 q.2)) = true := by decide +kernel
set_option maxRecDepth 100000 in
theorem ck_72 : am_c72.all (fun ch => ch.all (fun q => am_chk 72 q.1 q.2)) = true := by decide +kernel
set_option maxRecDepth 100000 in
theorem ck_73 : am_c73.all (fun ch => ch.all (fun q => am_chk 73 q.1 q.2)) = true := by decide +kernel
set_option maxRecDepth 100000 in
theorem ck_74 : am_c74.all (fun ch => ch.all (fun q => am_chk 74 q.1 q.2)) = true := by decide +kernel
set_option maxRecDepth 100000 in
theorem ck_75 : am_c75.all (fun ch => ch.all (fun q => am_chk 75 q.1 q.2)) = true := by decide +kernel
set_option maxRecDepth 100000 in
theorem ck_76 : am_c76.all (fun ch => ch.all (fun q => am_chk 76 q.1 q.2)) = true := by decide +kernel
set_option maxRecDepth 100000 in
theorem ck_77 : am_c77.all (fun ch => ch.all (fun q => am_chk 77 q.1 q.2)) = true := by decide +kernel
set_option maxRecDepth 100000 in
theorem ck_78 : am_c78.all (fun ch => ch.all (fun q => am_chk 78 q.1 q.2)) = true := by decide +kernel
set_option maxRecDepth 100000 in
theorem ck_79 : am_c79.all (fun ch => ch.all (fun q => am_chk 79 q.1 q.2)) = true := by decide +kernel
set_option maxRecDepth 100000 in
theorem ck_80 : am_c80.all (fun ch => ch.all (fun q => am_chk 80 q.1 q.2)) = true := by decide +kernel
set_option maxRecDepth 100000 in
theorem ck_81 : am_c81.all (fun ch => ch.all (fun q => am_chk 81 q.1 q.2)) = true := by decide +kernel
set_option maxRecDepth 100000 in
theorem ck_82 : am_c82.all (fun ch => ch.all (fun q => am_chk 82 q.1 q.2)) = true := by decide +kernel
set_option maxRecDepth 100000 in
theorem ck_83 : am_c83.all (fun ch => ch.all (fun q => am_chk 83 q.1 q.2)) = true := by decide +kernel
set_option maxRecDepth 100000 in
theorem ck_84 : am_c84.all (fun ch => ch.all (fun q => am_chk 84 q.1 q.2)) = true := by decide +kernel
set_option maxRecDepth 100000 in
theorem ck_85 : am_c85.all (fun ch => ch.all (fun q => am_chk 85 q.1 q.2)) = true := by decide +kernel
set_option maxRecDepth 100000 in
theorem ck_86 : am_c86.all (fun ch => ch.all (fun q => am_chk 86 q.1 q.2)) = true := by decide +kernel
set_option maxRecDepth 100000 in
theorem ck_87 : am_c87.all (fun ch => ch.all (fun q => am_chk 87 q.1 q.2)) = true := by decide +kernel
set_option maxRecDepth 100000 in
theorem ck_88 : am_c88.all (fun ch => ch.all (fun q => am_chk 88 q.1 q.2)) = true := by decide +kernel
set_option maxRecDepth 100000 in
theorem ck_89 : am_c89.all (fun ch => ch.all (fun q => am_chk 89 q.1 q.2)) = true := by decide +kernel
set_option maxRecDepth 100000 in
theorem ck_90 : am_c90.all (fun ch => ch.all (fun q => am_chk 90 q.1 q.2)) = true := by decide +kernel
set_option maxRecDepth 100000 in
theorem ck_91 : am_c91.all (fun ch => ch.all (fun q => am_chk 91 q.1 q.2)) = true := by decide +kernel
set_option maxRecDepth 100000 in
theorem ck_92 : am_c92.all (fun ch => ch.all (fun q => am_chk 92 q.1 q.2)) = true := by decide +kernel
set_option maxRecDepth 100000 in
theorem ck_93 : am_c93.all (fun ch => ch.all (fun q => am_chk 93 q.1 q.2)) = true := by decide +kernel
set_option maxRecDepth 100000 in
theorem ck_94 : am_c94.all (fun ch => ch.all (fun q => am_chk 94 q.1 q.2)) = true := by decide +kernel
set_option maxRecDepth 100000 in
theorem ck_95 : am_c95.all (fun ch => ch.all (fun q => am_chk 95 q.1 q.2)) = true := by decide +kernel
set_option maxRecDepth 100000 in
theorem ck_96 : am_c96.all (fun ch => ch.all (fun q => am_chk 96 q.1 q.2)) = true := by decide +kernel
set_option maxRecDepth 100000 in
theorem ck_97 : am_c97.all (fun ch => ch.all (fun q => am_chk 97 q.1 q.2)) = true := by decide +kernel
set_option maxRecDepth 100000 in
theorem ck_98 : am_c98.all (fun ch => ch.all (fun q => am_chk 98 q.1 q.2)) = true := by decide +kernel
set_option maxRecDepth 100000 in
theorem ck_99 : am_c99.all (fun ch => ch.all (fun q => am_chk 99 q.1 q.2)) = true := by decide +kernel
set_option maxRecDepth 100000 in
theorem ck_100 : am_c100.all (fun ch => ch.all (fun q => am_chk 100 q.1 q.2)) = true := by decide +kernel
set_option maxRecDepth 100000 in
theorem ck_101 : am_c101.all (fun ch => ch.all (fun q => am_chk 101 q.1 q.2)) = true := by decide +kernel
set_option maxRecDepth 100000 in
theorem ck_102 : am_c102.all (fun ch => ch.all (fun q => am_chk 102 q.1 q.2)) = true := by decide +kernel
set_option maxRecDepth 100000 in
theorem ck_103 : am_c103.all (fun ch => ch.all (fun q => am_chk 103 q.1 q.2)) = true := by decide +kernel
set_option maxRecDepth 100000 in
theorem ck_104 : am_c104.all (fun ch => ch.all (fun q => am_chk 104 q.1 q.2)) = true := by decide +kernel
set_option maxRecDepth 100000 in
theorem ck_105 : am_c105.all (fun ch => ch.all (fun q => am_chk 105 q.1 q.2)) = true := by decide +kernel
set_option maxRecDepth 100000 in
theorem ck_106 : am_c106.all (fun ch => ch.all (fun q => am_chk 106 q.1 q.2)) = true := by decide +kernel
set_option maxRecDepth 100000 in
theorem ck_107 : am_c107.all (fun ch => ch.all (fun q => am_chk 107 q.1 q.2)) = true := by decide +kernel
set_option maxRecDepth 100000 in
theorem ck_108 : am_c108.all (fun ch => ch.all (fun q => am_chk 108 q.1 q.2)) = true := by decide +kernel
set_option maxRecDepth 100000 in
theorem ck_109 : am_c109.all (fun ch => ch.all (fun q => am_chk 109 q.1 q.2)) = true := by decide +kernel
set_option maxRecDepth 100000 in
theorem ck_110 : am_c110.all (fun ch => ch.all (fun q => am_chk 110 q.1 q.2)) = true := by decide +kernel
set_option maxRecDepth 100000 in
theorem ck_111 : am_c111.all (fun ch => ch.all (fun q => am_chk 111 q.1 q.2)) = true := by decide +kernel
set_option maxRecDepth 100000 in
theorem ck_112 : am_c112.all (fun ch => ch.all (fun q => am_chk 112 q.1 q.2)) = true := by decide +kernel
set_option maxRecDepth 100000 in
theorem ck_113 : am_c113.all (fun ch => ch.all (fun q => am_chk 113 q.1 q.2)) = true := by decide +kernel
set_option maxRecDepth 100000 in
theorem ck_114 : am_c114.all (fun ch => ch.all (fun q => am_chk 114 q.1 q.2)) = true := by decide +kernel
set_option maxRecDepth 100000 in
theorem ck_115 : am_c115.all (fun ch => ch.all (fun q => am_chk 115 q.1 q.2)) = true := by decide +kernel
set_option maxRecDepth 100000 in
theorem ck_116 : am_c116.all (fun ch => ch.all (fun q => am_chk 116 q.1 q.2)) = true := by decide +kernel
set_option maxRecDepth 100000 in
theorem ck_117 : am_c117.all (fun ch => ch.all (fun q => am_chk 117 q.1 q.2)) = true := by decide +kernel
set_option maxRecDepth 100000 in
theorem ck_118 : am_c118.all (fun ch => ch.all (fun q => am_chk 118 q.1 q.2)) = true := by decide +kernel
set_option maxRecDepth 100000 in
theorem ck_119 : am_c119.all (fun ch => ch.all (fun q => am_chk 119 q.1 q.2)) = true := by decide +kernel
set_option maxRecDepth 100000 in
theorem ck_120 : am_c120.all (fun ch => ch.all (fun q => am_chk 120 q.1 q.2)) = true := by decide +kernel
set_option maxRecDepth 100000 in
theorem ck_121 : am_c121.all (fun ch => ch.all (fun q => am_chk 121 q.1 q.2)) = true := by decide +kernel
set_option maxRecDepth 100000 in
theorem ck_122 : am_c122.all (fun ch => ch.all (fun q => am_chk 122 q.1 q.2)) = true := by decide +kernel
set_option maxRecDepth 100000 in
theorem ck_123 : am_c123.all (fun ch => ch.all (fun q => am_chk 123 q.1 q.2)) = true := by decide +kernel
set_option maxRecDepth 100000 in
theorem ck_124 : am_c124.all (fun ch => ch.all (fun q => am_chk 124 q.1 q.2)) = true := by decide +kernel
set_option maxRecDepth 100000 in
theorem ck_125 : am_c125.all (fun ch => ch.all (fun q => am_chk 125 q.1 q.2)) = true := by decide +kernel
set_option maxRecDepth 100000 in
theorem ck_126 : am_c126.all (fun ch => ch.all (fun q => am_chk 126 q.1 q.2)) = true := by decide +kernel
set_option maxRecDepth 100000 in
theorem ck_127 : am_c127.all (fun ch => ch.all (fun q => am_chk 127 q.1 q.2)) = true := by decide +kernel
set_option maxRecDepth 100000 in
theorem ck_128 : am_c128.all (fun ch => ch.all (fun q => am_chk 128 q.1 q.2)) = true := by decide +kernel
set_option maxRecDepth 100000 in
theorem ck_129 : am_c129.all (fun ch => ch.all (fun q => am_chk 129 q.1 q.2)) = true := by decide +kernel
set_option maxRecDepth 100000 in
theorem ck_130 : am_c130.all (fun ch => ch.all (fun q => am_chk 130 q.1 q.2)) = true := by decide +kernel
set_option maxRecDepth 100000 in
theorem ck_131 : am_c131.all (fun ch => ch.all (fun q => am_chk 131 q.1 q.2)) = true := by decide +kernel
set_option maxRecDepth 100000 in
theorem ck_132 : am_c132.all (fun ch => ch.all (fun q => am_chk 132 q.1 q.2)) = true := by decide +kernel
set_option maxRecDepth 100000 in
theorem ck_133 : am_c133.all (fun ch => ch.all (fun q => am_chk 133 q.1 q.2)) = true := by decide +kernel
set_option maxRecDepth 100000 in
theorem ck_134 : am_c134.all (fun ch => ch.all (fun q => am_chk 134 q.1 q.2)) = true := by decide +kernel
set_option maxRecDepth 100000 in
theorem ck_135 : am_c135.all (fun ch => ch.all (fun q => am_chk 135 q.1 q.2)) = true := by decide +kernel
set_option maxRecDepth 100000 in
theorem ck_136 : am_c136.all (fun ch => ch.all (fun q => am_chk 136 q.1 q.2)) = true := by decide +kernel
set_option maxRecDepth 100000 in
theorem ck_137 : am_c137.all (fun ch => ch.all (fun q => am_chk 137 q.1 q.2)) = true := by decide +kernel
set_option maxRecDepth 100000 in
theorem ck_138 : am_c138.all (fun ch => ch.all (fun q => am_chk 138 q.1 q.2)) = true := by decide +kernel
set_option maxRecDepth 100000 in
theorem ck_139 : am_c139.all (fun ch => ch.all (fun q => am_chk 139 q.1 q.2)) = true := by decide +kernel
set_option maxRecDepth 100000 in
theorem ck_140 : am_c140.all (fun ch => ch.all (fun q => am_chk 140 q.1 q.2)) = true := by decide +kernel
set_option maxRecDepth 100000 in
theorem ck_141 : am_c141.all (fun ch => ch.all (fun q => am_chk 141 q.1 q.2)) = true := by decide +kernel
set_option maxRecDepth 100000 in
theorem ck_142 : am_c142.all (fun ch => ch.all (fun q => am_chk 142 q.1 q.2)) = true := by decide +kernel
set_option maxRecDepth 100000 in
theorem ck_143 : am_c143.all (fun ch => ch.all (fun q => am_chk 143 q.1 q.2)) = true := by decide +kernel
set_option maxRecDepth 100000 in
theorem ck_144 : am_c144.all (fun ch => ch.all (fun q => am_chk 144 q.1 q.2)) = true := by decide +kernel
set_option maxRecDepth 100000 in
theorem ck_145 : am_c145.all (fun ch => ch.all (fun q => am_chk 145 q.1 q.2)) = true := by decide +kernel
set_option maxRecDepth 100000 in
theorem ck_146 : am_c146.all (fun ch => ch.all (fun q => am_chk 146 q.1 q.2)) = true := by decide +kernel
set_option maxRecDepth 100000 in
theorem ck_147 : am_c147.all (fun ch => ch.all (fun q => am_chk 147 q.1 q.2)) = true := by decide +kernel
set_option maxRecDepth 100000 in
theorem ck_148 : am_c148.all (fun ch => ch.all (fun q => am_chk 148 q.1 q.2)) = true := by decide +kernel
set_option maxRecDepth 100000 in
theorem ck_149 : am_c149.all (fun ch => ch.all (fun q => am_chk 149 q.1 q.2)) = true := by decide +kernel
set_option maxRecDepth 100000 in
theorem ck_150 : am_c150.all (fun ch => ch.all (fun q => am_chk 150 q.1 q.2)) = true := by decide +kernel
set_option maxRecDepth 100000 in
theorem ck_151 : am_c151.all (fun ch => ch.all (fun q => am_chk 151 q.1 q.2)) = true := by decide +kernel
set_option maxRecDepth 100000 in
theorem ck_152 : am_c152.all (fun ch => ch.all (fun q => am_chk 152 q.1 q.2)) = true := by decide +kernel
set_option maxRecDepth 100000 in
theorem ck_153 : am_c153.all (fun ch => ch.all (fun q => am_chk 153 q.1 q.2)) = true := by decide +kernel
set_option maxRecDepth 100000 in
theorem ck_154 : am_c154.all (fun ch => ch.all (fun q => am_chk 154 q.1 q.2)) = true := by decide +kernel
set_option maxRecDepth 100000 in
theorem ck_155 : am_c155.all (fun ch => ch.all (fun q => am_chk 155 q.1 q.2)) = true := by decide +kernel
set_option maxRecDepth 100000 in
theorem ck_156 : am_c156.all (fun ch => ch.all (fun q => am_chk 156 q.1 q.2)) = true := by decide +kernel
set_option maxRecDepth 100000 in
theorem ck_157 : am_c157.all (fun ch => ch.all (fun q => am_chk 157 q.1 q.2)) = true := by decide +kernel
set_option maxRecDepth 100000 in
theorem ck_158 : am_c158.all (fun ch => ch.all (fun q => am_chk 158 q.1 q.2)) = true := by decide +kernel
set_option maxRecDepth 100000 in
theorem ck_159 : am_c159.all (fun ch => ch.all (fun q => am_chk 159 q.1 q.2)) = true := by decide +kernel
set_option maxRecDepth 100000 in
theorem ck_160 : am_c160.all (fun ch => ch.all (fun q => am_chk 160 q.1 q.2)) = true := by decide +kernel
set_option maxRecDepth 100000 in
theorem ck_161 : am_c161.all (fun ch => ch.all (fun q => am_chk 161 q.1 q.2)) = true := by decide +kernel
set_option maxRecDepth 100000 in
theorem ck_162 : am_c162.all (fun ch => ch.all (fun q => am_chk 162 q.1 q.2)) = true := by decide +kernel
set_option maxRecDepth 100000 in
theorem ck_163 : am_c163.all (fun ch => ch.all (fun q => am_chk 163 q.1 q.2)) = true := by decide +kernel
set_option maxRecDepth 100000 in
theorem ck_164 : am_c164.all (fun ch => ch.all (fun q => am_chk 164 q.1 q.2)) = true := by decide +kernel
set_option maxRecDepth 100000 in
theorem ck_165 : am_c165.all (fun ch => ch.all (fun q => am_chk 165 q.1 q.2)) = true := by decide +kernel
set_option maxRecDepth 100000 in
theorem ck_166 : am_c166.all (fun ch => ch.all (fun q => am_chk 166 q.1 q.2)) = true := by decide +kernel
set_option maxRecDepth 100000 in
theorem ck_167 : am_c167.all (fun ch => ch.all (fun q => am_chk 167 q.1 q.2)) = true := by decide +kernel
set_option maxRecDepth 100000 in
theorem ck_168 : am_c168.all (fun ch => ch.all (fun q => am_chk 168 q.1 q.2)) = true := by decide +kernel
set_option maxRecDepth 100000 in
theorem ck_169 : am_c169.all (fun ch => ch.all (fun q => am_chk 169 q.1 q.2)) = true := by decide +kernel
set_option maxRecDepth 100000 in
theorem ck_170 : am_c170.all (fun ch => ch.all (fun q => am_chk 170 q.1 q.2)) = true := by decide +kernel
set_option maxRecDepth 100000 in
theorem ck_171 : am_c171.all (fun ch => ch.all (fun q => am_chk 171 q.1 q.2)) = true := by decide +kernel
set_option maxRecDepth 100000 in
theorem ck_172 : am_c172.all (fun ch => ch.all (fun q => am_chk 172 q.1 q.2)) = true := by decide +kernel
set_option maxRecDepth 100000 in
theorem ck_173 : am_c173.all (fun ch => ch.all (fun q => am_chk 173 q.1 q.2)) = true := by decide +kernel
set_option maxRecDepth 100000 in
theorem ck_174 : am_c174.all (fun ch => ch.all (fun q => am_chk 174 q.1 q.2)) = true := by decide +kernel
set_option maxRecDepth 100000 in
theorem ck_175 : am_c175.all (fun ch => ch.all (fun q => am_chk 175 q.1 q.2)) = true := by decide +kernel
set_option maxRecDepth 100000 in
theorem ck_176 : am_c176.all (fun ch => ch.all (fun q => am_chk 176 q.1 q.2)) = true := by decide +kernel
set_option maxRecDepth 100000 in
theorem ck_177 : am_c177.all (fun ch => ch.all (fun q => am_chk 177 q.1 q.2)) = true := by decide +kernel
set_option maxRecDepth 100000 in
theorem ck_178 : am_c178.all (fun ch => ch.all (fun q => am_chk 178 q.1 q.2)) = true := by decide +kernel
set_option maxRecDepth 100000 in
theorem ck_179 : am_c179.all (fun ch => ch.all (fun q => am_chk 179 q.1 q.2)) = true := by decide +kernel
set_option maxRecDepth 100000 in
theorem ck_180 : am_c180.all (fun ch => ch.all (fun q => am_chk 180 q.1 q.2)) = true := by decide +kernel
set_option maxRecDepth 100000 in
theorem ck_181 : am_c181.all (fun ch => ch.all (fun q => am_chk 181 q.1 q.2)) = true := by decide +kernel
set_option maxRecDepth 100000 in
theorem ck_182 : am_c182.all (fun ch => ch.all (fun q => am_chk 182 q.1 q.2)) = true := by decide +kernel
set_option maxRecDepth 100000 in
theorem ck_183 : am_c183.all (fun ch => ch.all (fun q => am_chk 183 q.1 q.2)) = true := by decide +kernel
set_option maxRecDepth 100000 in
theorem ck_184 : am_c184.all (fun ch => ch.all (fun q => am_chk 184 q.1 q.2)) = true := by decide +kernel
set_option maxRecDepth 100000 in
theorem ck_185 : am_c185.all (fun ch => ch.all (fun q => am_chk 185 q.1 q.2)) = true := by decide +kernel
set_option maxRecDepth 100000 in
theorem ck_186 : am_c186.all (fun ch => ch.all (fun q => am_chk 186 q.1 q.2)) = true := by decide +kernel
set_option maxRecDepth 100000 in
theorem ck_187 : am_c187.all (fun ch => ch.all (fun q => am_chk 187 q.1 q.2)) = true := by decide +kernel
set_option maxRecDepth 100000 in
theorem ck_188 : am_c188.all (fun ch => ch.all (fun q => am_chk 188 q.1 q.2)) = true := by decide +kernel
set_option maxRecDepth 100000 in
theorem ck_189 : am_c189.all (fun ch => ch.all (fun q => am_chk 189 q.1 q.2)) = true := by decide +kernel
set_option maxRecDepth 100000 in
theorem ck_190 : am_c190.all (fun ch => ch.all (fun q => am_chk 190 q.1 q.2)) = true := by decide +kernel
set_option maxRecDepth 100000 in
theorem ck_191 : am_c191.all (fun ch => ch.all (fun q => am_chk 191 q.1 q.2)) = true := by decide +kernel
set_option maxRecDepth 100000 in
theorem ck_192 : am_c192.all (fun ch => ch.all (fun q => am_chk 192 q.1 q.2)) = true := by decide +kernel
set_option maxRecDepth 100000 in
theorem ck_193 : am_c193.all (fun ch => ch.all (fun q => am_chk 193 q.1 q.2)) = true := by decide +kernel
set_option maxRecDepth 100000 in
theorem ck_194 : am_c194.all (fun ch => ch.all (fun q => am_chk 194 q.1 q.2)) = true := by decide +kernel
set_option maxRecDepth 100000 in
theorem ck_195 : am_c195.all (fun ch => ch.all (fun q => am_chk 195 q.1 q.2)) = true := by decide +kernel
set_option maxRecDepth 100000 in
theorem ck_196 : am_c196.all (fun ch => ch.all (fun q => am_chk 196 q.1 q.2)) = true := by decide +kernel
set_option maxRecDepth 100000 in
theorem ck_197 : am_c197.all (fun ch => ch.all (fun q => am_chk 197 q.1 q.2)) = true := by decide +kernel
set_option maxRecDepth 100000 in
theorem ck_198 : am_c198.all (fun ch => ch.all (fun q => am_chk 198 q.1 q.2)) = true := by decide +kernel
set_option maxRecDepth 100000 in
theorem ck_199 : am_c199.all (fun ch => ch.all (fun q => am_chk 199 q.1 q.2)) = true := by decide +kernel
set_option maxRecDepth 100000 in
theorem ck_200 : am_c200.all (fun ch => ch.all (fun q => am_chk 200 q.1 q.2)) = true := by decide +kernel
set_option maxRecDepth 100000 in
theorem ck_201 : am_c201.all (fun ch => ch.all (fun q => am_chk 201 q.1 q.2)) = true := by decide +kernel
set_option maxRecDepth 100000 in
theorem ck_202 : am_c202.all (fun ch => ch.all (fun q => am_chk 202 q.1 q.2)) = true := by decide +kernel
set_option maxRecDepth 100000 in
theorem ck_203 : am_c203.all (fun ch => ch.all (fun q => am_chk 203 q.1 q.2)) = true := by decide +kernel
set_option maxRecDepth 100000 in
theorem ck_204 : am_c204.all (fun ch => ch.all (fun q => am_chk 204 q.1 q.2)) = true := by decide +kernel
set_option maxRecDepth 100000 in
theorem ck_205 : am_c205.all (fun ch => ch.all (fun q => am_chk 205 q.1 q.2)) = true := by decide +kernel
set_option maxRecDepth 100000 in
theorem ck_206 : am_c206.all (fun ch => ch.all (fun q => am_chk 206 q.1 q.2)) = true := by decide +kernel
set_option maxRecDepth 100000 in
theorem ck_207 : am_c207.all (fun ch => ch.all (fun q => am_chk 207 q.1 q.2)) = true := by decide +kernel
set_option maxRecDepth 100000 in
theorem ck_208 : am_c208.all (fun ch => ch.all (fun q => am_chk 208 q.1 q.2)) = true := by decide +kernel
set_option maxRecDepth 100000 in
theorem ck_209 : am_c209.all (fun ch => ch.all (fun q => am_chk 209 q.1 q.2)) = true := by decide +kernel
set_option maxRecDepth 100000 in
theorem ck_210 : am_c210.all (fun ch => ch.all (fun q => am_chk 210 q.1 q.2)) = true := by decide +kernel
def am_cs (m : Nat) : List (List (Nat × am_E)) := (am_cL.getD (m / 16) []).getD (m % 16) []
