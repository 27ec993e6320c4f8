/-- the classes by number; 9: Math -/
def cN : Nat → String := fun k => match k with
  | 0 => RX0
  | 1 => RX1
  | 2 => RX2
  | 3 => RX3
  | 4 => RX4
  | 5 => RX5
  | 6 => RX6
  | 7 => RX7
  | 8 => RX8
  | _ => "java/lang/Math"
abbrev vwCl : List vw_C := [(RX0, TX0, 3), (RX1, TX1, 4), (RX2, TX2, 5), (RX3, TX3, 4), (RX4, TX4, 3), (RX5, TX5, 8), (RX6, TX6, 11), (RX7, TX7, 14), (RX8, TX8, 22)]
def mT : List (Nat × MethodName × ByteArray × Nat × Option FieldType × Nat × Bool) := [
  (0, ⟨"ElbowQueue$Acts", "<init>", "(LElbowQueue$Told;)V"⟩, prog_2_method_1_code, 3, (none : Option FieldType), 1, false),
  (0, ⟨"ElbowQueue$Acts", "kept", "()I"⟩, prog_2_method_2_code, 1, some (FieldType.int), 0, false),
  (0, ⟨"ElbowQueue$Acts", "forget", "()V"⟩, prog_2_method_3_code, 1, (none : Option FieldType), 0, false),
  (0, ⟨"ElbowQueue$Acts", "keep", "(LElbowQueue$Town;)V"⟩, prog_2_method_4_code, 2, (none : Option FieldType), 1, false),
  (0, ⟨"ElbowQueue$Acts", "giveBack", "(LElbowQueue$Town;)V"⟩, prog_2_method_5_code, 2, (none : Option FieldType), 1, false),
  (1, ⟨"ElbowQueue$Asks", "<init>", "(LElbowQueue$Told;LElbowQueue$Town;)V"⟩, prog_3_method_1_code, 3, (none : Option FieldType), 2, false),
  (1, ⟨"ElbowQueue$Asks", "isA", "(II)Z"⟩, prog_3_method_2_code, 4, some (FieldType.boolean), 2, true),
  (1, ⟨"ElbowQueue$Asks", "traced", "(I)I"⟩, prog_3_method_3_code, 2, some (FieldType.int), 1, false),
  (1, ⟨"ElbowQueue$Asks", "begin", "(II)I"⟩, prog_3_method_4_code, 3, some (FieldType.int), 2, false),
  (1, ⟨"ElbowQueue$Asks", "asked", "(III)I"⟩, prog_3_method_5_code, 6, some (FieldType.int), 3, false),
  (1, ⟨"ElbowQueue$Asks", "bodyOf", "(II)I"⟩, prog_3_method_6_code, 3, some (FieldType.int), 2, true),
  (1, ⟨"ElbowQueue$Asks", "given", "(III)I"⟩, prog_3_method_7_code, 4, some (FieldType.int), 3, false),
  (1, ⟨"ElbowQueue$Asks", "leave", "(I)V"⟩, prog_3_method_8_code, 2, (none : Option FieldType), 1, false),
  (2, ⟨"ElbowQueue$Foretold", "<init>", "(LElbowQueue$Told;LElbowQueue$Town;)V"⟩, prog_4_method_1_code, 4, (none : Option FieldType), 2, false),
  (2, ⟨"ElbowQueue$Foretold", "letGoBy", "(LElbowQueue$Town;I)V"⟩, prog_4_method_2_code, 3, (none : Option FieldType), 2, true),
  (2, ⟨"ElbowQueue$Foretold", "behind", "(I)LElbowQueue$Town;"⟩, prog_4_method_3_code, 2, some (FieldType.object "ElbowQueue$Town"), 1, false),
  (2, ⟨"ElbowQueue$Foretold", "firstMinute", "(IIII)I"⟩, prog_4_method_4_code, 6, some (FieldType.int), 4, false),
  (2, ⟨"ElbowQueue$Foretold", "shows", "(III)Z"⟩, prog_4_method_5_code, 4, some (FieldType.boolean), 3, false),
  (2, ⟨"ElbowQueue$Foretold", "life", "()I"⟩, prog_4_method_6_code, 1, some (FieldType.int), 0, false),
  (2, ⟨"ElbowQueue$Foretold", "whenIs", "(II)I"⟩, prog_4_method_7_code, 3, some (FieldType.int), 2, false),
  (2, ⟨"ElbowQueue$Foretold", "whenAllBelieve", "(I)I"⟩, prog_4_method_8_code, 2, some (FieldType.int), 1, false),
  (2, ⟨"ElbowQueue$Foretold", "whenAreJust", "(I)I"⟩, prog_4_method_9_code, 2, some (FieldType.int), 1, false),
  (2, ⟨"ElbowQueue$Foretold", "bestWord", "(IZ)I"⟩, prog_4_method_10_code, 7, some (FieldType.int), 2, false),
  (2, ⟨"ElbowQueue$Foretold", "fewestElbows", "(I)I"⟩, prog_4_method_11_code, 3, some (FieldType.int), 1, false),
  (2, ⟨"ElbowQueue$Foretold", "odds", "(IIIZ)I"⟩, prog_4_method_12_code, 11, some (FieldType.int), 4, false),
  (2, ⟨"ElbowQueue$Foretold", "fitting", "(IIII)J"⟩, prog_4_method_13_code, 9, some (FieldType.long), 4, false),
  (2, ⟨"ElbowQueue$Foretold", "goOn", "(IZ)V"⟩, prog_4_method_14_code, 4, (none : Option FieldType), 2, false),
  (2, ⟨"ElbowQueue$Foretold", "greatestDivisor", "(JJ)J"⟩, prog_4_method_15_code, 11, some (FieldType.long), 2, true),
  (2, ⟨"ElbowQueue$Foretold", "bestOpening", "(IZ)I"⟩, prog_4_method_16_code, 8, some (FieldType.int), 2, false),
  (3, ⟨"ElbowQueue$Reader", "<init>", "()V"⟩, prog_5_method_1_code, 1, (none : Option FieldType), 0, false),
  (3, ⟨"ElbowQueue$Reader", "isFull", "()Z"⟩, prog_5_method_2_code, 1, some (FieldType.boolean), 0, false),
  (3, ⟨"ElbowQueue$Reader", "take", "(I)I"⟩, prog_5_method_3_code, 2, some (FieldType.int), 1, false),
  (3, ⟨"ElbowQueue$Reader", "length", "()I"⟩, prog_5_method_4_code, 1, some (FieldType.int), 0, false),
  (3, ⟨"ElbowQueue$Reader", "at", "()I"⟩, prog_5_method_5_code, 1, some (FieldType.int), 0, false),
  (3, ⟨"ElbowQueue$Reader", "read", "(LElbowQueue$Told;)I"⟩, prog_5_method_6_code, 2, some (FieldType.int), 1, false),
  (3, ⟨"ElbowQueue$Reader", "readHead", "(LElbowQueue$Told;)V"⟩, prog_5_method_7_code, 2, (none : Option FieldType), 1, false),
  (3, ⟨"ElbowQueue$Reader", "readWaiters", "(LElbowQueue$Told;)V"⟩, prog_5_method_8_code, 6, (none : Option FieldType), 1, false),
  (3, ⟨"ElbowQueue$Reader", "readPassers", "(LElbowQueue$Told;)V"⟩, prog_5_method_9_code, 7, (none : Option FieldType), 1, false),
  (3, ⟨"ElbowQueue$Reader", "byteAt", "(I)I"⟩, prog_5_method_10_code, 2, some (FieldType.int), 1, false),
  (3, ⟨"ElbowQueue$Reader", "sign", "(I)V"⟩, prog_5_method_11_code, 2, (none : Option FieldType), 1, false),
  (3, ⟨"ElbowQueue$Reader", "sort", "()I"⟩, prog_5_method_12_code, 2, some (FieldType.int), 0, false),
  (3, ⟨"ElbowQueue$Reader", "number", "(I)I"⟩, prog_5_method_13_code, 4, some (FieldType.int), 1, false),
  (3, ⟨"ElbowQueue$Reader", "isFigure", "(I)Z"⟩, prog_5_method_14_code, 1, some (FieldType.boolean), 1, true),
  (3, ⟨"ElbowQueue$Reader", "kindOf", "(I)I"⟩, prog_5_method_15_code, 1, some (FieldType.int), 1, true),
  (4, ⟨"ElbowQueue$Rows", "<init>", "()V"⟩, prog_6_method_1_code, 2, (none : Option FieldType), 0, false),
  (4, ⟨"ElbowQueue$Rows", "isNumber", "(I)Z"⟩, prog_6_method_2_code, 1, some (FieldType.boolean), 1, true),
  (4, ⟨"ElbowQueue$Rows", "isLane", "(I)Z"⟩, prog_6_method_3_code, 1, some (FieldType.boolean), 1, true),
  (4, ⟨"ElbowQueue$Rows", "isMissing", "(I)Z"⟩, prog_6_method_4_code, 2, some (FieldType.boolean), 1, false),
  (4, ⟨"ElbowQueue$Rows", "laneOf", "(I)I"⟩, prog_6_method_5_code, 2, some (FieldType.int), 1, false),
  (4, ⟨"ElbowQueue$Rows", "item", "(II)I"⟩, prog_6_method_6_code, 3, some (FieldType.int), 2, false),
  (4, ⟨"ElbowQueue$Rows", "spans", "(III)Z"⟩, prog_6_method_7_code, 4, some (FieldType.boolean), 3, false),
  (4, ⟨"ElbowQueue$Rows", "lay", "(III)V"⟩, prog_6_method_8_code, 5, (none : Option FieldType), 3, false),
  (4, ⟨"ElbowQueue$Rows", "put", "(III)I"⟩, prog_6_method_9_code, 5, some (FieldType.int), 3, false),
  (4, ⟨"ElbowQueue$Rows", "bring", "(IIIII)V"⟩, prog_6_method_10_code, 6, (none : Option FieldType), 5, false),
  (4, ⟨"ElbowQueue$Rows", "takeAway", "(I)I"⟩, prog_6_method_11_code, 3, some (FieldType.int), 1, false),
  (4, ⟨"ElbowQueue$Rows", "present", "()I"⟩, prog_6_method_12_code, 3, some (FieldType.int), 0, false),
  (5, ⟨"ElbowQueue$Told", "<init>", "()V"⟩, prog_7_method_1_code, 2, (none : Option FieldType), 0, false),
  (5, ⟨"ElbowQueue$Told", "clear", "()V"⟩, prog_7_method_2_code, 1, (none : Option FieldType), 0, false),
  (5, ⟨"ElbowQueue$Told", "add", "(IIII)V"⟩, prog_7_method_3_code, 5, (none : Option FieldType), 4, false),
  (5, ⟨"ElbowQueue$Told", "become", "(LElbowQueue$Told;)V"⟩, prog_7_method_4_code, 2, (none : Option FieldType), 1, false),
  (6, ⟨"ElbowQueue$Town", "<init>", "(LElbowQueue$Told;I)V"⟩, prog_8_method_1_code, 3, (none : Option FieldType), 2, false),
  (6, ⟨"ElbowQueue$Town", "begin", "()V"⟩, prog_8_method_2_code, 2, (none : Option FieldType), 0, false),
  (6, ⟨"ElbowQueue$Town", "become", "(LElbowQueue$Town;)V"⟩, prog_8_method_3_code, 3, (none : Option FieldType), 1, false),
  (6, ⟨"ElbowQueue$Town", "believes", "(I)I"⟩, prog_8_method_4_code, 2, some (FieldType.int), 1, false),
  (6, ⟨"ElbowQueue$Town", "hears", "(II)V"⟩, prog_8_method_5_code, 3, (none : Option FieldType), 2, false),
  (6, ⟨"ElbowQueue$Town", "whoIsAt", "(I)I"⟩, prog_8_method_6_code, 2, some (FieldType.int), 1, false),
  (6, ⟨"ElbowQueue$Town", "placeOf", "(I)I"⟩, prog_8_method_7_code, 3, some (FieldType.int), 1, false),
  (6, ⟨"ElbowQueue$Town", "howMany", "(I)I"⟩, prog_8_method_8_code, 4, some (FieldType.int), 1, false),
  (6, ⟨"ElbowQueue$Town", "hasPasserToCome", "()Z"⟩, prog_8_method_9_code, 1, some (FieldType.boolean), 0, false),
  (6, ⟨"ElbowQueue$Town", "isOver", "()Z"⟩, prog_8_method_10_code, 1, some (FieldType.boolean), 0, false),
  (6, ⟨"ElbowQueue$Town", "allBelieve", "(I)Z"⟩, prog_8_method_11_code, 3, some (FieldType.boolean), 1, false),
  (6, ⟨"ElbowQueue$Town", "hasJust", "([II)Z"⟩, prog_8_method_12_code, 4, some (FieldType.boolean), 2, false),
  (6, ⟨"ElbowQueue$Town", "minuteGoesBy", "(Z)V"⟩, prog_8_method_13_code, 2, (none : Option FieldType), 1, false),
  (6, ⟨"ElbowQueue$Town", "tellOn", "()V"⟩, prog_8_method_14_code, 4, (none : Option FieldType), 0, false),
  (6, ⟨"ElbowQueue$Town", "takesOn", "(I)Z"⟩, prog_8_method_15_code, 3, some (FieldType.boolean), 1, false),
  (6, ⟨"ElbowQueue$Town", "takeOut", "(II)V"⟩, prog_8_method_16_code, 4, (none : Option FieldType), 2, false),
  (6, ⟨"ElbowQueue$Town", "standOn", "()V"⟩, prog_8_method_17_code, 6, (none : Option FieldType), 0, false),
  (6, ⟨"ElbowQueue$Town", "bears", "(I)I"⟩, prog_8_method_18_code, 5, some (FieldType.int), 1, false),
  (6, ⟨"ElbowQueue$Town", "bears", "(I)I"⟩, prog_8_method_18_code, 5, some (FieldType.int), 1, false),
  (6, ⟨"ElbowQueue$Town", "meetPasser", "(Z)V"⟩, prog_8_method_19_code, 3, (none : Option FieldType), 1, false),
  (6, ⟨"ElbowQueue$Town", "isWaiting", "(I)Z"⟩, prog_8_method_20_code, 2, some (FieldType.boolean), 1, false),
  (6, ⟨"ElbowQueue$Town", "join", "(I)V"⟩, prog_8_method_21_code, 2, (none : Option FieldType), 1, false),
  (6, ⟨"ElbowQueue$Town", "joinElbows", "(I)V"⟩, prog_8_method_22_code, 3, (none : Option FieldType), 1, false),
  (6, ⟨"ElbowQueue$Town", "joinersToCome", "()I"⟩, prog_8_method_23_code, 4, some (FieldType.int), 0, false),
  (7, ⟨"ElbowQueue", "<init>", "()V"⟩, prog_1_method_1_code, 2, (none : Option FieldType), 0, false),
  (7, ⟨"ElbowQueue", "row", "(III)I"⟩, prog_1_method_2_code, 4, some (FieldType.int), 3, false),
  (7, ⟨"ElbowQueue", "set", "(III)I"⟩, prog_1_method_3_code, 4, some (FieldType.int), 3, false),
  (7, ⟨"ElbowQueue", "copy", "(IIIII)I"⟩, prog_1_method_4_code, 6, some (FieldType.int), 5, false),
  (7, ⟨"ElbowQueue", "drop", "(I)I"⟩, prog_1_method_5_code, 2, some (FieldType.int), 1, false),
  (7, ⟨"ElbowQueue", "feed", "(I)I"⟩, prog_1_method_6_code, 2, some (FieldType.int), 1, false),
  (7, ⟨"ElbowQueue", "town", "()I"⟩, prog_1_method_7_code, 2, some (FieldType.int), 0, false),
  (7, ⟨"ElbowQueue", "fault", "()I"⟩, prog_1_method_8_code, 1, some (FieldType.int), 0, false),
  (7, ⟨"ElbowQueue", "minutes", "(I)I"⟩, prog_1_method_9_code, 3, some (FieldType.int), 1, false),
  (7, ⟨"ElbowQueue", "say", "(II)I"⟩, prog_1_method_10_code, 4, some (FieldType.int), 2, false),
  (7, ⟨"ElbowQueue", "go", "(I)I"⟩, prog_1_method_11_code, 3, some (FieldType.int), 1, false),
  (7, ⟨"ElbowQueue", "hatch", "(II)I"⟩, prog_1_method_12_code, 4, some (FieldType.int), 2, false),
  (7, ⟨"ElbowQueue", "undo", "()I"⟩, prog_1_method_13_code, 1, some (FieldType.int), 0, false),
  (7, ⟨"ElbowQueue", "person", "(II)I"⟩, prog_1_method_14_code, 3, some (FieldType.int), 2, false),
  (7, ⟨"ElbowQueue", "place", "(I)I"⟩, prog_1_method_15_code, 2, some (FieldType.int), 1, false),
  (7, ⟨"ElbowQueue", "ahead", "(II)I"⟩, prog_1_method_16_code, 3, some (FieldType.int), 2, false),
  (7, ⟨"ElbowQueue", "order", "(II)I"⟩, prog_1_method_17_code, 3, some (FieldType.int), 2, false),
  (7, ⟨"ElbowQueue", "lives", "()I"⟩, prog_1_method_18_code, 1, some (FieldType.int), 0, false),
  (7, ⟨"ElbowQueue", "words", "(II)I"⟩, prog_1_method_19_code, 4, some (FieldType.int), 2, false),
  (7, ⟨"ElbowQueue", "served", "(II)I"⟩, prog_1_method_20_code, 3, some (FieldType.int), 2, false),
  (7, ⟨"ElbowQueue", "spread", "(I)I"⟩, prog_1_method_21_code, 2, some (FieldType.int), 1, false),
  (7, ⟨"ElbowQueue", "elbows", "(I)I"⟩, prog_1_method_22_code, 2, some (FieldType.int), 1, false),
  (7, ⟨"ElbowQueue", "grows", "(IIII)I"⟩, prog_1_method_23_code, 5, some (FieldType.int), 4, false),
  (7, ⟨"ElbowQueue", "opens", "(II)I"⟩, prog_1_method_24_code, 3, some (FieldType.int), 2, false),
  (7, ⟨"ElbowQueue", "seen", "(III)I"⟩, prog_1_method_25_code, 6, some (FieldType.int), 3, false),
  (7, ⟨"ElbowQueue", "image", "(I)I"⟩, prog_1_method_26_code, 2, some (FieldType.int), 1, false),
  (7, ⟨"ElbowQueue", "restore", "(I)I"⟩, prog_1_method_27_code, 2, some (FieldType.int), 1, false),
  (7, ⟨"ElbowQueue", "kind", "(I)I"⟩, prog_1_method_28_code, 2, some (FieldType.int), 1, false),
  (7, ⟨"ElbowQueue", "as", "(II)I"⟩, prog_1_method_29_code, 3, some (FieldType.int), 2, false),
  (7, ⟨"ElbowQueue", "ask", "(II)I"⟩, prog_1_method_30_code, 3, some (FieldType.int), 2, false),
  (7, ⟨"ElbowQueue", "trace", "(I)I"⟩, prog_1_method_31_code, 2, some (FieldType.int), 1, false),
  (7, ⟨"ElbowQueue", "count", "(I)I"⟩, prog_1_method_32_code, 2, some (FieldType.int), 1, false),
  (7, ⟨"ElbowQueue", "status", "()I"⟩, prog_1_method_33_code, 1, some (FieldType.int), 0, false),
  (7, ⟨"ElbowQueue", "within", "(II)Z"⟩, prog_1_method_34_code, 2, some (FieldType.boolean), 2, true),
  (7, ⟨"ElbowQueue", "isPerson", "(I)Z"⟩, prog_1_method_35_code, 2, some (FieldType.boolean), 1, false),
  (7, ⟨"ElbowQueue", "found", "(I)I"⟩, prog_1_method_36_code, 2, some (FieldType.int), 1, false),
  (7, ⟨"ElbowQueue", "fine", "(I)I"⟩, prog_1_method_37_code, 2, some (FieldType.int), 1, false),
  (8, ⟨"ElbowQueueModel", "<init>", "()V"⟩, prog_10_method_1_code, 1, (none : Option FieldType), 0, false),
  (8, ⟨"ElbowQueueModel", "in", "(JJJ)Z"⟩, prog_10_method_3_code, 6, some (FieldType.boolean), 3, true),
  (8, ⟨"ElbowQueueModel", "found", "(I)I"⟩, prog_10_method_4_code, 2, some (FieldType.int), 1, false),
  (8, ⟨"ElbowQueueModel", "well", "(I)I"⟩, prog_10_method_5_code, 2, some (FieldType.int), 1, false),
  (8, ⟨"ElbowQueueModel", "isRow", "(I)Z"⟩, prog_10_method_6_code, 1, some (FieldType.boolean), 1, true),
  (8, ⟨"ElbowQueueModel", "row", "(III)I"⟩, prog_10_method_7_code, 5, some (FieldType.int), 3, false),
  (8, ⟨"ElbowQueueModel", "set", "(III)I"⟩, prog_10_method_8_code, 5, some (FieldType.int), 3, false),
  (8, ⟨"ElbowQueueModel", "copy", "(IIIII)I"⟩, prog_10_method_9_code, 7, some (FieldType.int), 5, false),
  (8, ⟨"ElbowQueueModel", "drop", "(I)I"⟩, prog_10_method_10_code, 2, some (FieldType.int), 1, false),
  (8, ⟨"ElbowQueueModel", "feed", "(I)I"⟩, prog_10_method_11_code, 2, some (FieldType.int), 1, false),
  (8, ⟨"ElbowQueueModel", "byteAt", "(I)I"⟩, prog_10_method_12_code, 2, some (FieldType.int), 1, false),
  (8, ⟨"ElbowQueueModel", "isFigure", "(I)Z"⟩, prog_10_method_13_code, 1, some (FieldType.boolean), 1, true),
  (8, ⟨"ElbowQueueModel", "sign", "(I)I"⟩, prog_10_method_14_code, 3, some (FieldType.int), 1, false),
  (8, ⟨"ElbowQueueModel", "number", "(I)I"⟩, prog_10_method_15_code, 4, some (FieldType.int), 1, false),
  (8, ⟨"ElbowQueueModel", "sortOf", "(I)I"⟩, prog_10_method_16_code, 1, some (FieldType.int), 1, true),
  (8, ⟨"ElbowQueueModel", "readOne", "(I)I"⟩, prog_10_method_17_code, 3, some (FieldType.int), 1, false),
  (8, ⟨"ElbowQueueModel", "readWaiter", "()I"⟩, prog_10_method_18_code, 3, some (FieldType.int), 0, false),
  (8, ⟨"ElbowQueueModel", "readPasser", "()I"⟩, prog_10_method_19_code, 3, some (FieldType.int), 0, false),
  (8, ⟨"ElbowQueueModel", "readTown", "()I"⟩, prog_10_method_20_code, 3, some (FieldType.int), 0, false),
  (8, ⟨"ElbowQueueModel", "town", "()I"⟩, prog_10_method_21_code, 3, some (FieldType.int), 0, false),
  (8, ⟨"ElbowQueueModel", "fault", "()I"⟩, prog_10_method_22_code, 1, some (FieldType.int), 0, false),
  (8, ⟨"ElbowQueueModel", "people", "()I"⟩, prog_10_method_23_code, 1, some (FieldType.int), 0, false),
  (8, ⟨"ElbowQueueModel", "isPerson", "(I)Z"⟩, prog_10_method_24_code, 2, some (FieldType.boolean), 1, false),
  (8, ⟨"ElbowQueueModel", "isTown", "()Z"⟩, prog_10_method_25_code, 1, some (FieldType.boolean), 0, false),
  (8, ⟨"ElbowQueueModel", "isFirstOne", "(I)Z"⟩, prog_10_method_26_code, 2, some (FieldType.boolean), 1, false),
  (8, ⟨"ElbowQueueModel", "believes", "(I)I"⟩, prog_10_method_27_code, 2, some (FieldType.int), 1, false),
  (8, ⟨"ElbowQueueModel", "takesOn", "(I)Z"⟩, prog_10_method_28_code, 3, some (FieldType.boolean), 1, false),
  (8, ⟨"ElbowQueueModel", "tellOn", "()V"⟩, prog_10_method_29_code, 3, (none : Option FieldType), 0, false),
  (8, ⟨"ElbowQueueModel", "outOf", "(I)V"⟩, prog_10_method_30_code, 3, (none : Option FieldType), 1, false),
  (8, ⟨"ElbowQueueModel", "bears", "(I)I"⟩, prog_10_method_31_code, 5, some (FieldType.int), 1, false),
  (8, ⟨"ElbowQueueModel", "leave", "()V"⟩, prog_10_method_32_code, 5, (none : Option FieldType), 0, false),
  (8, ⟨"ElbowQueueModel", "join", "(I)V"⟩, prog_10_method_33_code, 2, (none : Option FieldType), 1, false),
  (8, ⟨"ElbowQueueModel", "goMinute", "(Z)V"⟩, prog_10_method_34_code, 3, (none : Option FieldType), 1, false),
  (8, ⟨"ElbowQueueModel", "keepAct", "()V"⟩, prog_10_method_35_code, 2, (none : Option FieldType), 0, false),
  (8, ⟨"ElbowQueueModel", "minutes", "(I)I"⟩, prog_10_method_36_code, 3, some (FieldType.int), 1, false),
  (8, ⟨"ElbowQueueModel", "isInQueue", "(I)Z"⟩, prog_10_method_37_code, 2, some (FieldType.boolean), 1, false),
  (8, ⟨"ElbowQueueModel", "tellOne", "(II)V"⟩, prog_10_method_38_code, 3, (none : Option FieldType), 2, false),
  (8, ⟨"ElbowQueueModel", "say", "(II)I"⟩, prog_10_method_39_code, 4, some (FieldType.int), 2, false),
  (8, ⟨"ElbowQueueModel", "placeOf", "(I)I"⟩, prog_10_method_40_code, 4, some (FieldType.int), 1, false),
  (8, ⟨"ElbowQueueModel", "go", "(I)I"⟩, prog_10_method_41_code, 2, some (FieldType.int), 1, false),
  (8, ⟨"ElbowQueueModel", "hatch", "(II)I"⟩, prog_10_method_42_code, 4, some (FieldType.int), 2, false),
  (8, ⟨"ElbowQueueModel", "undo", "()I"⟩, prog_10_method_43_code, 2, some (FieldType.int), 0, false),
  (8, ⟨"ElbowQueueModel", "person", "(II)I"⟩, prog_10_method_44_code, 3, some (FieldType.int), 2, false),
  (8, ⟨"ElbowQueueModel", "place", "(I)I"⟩, prog_10_method_45_code, 2, some (FieldType.int), 1, false),
  (8, ⟨"ElbowQueueModel", "start", "()V"⟩, prog_10_method_46_code, 2, (none : Option FieldType), 0, false),
  (8, ⟨"ElbowQueueModel", "back", "()V"⟩, prog_10_method_47_code, 2, (none : Option FieldType), 0, false),
  (8, ⟨"ElbowQueueModel", "goMinutes", "(I)V"⟩, prog_10_method_48_code, 3, (none : Option FieldType), 1, false),
  (8, ⟨"ElbowQueueModel", "howMany", "(I)I"⟩, prog_10_method_49_code, 4, some (FieldType.int), 1, false),
  (8, ⟨"ElbowQueueModel", "ahead", "(II)I"⟩, prog_10_method_50_code, 4, some (FieldType.int), 2, false),
  (8, ⟨"ElbowQueueModel", "order", "(II)I"⟩, prog_10_method_51_code, 4, some (FieldType.int), 2, false),
  (8, ⟨"ElbowQueueModel", "goLives", "()I"⟩, prog_10_method_52_code, 2, some (FieldType.int), 0, false),
  (8, ⟨"ElbowQueueModel", "lives", "()I"⟩, prog_10_method_53_code, 2, some (FieldType.int), 0, false),
  (8, ⟨"ElbowQueueModel", "words", "(II)I"⟩, prog_10_method_54_code, 8, some (FieldType.int), 2, false),
  (8, ⟨"ElbowQueueModel", "served", "(II)I"⟩, prog_10_method_55_code, 6, some (FieldType.int), 2, false),
  (8, ⟨"ElbowQueueModel", "allBelieve", "(I)Z"⟩, prog_10_method_56_code, 4, some (FieldType.boolean), 1, false),
  (8, ⟨"ElbowQueueModel", "spread", "(I)I"⟩, prog_10_method_57_code, 4, some (FieldType.int), 1, false),
  (8, ⟨"ElbowQueueModel", "joinElbows", "(I)V"⟩, prog_10_method_58_code, 4, (none : Option FieldType), 1, false),
  (8, ⟨"ElbowQueueModel", "passersIn", "()I"⟩, prog_10_method_59_code, 3, some (FieldType.int), 0, false),
  (8, ⟨"ElbowQueueModel", "elbows", "(I)I"⟩, prog_10_method_60_code, 4, some (FieldType.int), 1, false),
  (8, ⟨"ElbowQueueModel", "common", "(II)I"⟩, prog_10_method_61_code, 5, some (FieldType.int), 2, true),
  (8, ⟨"ElbowQueueModel", "power", "(II)I"⟩, prog_10_method_62_code, 4, some (FieldType.int), 2, true),
  (8, ⟨"ElbowQueueModel", "bits", "(I)I"⟩, prog_10_method_63_code, 3, some (FieldType.int), 1, true),
  (8, ⟨"ElbowQueueModel", "grows", "(IIII)I"⟩, prog_10_method_64_code, 10, some (FieldType.int), 4, false),
  (8, ⟨"ElbowQueueModel", "opens", "(II)I"⟩, prog_10_method_65_code, 8, some (FieldType.int), 2, false),
  (8, ⟨"ElbowQueueModel", "isSeen", "(III)Z"⟩, prog_10_method_66_code, 6, some (FieldType.boolean), 3, false),
  (8, ⟨"ElbowQueueModel", "seen", "(III)I"⟩, prog_10_method_67_code, 7, some (FieldType.int), 3, false),
  (8, ⟨"ElbowQueueModel", "image", "(I)I"⟩, prog_10_method_68_code, 3, some (FieldType.int), 1, false),
  (8, ⟨"ElbowQueueModel", "restore", "(I)I"⟩, prog_10_method_69_code, 3, some (FieldType.int), 1, false),
  (8, ⟨"ElbowQueueModel", "kind", "(I)I"⟩, prog_10_method_70_code, 2, some (FieldType.int), 1, false),
  (8, ⟨"ElbowQueueModel", "above", "(I)I"⟩, prog_10_method_71_code, 1, some (FieldType.int), 1, true),
  (8, ⟨"ElbowQueueModel", "as", "(II)I"⟩, prog_10_method_72_code, 4, some (FieldType.int), 2, false),
  (8, ⟨"ElbowQueueModel", "note", "(I)V"⟩, prog_10_method_73_code, 2, (none : Option FieldType), 1, false),
  (8, ⟨"ElbowQueueModel", "plainSize", "(I)I"⟩, prog_10_method_74_code, 2, some (FieldType.int), 1, false),
  (8, ⟨"ElbowQueueModel", "firstSize", "(I)I"⟩, prog_10_method_75_code, 2, some (FieldType.int), 1, false),
  (8, ⟨"ElbowQueueModel", "sizeOfFirst", "(I)I"⟩, prog_10_method_76_code, 2, some (FieldType.int), 1, false),
  (8, ⟨"ElbowQueueModel", "believerSize", "(I)I"⟩, prog_10_method_77_code, 3, some (FieldType.int), 1, false),
  (8, ⟨"ElbowQueueModel", "size", "(I)I"⟩, prog_10_method_78_code, 2, some (FieldType.int), 1, false),
  (8, ⟨"ElbowQueueModel", "plainMark", "(I)I"⟩, prog_10_method_79_code, 2, some (FieldType.int), 1, false),
  (8, ⟨"ElbowQueueModel", "believerMark", "(I)I"⟩, prog_10_method_80_code, 2, some (FieldType.int), 1, false),
  (8, ⟨"ElbowQueueModel", "mark", "(I)I"⟩, prog_10_method_81_code, 3, some (FieldType.int), 1, false),
  (8, ⟨"ElbowQueueModel", "ask", "(II)I"⟩, prog_10_method_82_code, 3, some (FieldType.int), 2, false),
  (8, ⟨"ElbowQueueModel", "trace", "(I)I"⟩, prog_10_method_83_code, 2, some (FieldType.int), 1, false),
  (8, ⟨"ElbowQueueModel", "rows", "()I"⟩, prog_10_method_84_code, 3, some (FieldType.int), 0, false),
  (8, ⟨"ElbowQueueModel", "count", "(I)I"⟩, prog_10_method_85_code, 2, some (FieldType.int), 1, false),
  (8, ⟨"ElbowQueueModel", "status", "()I"⟩, prog_10_method_86_code, 1, some (FieldType.int), 0, false)]
def poolF : List (Nat × Nat × Nat) := [(4011, 4, 0), (4014, 4, 1), (4018, 4, 2), (3011, 3, 0), (3015, 3, 1), (3019, 3, 2), (3022, 3, 3), (5009, 5, 0), (6074, 5, 0), (1035, 5, 0), (7262, 5, 0), (5015, 5, 1), (7211, 5, 1), (6107, 5, 1), (5018, 5, 2), (6057, 5, 2), (5021, 5, 3), (6110, 5, 3), (5024, 5, 4), (6035, 5, 4), (3048, 5, 4), (5028, 5, 5), (6041, 5, 5), (3051, 5, 5), (5031, 5, 6), (6048, 5, 6), (3067, 5, 6), (7276, 5, 6), (5034, 5, 7), (6054, 5, 7), (7157, 5, 7), (3064, 5, 7), (6009, 6, 0), (6015, 6, 1), (6019, 6, 2), (6022, 6, 3), (2055, 6, 3), (7178, 6, 3), (6025, 6, 4), (1062, 6, 4), (7208, 6, 4), (6028, 6, 5), (7214, 6, 5), (6031, 6, 6), (7161, 6, 6), (6040, 6, 7), (7196, 6, 7), (6044, 6, 8), (7199, 6, 8), (2108, 6, 8), (6045, 6, 9), (7172, 6, 9), (2093, 6, 9), (6051, 6, 10), (13, 0, 0), (24, 0, 1), (20, 0, 2), (2009, 2, 0), (7254, 2, 0), (2015, 2, 1), (2024, 2, 2), (2027, 2, 3), (2030, 2, 4), (1015, 1, 0), (1019, 1, 1), (1011, 1, 2), (1026, 1, 3), (7010, 7, 0), (7019, 7, 1), (7026, 7, 2), (7030, 7, 3), (7038, 7, 4), (7047, 7, 5), (7056, 7, 6), (7063, 7, 7), (7067, 7, 8), (7071, 7, 9), (7075, 7, 10), (7153, 7, 11), (7135, 7, 12), (7282, 7, 13), (8007, 8, 0), (8013, 8, 1), (8016, 8, 2), (8020, 8, 3), (8129, 8, 4), (8023, 8, 5), (8056, 8, 6), (8026, 8, 7), (8029, 8, 8), (8032, 8, 9), (8035, 8, 10), (8038, 8, 11), (8041, 8, 12), (8083, 8, 13), (8125, 8, 14), (8091, 8, 15), (8097, 8, 16), (8044, 8, 17), (8047, 8, 18), (8050, 8, 19), (8053, 8, 20), (8240, 8, 21)]
def poolM : List (Nat × Nat) := [(7001, 1001), (7009, 44), (4001, 1001), (3003, 1001), (7025, 56), (5003, 1001), (7035, 60), (6003, 1001), (7044, 0), (3, 1001), (17, 60), (7053, 13), (2003, 1001), (2021, 60), (7062, 5), (1003, 1001), (7079, 45), (7083, 46), (7087, 119), (7091, 51), (7095, 120), (7098, 47), (7101, 50), (7105, 52), (7109, 48), (7112, 53), (4021, 1000), (7116, 54), (7119, 117), (7123, 30), (7128, 31), (7131, 34), (3025, 57), (3030, 35), (3040, 39), (3054, 38), (3044, 41), (3074, 42), (3034, 36), (3057, 43), (3060, 58), (3037, 37), (3070, 40), (7140, 33), (7144, 59), (5037, 1000), (7147, 61), (6058, 81), (7150, 2), (7164, 3), (27, 62), (6062, 1003), (6068, 1000), (31, 1003), (7168, 72), (6086, 73), (6082, 63), (6100, 74), (6089, 75), (6093, 76), (6104, 77), (6096, 79), (6078, 68), (7175, 118), (7182, 63), (7185, 64), (7189, 66), (7193, 75), (7202, 1), (7205, 4), (7217, 65), (7220, 15), (2042, 62), (2046, 14), (2034, 69), (2038, 72), (7224, 67), (7227, 18), (2066, 16), (2050, 17), (2058, 70), (2062, 71), (7230, 22), (2070, 64), (7234, 19), (7238, 20), (7241, 23), (2074, 82), (2078, 83), (6113, 72), (6116, 80), (7244, 24), (2082, 25), (2097, 68), (2100, 26), (2088, 27), (7248, 28), (2104, 67), (7251, 49), (7257, 21), (7260, 62), (7265, 6), (7268, 8), (1031, 9), (1040, 10), (1047, 1002), (1044, 11), (1058, 12), (1067, 63), (7270, 7), (7273, 55), (7279, 32), (8001, 1001), (8067, 125), (8063, 122), (8074, 123), (8078, 124), (8122, 139), (8109, 133), (8094, 131), (8106, 134), (8100, 132), (8115, 138), (8112, 136), (8103, 135), (8119, 137), (8132, 142), (8157, 144), (8164, 154), (8167, 153), (8148, 148), (8135, 146), (8138, 147), (8144, 149), (8151, 151), (8141, 150), (8154, 152), (8171, 143), (8176, 156), (8179, 157), (8184, 159), (8193, 165), (8196, 167), (8199, 168), (8202, 166), (8205, 171), (8208, 175), (8213, 177), (8216, 178), (8223, 182), (8226, 181), (8230, 180), (8233, 185), (8237, 190), (8270, 197), (8255, 145), (8258, 195), (8243, 192), (8249, 194), (8246, 193), (8261, 196), (8252, 200), (8267, 199), (8264, 198), (8273, 203), (7018, 29)]
def poolC : List (Nat × Int) := [(7086, (-1000001)), (7285, (-1000010)), (7127, (-1000003)), (7139, (-1000100)), (7160, (-1000002)), (6077, (-1000000)), (7192, (-1000000)), (2054, (-1000000)), (2092, (-1000001)), (1030, (-1000000)), (8073, (-1000001)), (8060, (-1000010)), (8086, (-1000003)), (8128, (-1000100)), (8161, (-1000002)), (8183, (-1000000))]
def poolL : List (Nat × Int) := [(2086, 10), (8061, 7), (8071, 2), (8081, 255), (8087, 48), (8089, 57), (8162, 20), (8174, 3), (8187, 9), (8189, 5), (8191, 60), (8211, 8), (8219, 16), (8221, 10)]
def poolK : List (Nat × Nat) := [(7007, 4), (4009, 22), (7016, 3), (7023, 5), (7033, 6), (7042, 0), (11, 6), (7051, 2), (2019, 6), (7060, 1)]
def poolS : List (Nat × Nat) := [(1023, 0), (1052, 1), (1055, 2)]
/-! THE LITTLE MACHINE: ints are Int (a step that would leave 32 bits is stuck), an address is a place in a list of shapes, what the cells hold is one function -/
abbrev Vv : Type := Int ⊕ (Int ⊕ Option Nat)
abbrev vI (x : Int) : Vv := .inl x
abbrev vL (x : Int) : Vv := .inr (.inl x)
abbrev vR (r : Option Nat) : Vv := .inr (.inr r)
/-- kind (0..8 a class; 20 int[], 21 boolean[], 22 int[][], 23 Told[], 24 Town[]), length, references -/
abbrev Sh : Type := Nat × Nat × List (Option Nat)
abbrev Mem : Type := Nat → Int → Int
abbrev inR (x : Int) : Prop := -2147483648 ≤ x ∧ x ≤ 2147483647
abbrev inL (x : Int) : Prop := -9223372036854775808 ≤ x ∧ x ≤ 9223372036854775807
def mu (M : Mem) (a : Nat) (i v : Int) : Mem := fun b j => if b = a ∧ j = i then v else M b j
/-- all of one cell 0 -/
def mz (M : Mem) (a : Nat) : Mem := fun b j => if b = a then 0 else M b j
/-- all cells from a on 0 -/
def mzs (M : Mem) (a : Nat) : Mem := fun b j => if a ≤ b then 0 else M b j
def mcp (M : Mem) (a : Nat) (sp : Int) (b : Nat) (dp n : Int) : Mem := fun c j => if c = b ∧ dp ≤ j ∧ j < dp + n then M a (sp + (j - dp)) else M c j
def mOwn (mid : Nat) : Nat := (mT.getD mid (0, ⟨"", "", ""⟩, ⟨#[]⟩, 0, none, 0, false)).1
def mY (mid : Nat) : MethodName := (mT.getD mid (0, ⟨"", "", ""⟩, ⟨#[]⟩, 0, none, 0, false)).2.1
def mB (mid : Nat) : ByteArray := (mT.getD mid (0, ⟨"", "", ""⟩, ⟨#[]⟩, 0, none, 0, false)).2.2.1
def mL (mid : Nat) : Nat := (mT.getD mid (0, ⟨"", "", ""⟩, ⟨#[]⟩, 0, none, 0, false)).2.2.2.1
def mR (mid : Nat) : Option FieldType := (mT.getD mid (0, ⟨"", "", ""⟩, ⟨#[]⟩, 0, none, 0, false)).2.2.2.2.1
def mP (mid : Nat) : Nat := (mT.getD mid (0, ⟨"", "", ""⟩, ⟨#[]⟩, 0, none, 0, false)).2.2.2.2.2.1
def mS (mid : Nat) : Bool := (mT.getD mid (0, ⟨"", "", ""⟩, ⟨#[]⟩, 0, none, 0, false)).2.2.2.2.2.2
def lk {α : Type} : List (Nat × α) → Nat → Option α
  | [], _ => none
  | (k, v) :: r, x => if k = x then some v else lk r x
def sT : Nat → List Int := fun j => match j with
  | 0 => [-1, 0, 1, 1, 0, 4]
  | 1 => [10, 11, 12, 0, 13, 14]
  | _ => [20, 21, 24, 22, 23, 0]
/-- of a class's field: 0 int, 1 a reference, 2 boolean -/
def fT : List (List Nat) := [[1, 0, 0], [1, 1, 1, 0], [1, 1, 1, 1, 1], [1, 0, 0, 0], [1, 1, 1], [1, 1, 1, 1, 0, 0, 0, 0], [1, 1, 1, 1, 1, 1, 0, 0, 0, 0, 0], [1, 1, 1, 1, 1, 1, 1, 1, 1, 1, 1, 2, 0, 0], [1, 1, 1, 1, 0, 1, 0, 1, 1, 1, 1, 1, 1, 0, 0, 0, 0, 1, 1, 1, 1, 0]]
/-- is it final -/
def fF : List (List Bool) := [[true, false, false], [true, true, true, false], [true, true, true, true, true], [true, false, false, false], [true, true, true], [true, true, true, true, false, false, false, false], [true, true, true, true, true, true, false, false, false, false, false], [true, true, true, true, true, true, true, true, true, true, true, false, false, false], [true, true, true, true, false, true, false, true, true, true, true, true, true, false, false, false, false, true, true, true, true, false]]
def fty (ci k : Nat) : Nat := (fT.getD ci []).getD k 9
def ffi (ci k : Nat) : Bool := (fF.getD ci []).getD k true
def fnum (ci : Nat) : Nat := (fT.getD ci []).length
abbrev Lv : Type := List (Option Vv)
abbrev Cfg : Type := Nat × Lv × List Vv × List Sh × Mem
abbrev Act : Type := Cfg ⊕ ((Nat × List Vv × List Vv) ⊕ Option Vv)
def go (pc : Nat) (ls : Lv) (st : List Vv) (S : List Sh) (M : Mem) : Option Act := some (.inl (pc, ls, st, S, M))
def isL (v : Vv) : Bool := match v with
  | .inr (.inl _) => true
  | _ => false
def cat (v : Vv) : Nat := if isL v then 2 else 1
def catS (st : List Vv) : Nat := (st.map cat).sum
def prevL (ls : Lv) (k : Nat) : Bool := match k with
  | 0 => false
  | j + 1 => match ls[j]? with
    | some (some v) => isL v
    | _ => false
def st1 (ls : Lv) (k : Nat) (v : Vv) : Option Lv := if k < ls.length ∧ prevL ls k = false then some (ls.set k (some v)) else none
def st2 (ls : Lv) (k : Nat) (v : Vv) : Option Lv := if k + 1 < ls.length ∧ prevL ls k = false then some ((ls.set k (some v)).set (k + 1) none) else none
def pI (pc : Nat) (ls : Lv) (st : List Vv) (S : List Sh) (M : Mem) (x : Int) : Option Act := if inR x then go pc ls (vI x :: st) S M else none
def pL (pc : Nat) (ls : Lv) (st : List Vv) (S : List Sh) (M : Mem) (x : Int) : Option Act := if inL x then go pc ls (vL x :: st) S M else none
def jmp (pc : Nat) (off : Int) (ls : Lv) (st : List Vv) (S : List Sh) (M : Mem) : Option Act := if 0 ≤ (pc : Int) + off then go ((pc : Int) + off).toNat ls st S M else none
def br (b : Bool) (pc : Nat) (off : Int) (ls : Lv) (st : List Vv) (S : List Sh) (M : Mem) : Option Act := if 0 ≤ (pc : Int) + off then (if b then go ((pc : Int) + off).toNat ls st S M else go (pc + 3) ls st S M) else none
def ldI (pc : Nat) (k : Nat) (ls : Lv) (st : List Vv) (S : List Sh) (M : Mem) : Option Act := match ls[k]? with
  | some (some (.inl x)) => go pc ls (vI x :: st) S M
  | _ => none
def ldL (pc : Nat) (k : Nat) (ls : Lv) (st : List Vv) (S : List Sh) (M : Mem) : Option Act := match ls[k]? with
  | some (some (.inr (.inl x))) => go pc ls (vL x :: st) S M
  | _ => none
def ldA (pc : Nat) (k : Nat) (ls : Lv) (st : List Vv) (S : List Sh) (M : Mem) : Option Act := match ls[k]? with
  | some (some (.inr (.inr (some r)))) => go pc ls (vR (some r) :: st) S M
  | _ => none
def stI (pc : Nat) (k : Nat) (ls : Lv) (st : List Vv) (S : List Sh) (M : Mem) : Option Act := match st with
  | .inl x :: rest => (match st1 ls k (vI x) with
    | some ls' => go pc ls' rest S M
    | none => none)
  | _ => none
def stL (pc : Nat) (k : Nat) (ls : Lv) (st : List Vv) (S : List Sh) (M : Mem) : Option Act := match st with
  | .inr (.inl x) :: rest => (match st2 ls k (vL x) with
    | some ls' => go pc ls' rest S M
    | none => none)
  | _ => none
def stA (pc : Nat) (k : Nat) (ls : Lv) (st : List Vv) (S : List Sh) (M : Mem) : Option Act := match st with
  | .inr (.inr (some r)) :: rest => (match st1 ls k (vR (some r)) with
    | some ls' => go pc ls' rest S M
    | none => none)
  | _ => none
def bI (pc : Nat) (ls : Lv) (st : List Vv) (S : List Sh) (M : Mem) (f : Int → Int → Option Int) : Option Act := match st with
  | .inl y :: .inl x :: rest => (match f x y with
    | some z => pI pc ls rest S M z
    | none => none)
  | _ => none
def bL (pc : Nat) (ls : Lv) (st : List Vv) (S : List Sh) (M : Mem) (f : Int → Int → Option Int) : Option Act := match st with
  | .inr (.inl y) :: .inr (.inl x) :: rest => (match f x y with
    | some z => pL pc ls rest S M z
    | none => none)
  | _ => none
def uI (pc : Nat) (ls : Lv) (st : List Vv) (S : List Sh) (M : Mem) (f : Int → Int) : Option Act := match st with
  | .inl x :: rest => pI pc ls rest S M (f x)
  | _ => none
def cI (pc : Nat) (off : Int) (ls : Lv) (st : List Vv) (S : List Sh) (M : Mem) (f : Int → Int → Bool) : Option Act := match st with
  | .inl y :: .inl x :: rest => br (f x y) pc off ls rest S M
  | _ => none
def c0 (pc : Nat) (off : Int) (ls : Lv) (st : List Vv) (S : List Sh) (M : Mem) (f : Int → Bool) : Option Act := match st with
  | .inl x :: rest => br (f x) pc off ls rest S M
  | _ => none
def aGetf (key pc : Nat) (ls : Lv) (st : List Vv) (S : List Sh) (M : Mem) : Option Act := match st, lk poolF key with
  | .inr (.inr (some a)) :: rest, some (ci, k) => (match S[a]? with
    | some (kd, _, rf) => if kd = ci ∧ k < fnum ci then (if fty ci k = 1 then go (pc + 3) ls (vR (rf.getD k none) :: rest) S M else go (pc + 3) ls (vI (M a k) :: rest) S M) else none
    | none => none)
  | _, _ => none
def aPutf (own : Nat) (ini : Bool) (key pc : Nat) (ls : Lv) (st : List Vv) (S : List Sh) (M : Mem) : Option Act := match st, lk poolF key with
  | v :: .inr (.inr (some a)) :: rest, some (ci, k) => (match S[a]? with
    | some (kd, n, rf) => if kd = ci ∧ k < fnum ci ∧ (ffi ci k = false ∨ (ini = true ∧ own = ci)) then (match v with
        | .inl x => if fty ci k = 0 ∨ (fty ci k = 2 ∧ (x = 0 ∨ x = 1)) then go (pc + 3) ls rest S (mu M a k x) else none
        | .inr (.inr (some r)) => if fty ci k = 1 ∧ k < rf.length then go (pc + 3) ls rest (S.set a (kd, n, rf.set k (some r))) M else none
        | _ => none) else none
    | none => none)
  | _, _ => none
def aIald (pc : Nat) (ls : Lv) (st : List Vv) (S : List Sh) (M : Mem) : Option Act := match st with
  | .inl i :: .inr (.inr (some a)) :: rest => if 0 ≤ i then (if 1000000 ≤ a then (if a < 1000003 then (match (sT (a - 1000000))[i.toNat]? with
      | some x => go (pc + 1) ls (vI x :: rest) S M
      | none => none) else none) else (match S[a]? with
    | some (kd, n, _) => if kd = 20 ∧ i < n then go (pc + 1) ls (vI (M a i) :: rest) S M else none
    | none => none)) else none
  | _ => none
def aIast (pc : Nat) (ls : Lv) (st : List Vv) (S : List Sh) (M : Mem) : Option Act := match st with
  | .inl x :: .inl i :: .inr (.inr (some a)) :: rest => (match S[a]? with
    | some (kd, n, _) => if kd = 20 ∧ 0 ≤ i ∧ i < n then go (pc + 1) ls rest S (mu M a i x) else none
    | none => none)
  | _ => none
def aBald (pc : Nat) (ls : Lv) (st : List Vv) (S : List Sh) (M : Mem) : Option Act := match st with
  | .inl i :: .inr (.inr (some a)) :: rest => (match S[a]? with
    | some (kd, n, _) => if kd = 21 ∧ 0 ≤ i ∧ i < n then go (pc + 1) ls (vI (M a i) :: rest) S M else none
    | none => none)
  | _ => none
def aBast (pc : Nat) (ls : Lv) (st : List Vv) (S : List Sh) (M : Mem) : Option Act := match st with
  | .inl x :: .inl i :: .inr (.inr (some a)) :: rest => (match S[a]? with
    | some (kd, n, _) => if kd = 21 ∧ 0 ≤ i ∧ i < n ∧ (x = 0 ∨ x = 1) then go (pc + 1) ls rest S (mu M a i x) else none
    | none => none)
  | _ => none
def aAald (pc : Nat) (ls : Lv) (st : List Vv) (S : List Sh) (M : Mem) : Option Act := match st with
  | .inl i :: .inr (.inr (some a)) :: rest => (match S[a]? with
    | some (kd, n, rf) => if (kd = 22 ∨ kd = 23 ∨ kd = 24) ∧ 0 ≤ i ∧ i < n then go (pc + 1) ls (vR (rf.getD i.toNat none) :: rest) S M else none
    | none => none)
  | _ => none
def aAast (pc : Nat) (ls : Lv) (st : List Vv) (S : List Sh) (M : Mem) : Option Act := match st with
  | .inr (.inr (some v)) :: .inl i :: .inr (.inr (some a)) :: rest => (match S[a]?, S[v]? with
    | some (kd, n, rf), some (kv, _, _) => if ((kd = 23 ∧ kv = 5) ∨ (kd = 24 ∧ kv = 6)) ∧ 0 ≤ i ∧ i < n ∧ i.toNat < rf.length then go (pc + 1) ls rest (S.set a (kd, n, rf.set i.toNat (some v))) M else none
    | _, _ => none)
  | _ => none
def aAlen (pc : Nat) (ls : Lv) (st : List Vv) (S : List Sh) (M : Mem) : Option Act := match st with
  | .inr (.inr (some a)) :: rest => (match S[a]? with
    | some (kd, n, _) => if 20 ≤ kd ∧ kd ≤ 24 ∧ n < 2147483648 then go (pc + 1) ls (vI n :: rest) S M else none
    | none => none)
  | _ => none
def aNewa (kd pc : Nat) (ls : Lv) (st : List Vv) (S : List Sh) (M : Mem) : Option Act := match st with
  | .inl n :: rest => if 0 ≤ n ∧ n ≤ 10000 ∧ S.length < 1000000 then go (pc + 2) ls (vR (some S.length) :: rest) (S ++ [(kd, n.toNat, [])]) (mzs M S.length) else none
  | _ => none
def aNewq (key pc : Nat) (ls : Lv) (st : List Vv) (S : List Sh) (M : Mem) : Option Act := match st, lk poolK key with
  | .inl n :: rest, some ci => if 0 ≤ n ∧ n ≤ 10000 ∧ (ci = 5 ∨ ci = 6) ∧ S.length < 1000000 then go (pc + 3) ls (vR (some S.length) :: rest) (S ++ [(ci + 18, n.toNat, List.replicate n.toNat none)]) (mzs M S.length) else none
  | _, _ => none
def aNewm (key pc : Nat) (ls : Lv) (st : List Vv) (S : List Sh) (M : Mem) : Option Act := match st, lk poolK key with
  | .inl k :: .inl n :: rest, some ci => if 0 ≤ n ∧ n ≤ 10000 ∧ 0 ≤ k ∧ k ≤ 10000 ∧ ci = 22 ∧ S.length + n.toNat < 1000000 then go (pc + 4) ls (vR (some S.length) :: rest) (S ++ ((22, n.toNat, (List.range n.toNat).map (fun i => some (S.length + 1 + i))) :: List.replicate n.toNat (20, k.toNat, []))) (mzs M S.length) else none
  | _, _ => none
def aNew (key pc : Nat) (ls : Lv) (st : List Vv) (S : List Sh) (M : Mem) : Option Act := match lk poolK key with
  | some ci => if ci < 9 ∧ S.length < 1000000 then go (pc + 3) ls (vR (some S.length) :: st) (S ++ [(ci, fnum ci, List.replicate (fnum ci) none)]) (mzs M S.length) else none
  | none => none
def aInvV (key : Nat) (st : List Vv) (S : List Sh) : Option Act := match lk poolM key with
  | some mid => if mid < 1000 ∧ mS mid = false ∧ (mY mid).name ≠ "<init>" then (match st.drop (mP mid) with
    | .inr (.inr (some a)) :: rest => (match S[a]? with
      | some (kd, _, _) => if kd = mOwn mid ∧ catS rest ≤ 8 ∧ mP mid ≤ st.length then some (.inr (.inl (mid, vR (some a) :: (st.take (mP mid)).reverse, rest))) else none
      | none => none)
    | _ => none) else none
  | none => none
def aInvS (key pc : Nat) (ls : Lv) (st : List Vv) (S : List Sh) (M : Mem) : Option Act := match lk poolM key with
  | some mid => if mid = 1000 then (match st with
      | .inl n :: .inl dp :: .inr (.inr (some b)) :: .inl sp :: .inr (.inr (some a)) :: rest => (match S[a]?, S[b]? with
        | some (ka, na, _), some (kb, nb, _) => if ka = 20 ∧ kb = 20 ∧ 0 ≤ n ∧ 0 ≤ sp ∧ 0 ≤ dp ∧ sp + n ≤ na ∧ dp + n ≤ nb ∧ catS rest ≤ 8 then go (pc + 3) ls rest S (mcp M a sp b dp n) else none
        | _, _ => none)
      | _ => none)
    else if mid = 1002 then (match st with
      | .inl y :: .inl x :: rest => if catS rest ≤ 8 then go (pc + 3) ls (vI (if x < y then y else x) :: rest) S M else none
      | _ => none)
    else if mid = 1003 then (match st with
      | .inl y :: .inl x :: rest => if catS rest ≤ 8 then go (pc + 3) ls (vI (if y < x then y else x) :: rest) S M else none
      | _ => none)
    else if mid < 1000 ∧ mS mid = true ∧ catS (st.drop (mP mid)) ≤ 8 ∧ mP mid ≤ st.length then some (.inr (.inl (mid, (st.take (mP mid)).reverse, st.drop (mP mid)))) else none
  | none => none
def aInvI (key pc : Nat) (ls : Lv) (st : List Vv) (S : List Sh) (M : Mem) : Option Act := match lk poolM key with
  | some mid => if mid = 1001 then (match st with
      | .inr (.inr (some _)) :: rest => if catS rest ≤ 8 then go (pc + 3) ls rest S M else none
      | _ => none)
    else if mid < 1000 ∧ mS mid = false ∧ (mY mid).name = "<init>" ∧ mP mid ≤ st.length then (match st.drop (mP mid) with
      | .inr (.inr (some a)) :: rest => if catS rest ≤ 8 then some (.inr (.inl (mid, vR (some a) :: (st.take (mP mid)).reverse, rest))) else none
      | _ => none) else none
  | none => none
def aIret (rt : Option FieldType) (st : List Vv) : Option Act := match st with
  | [.inl x] => (match rt with
    | some .int => some (.inr (.inr (some (vI x))))
    | some .boolean => if x = 0 ∨ x = 1 then some (.inr (.inr (some (vI x)))) else none
    | _ => none)
  | _ => none
def aLret (rt : Option FieldType) (st : List Vv) : Option Act := match st with
  | [.inr (.inl x)] => (match rt with
    | some .long => some (.inr (.inr (some (vL x))))
    | _ => none)
  | _ => none
def aAret (rt : Option FieldType) (st : List Vv) : Option Act := match st with
  | [.inr (.inr (some x))] => (match rt with
    | some (.object _) => some (.inr (.inr (some (vR (some x)))))
    | _ => none)
  | _ => none
def aVret (rt : Option FieldType) (st : List Vv) : Option Act := match st, rt with
  | [], none => some (.inr (.inr none))
  | _, _ => none
def aTab (dflt lo hi : Int) (offs : Array Int) (pc : Nat) (ls : Lv) (st : List Vv) (S : List Sh) (M : Mem) : Option Act := match st with
  | .inl x :: rest => if x < lo ∨ hi < x then jmp pc dflt ls rest S M else (match offs[(x - lo).toNat]? with
    | some off => jmp pc off ls rest S M
    | none => none)
  | _ => none
def aLook (dflt : Int) (ps : Array (Int × Int)) (pc : Nat) (ls : Lv) (st : List Vv) (S : List Sh) (M : Mem) : Option Act := match st with
  | .inl x :: rest => if (ps.toList.zip (ps.toList.drop 1)).all (fun (a, next) => a.1 < next.1) = true then jmp pc (Op.lookupswitch.offset ps.toList dflt x) ls rest S M else none
  | _ => none
def aDup (pc : Nat) (ls : Lv) (st : List Vv) (S : List Sh) (M : Mem) : Option Act := match st with
  | v :: rest => if isL v then none else go (pc + 1) ls (v :: v :: rest) S M
  | _ => none
def aDup2 (pc : Nat) (ls : Lv) (st : List Vv) (S : List Sh) (M : Mem) : Option Act := match st with
  | v :: w :: rest => if isL v ∨ isL w then none else go (pc + 1) ls (v :: w :: v :: w :: rest) S M
  | _ => none
def aInc (pc : Nat) (k : Nat) (n : Int) (ls : Lv) (st : List Vv) (S : List Sh) (M : Mem) : Option Act := match ls[k]? with
  | some (some (.inl x)) => if inR n ∧ inR (x + n) then (match st1 ls k (vI (x + n)) with
    | some ls' => go (pc + 3) ls' st S M
    | none => none) else none
  | _ => none
def aLcmp (pc : Nat) (ls : Lv) (st : List Vv) (S : List Sh) (M : Mem) : Option Act := match st with
  | .inr (.inl y) :: .inr (.inl x) :: rest => go (pc + 1) ls (vI (if x < y then -1 else if x = y then 0 else 1) :: rest) S M
  | _ => none
def aI2l (pc : Nat) (ls : Lv) (st : List Vv) (S : List Sh) (M : Mem) : Option Act := match st with
  | .inl x :: rest => go (pc + 1) ls (vL x :: rest) S M
  | _ => none
def aL2i (pc : Nat) (ls : Lv) (st : List Vv) (S : List Sh) (M : Mem) : Option Act := match st with
  | .inr (.inl x) :: rest => pI (pc + 1) ls rest S M x
  | _ => none
def aLdc (key pc len : Nat) (ls : Lv) (st : List Vv) (S : List Sh) (M : Mem) : Option Act := match lk poolC key with
  | some x => pI (pc + len) ls st S M x
  | none => none
def aLdc2 (key pc : Nat) (ls : Lv) (st : List Vv) (S : List Sh) (M : Mem) : Option Act := match lk poolL key with
  | some x => pL (pc + 3) ls st S M x
  | none => none
def aGets (key pc : Nat) (ls : Lv) (st : List Vv) (S : List Sh) (M : Mem) : Option Act := match lk poolS key with
  | some j => if j < 3 then go (pc + 3) ls (vR (some (1000000 + j)) :: st) S M else none
  | none => none
def actI (own : Nat) (ini : Bool) (rt : Option FieldType) (i : Instr) (pc : Nat) (ls : Lv) (st : List Vv) (S : List Sh) (M : Mem) : Option Act := match i with
  | .iconst n => pI (pc + 1) ls st S M n
  | .bipush n => if -128 ≤ n ∧ n ≤ 127 then go (pc + 2) ls (vI n :: st) S M else none
  | .sipush n => if -32768 ≤ n ∧ n ≤ 32767 then go (pc + 3) ls (vI n :: st) S M else none
  | .lconst n => go (pc + 1) ls (vL (n.val : Int) :: st) S M
  | .ldc idx => aLdc (own * 1000 + idx) pc 2 ls st S M
  | .ldc_w idx => aLdc (own * 1000 + idx) pc 3 ls st S M
  | .ldc2_w idx => aLdc2 (own * 1000 + idx) pc ls st S M
  | .iload_n k => ldI (pc + 1) k.val ls st S M
  | .iload k => ldI (pc + 2) k ls st S M
  | .lload_n k => ldL (pc + 1) k.val ls st S M
  | .lload k => ldL (pc + 2) k ls st S M
  | .aload_n k => ldA (pc + 1) k.val ls st S M
  | .aload k => ldA (pc + 2) k ls st S M
  | .istore_n k => stI (pc + 1) k.val ls st S M
  | .istore k => stI (pc + 2) k ls st S M
  | .lstore_n k => stL (pc + 1) k.val ls st S M
  | .lstore k => stL (pc + 2) k ls st S M
  | .astore_n k => stA (pc + 1) k.val ls st S M
  | .astore k => stA (pc + 2) k ls st S M
  | .iinc k n => aInc pc k n ls st S M
  | .iadd => bI (pc + 1) ls st S M (fun x y => some (x + y))
  | .isub => bI (pc + 1) ls st S M (fun x y => some (x - y))
  | .imul => bI (pc + 1) ls st S M (fun x y => some (x * y))
  | .idiv => bI (pc + 1) ls st S M (fun x y => if y = 0 then none else some (x.tdiv y))
  | .irem => bI (pc + 1) ls st S M (fun x y => if y = 0 then none else some (x.tmod y))
  | .iand => bI (pc + 1) ls st S M (fun x y => some (Int32.ofInt x &&& Int32.ofInt y).toInt)
  | .ishl => bI (pc + 1) ls st S M (fun x y => some (Int32.ofInt x <<< (Int32.ofInt y &&& 31)).toInt)
  | .ishr => bI (pc + 1) ls st S M (fun x y => some (Int32.ofInt x >>> (Int32.ofInt y &&& 31)).toInt)
  | .ineg => uI (pc + 1) ls st S M (fun x => -x)
  | .i2b => uI (pc + 1) ls st S M (fun x => (Int32.ofInt x).toInt8.toInt32.toInt)
  | .i2s => uI (pc + 1) ls st S M (fun x => (Int32.ofInt x).toInt16.toInt32.toInt)
  | .i2l => aI2l pc ls st S M
  | .l2i => aL2i pc ls st S M
  | .ladd => bL (pc + 1) ls st S M (fun x y => some (x + y))
  | .lmul => bL (pc + 1) ls st S M (fun x y => some (x * y))
  | .ldiv => bL (pc + 1) ls st S M (fun x y => if y = 0 then none else some (x.tdiv y))
  | .lrem => bL (pc + 1) ls st S M (fun x y => if y = 0 then none else some (x.tmod y))
  | .lcmp => aLcmp pc ls st S M
  | .dup => aDup pc ls st S M
  | .dup2 => aDup2 pc ls st S M
  | .goto off => jmp pc off ls st S M
  | .ifCond .eq off => c0 pc off ls st S M (fun x => decide (x = 0))
  | .ifCond .ne off => c0 pc off ls st S M (fun x => decide (¬ x = 0))
  | .ifCond .lt off => c0 pc off ls st S M (fun x => decide (x < 0))
  | .ifCond .ge off => c0 pc off ls st S M (fun x => decide (0 ≤ x))
  | .ifCond .gt off => c0 pc off ls st S M (fun x => decide (0 < x))
  | .ifCond .le off => c0 pc off ls st S M (fun x => decide (x ≤ 0))
  | .if_icmp .eq off => cI pc off ls st S M (fun x y => decide (x = y))
  | .if_icmp .ne off => cI pc off ls st S M (fun x y => decide (¬ x = y))
  | .if_icmp .lt off => cI pc off ls st S M (fun x y => decide (x < y))
  | .if_icmp .ge off => cI pc off ls st S M (fun x y => decide (y ≤ x))
  | .if_icmp .gt off => cI pc off ls st S M (fun x y => decide (y < x))
  | .if_icmp .le off => cI pc off ls st S M (fun x y => decide (x ≤ y))
  | .tableswitch dflt lo hi offs => aTab dflt lo hi offs pc ls st S M
  | .lookupswitch dflt ps => aLook dflt ps pc ls st S M
  | .getfield idx => aGetf (own * 1000 + idx) pc ls st S M
  | .putfield idx => aPutf own ini (own * 1000 + idx) pc ls st S M
  | .getstatic idx => aGets (own * 1000 + idx) pc ls st S M
  | .iaload => aIald pc ls st S M
  | .iastore => aIast pc ls st S M
  | .baload => aBald pc ls st S M
  | .bastore => aBast pc ls st S M
  | .aaload => aAald pc ls st S M
  | .aastore => aAast pc ls st S M
  | .arraylength => aAlen pc ls st S M
  | .newarray .int => aNewa 20 pc ls st S M
  | .newarray .boolean => aNewa 21 pc ls st S M
  | .anewarray idx => aNewq (own * 1000 + idx) pc ls st S M
  | .multianewarray idx 2 => aNewm (own * 1000 + idx) pc ls st S M
  | .new idx => aNew (own * 1000 + idx) pc ls st S M
  | .invokevirtual idx => aInvV (own * 1000 + idx) st S
  | .invokestatic idx => aInvS (own * 1000 + idx) pc ls st S M
  | .invokespecial idx => aInvI (own * 1000 + idx) pc ls st S M
  | .ireturn => aIret rt st
  | .lreturn => aLret rt st
  | .areturn => aAret rt st
  | .return_ => aVret rt st
  | _ => none
def ilen : Instr → Nat := fun i => match i with
  | .bipush _ | .ldc _ | .iload _ | .lload _ | .aload _ | .istore _ | .lstore _ | .astore _ | .newarray _ => 2
  | .sipush _ | .ldc_w _ | .ldc2_w _ | .iinc _ _ | .goto _ | .ifCond _ _ | .if_icmp _ _ | .getfield _ | .putfield _ | .getstatic _ | .anewarray _ | .new _ | .invokevirtual _ | .invokestatic _ | .invokespecial _ => 3
  | .multianewarray _ _ => 4
  | _ => 1
def isSw : Instr → Bool := fun i => match i with
  | .tableswitch _ _ _ _ | .lookupswitch _ _ => true
  | _ => false
def pidx : Instr → Nat := fun i => match i with
  | .ldc k | .ldc_w k | .ldc2_w k | .getfield k | .putfield k | .getstatic k | .anewarray k | .new k | .invokevirtual k | .invokestatic k | .invokespecial k => k
  | .multianewarray k _ => k
  | _ => 0
def ins (mid pc : Nat) : Option Instr := match decode (mB mid) pc with
  | .ok (i, len) => if (len = ilen i ∨ isSw i = true) ∧ pidx i < 1000 then some i else none
  | .error _ => none
def act (mid pc : Nat) (ls : Lv) (st : List Vv) (S : List Sh) (M : Mem) : Option Act := match ins mid pc with
  | some i => actI (mOwn mid) (decide ((mY mid).name = "<init>")) (mR mid) i pc ls st S M
  | none => none
def eLoc : List Vv → Lv
  | [] => []
  | v :: r => if isL v then some v :: none :: eLoc r else some v :: eLoc r
def entryL (mid : Nat) (args : List Vv) : Lv := eLoc args ++ List.replicate (mL mid - (eLoc args).length) none
def run : Nat → Nat → Nat → Nat → Lv → List Vv → List Sh → Mem → Option (Option Vv × List Sh × Mem)
  | 0, _, _, _, _, _, _, _ => none
  | n + 1, d, mid, pc, ls, st, S, M => match act mid pc ls st S M with
    | none => none
    | some (.inl (pc', ls', st', S', M')) => run n d mid pc' ls' st' S' M'
    | some (.inr (.inl (mid', args, rest))) => (match d with
      | 0 => none
      | d' + 1 => if (eLoc args).length ≤ mL mid' then (match run n d' mid' 0 (entryL mid' args) [] S M with
        | none => none
        | some (r, S', M') => run n d mid (pc + 3) ls (r.toList ++ rest) S' M') else none)
    | some (.inr (.inr r)) => some (r, S, M)
