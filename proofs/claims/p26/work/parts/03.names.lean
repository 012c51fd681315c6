/-! names: classes, fields, methods -/
def RX0 : String := "StreetIndex$Street"
def TX0 : u_T := fun k => match k with
  | 0 => ("StreetIndex$Street", "words", "[I", true)
  | 1 => ("StreetIndex$Street", "wordCount", "I", false)
  | 2 => ("StreetIndex$Street", "oneWay", "Z", false)
  | _ => ("StreetIndex$Street", "track", "LStreetIndex$Track;", true)
def tyX0 : Nat → FieldType := fun k => match k with
  | 0 => .array .int
  | 1 => .int
  | 2 => .boolean
  | _ => .object "StreetIndex$Track"
theorem nmX0 : ∀ a, a < 4 → ∀ b, b < 4 → a ≠ b → (TX0 a).2.1 ≠ (TX0 b).2.1 := by decide +kernel
theorem tyX0_ok : ∀ k, k < 4 → parseFieldDescriptor (TX0 k).2.2.1 = some (tyX0 k) := by decide +kernel
abbrev cX0_init : ByteArray := prog_2_method_1_code
def yX0_init : MethodName := ⟨RX0, "<init>", "()V"⟩
abbrev cX0_takeName : ByteArray := prog_2_method_2_code
def yX0_takeName : MethodName := ⟨RX0, "takeName", "(II)V"⟩
abbrev cX0_putKey : ByteArray := prog_2_method_3_code
def yX0_putKey : MethodName := ⟨RX0, "putKey", "([I[I)I"⟩
abbrev cX0_putWordsOf : ByteArray := prog_2_method_4_code
def yX0_putWordsOf : MethodName := ⟨RX0, "putWordsOf", "(I[I[II)I"⟩
abbrev cX0_countMoved : ByteArray := prog_2_method_5_code
def yX0_countMoved : MethodName := ⟨RX0, "countMoved", "([I)I"⟩
def RX1 : String := "StreetIndex$Track"
def TX1 : u_T := fun k => match k with
  | 0 => ("StreetIndex$Track", "path", "[I", true)
  | 1 => ("StreetIndex$Track", "length", "I", false)
  | 2 => ("StreetIndex$Track", "lengths", "[I", true)
  | 3 => ("StreetIndex$Track", "points", "I", false)
  | _ => ("StreetIndex$Track", "rows", "[I", true)
def tyX1 : Nat → FieldType := fun k => match k with
  | 0 => .array .int
  | 1 => .int
  | 2 => .array .int
  | 3 => .int
  | _ => .array .int
theorem nmX1 : ∀ a, a < 5 → ∀ b, b < 5 → a ≠ b → (TX1 a).2.1 ≠ (TX1 b).2.1 := by decide +kernel
theorem tyX1_ok : ∀ k, k < 5 → parseFieldDescriptor (TX1 k).2.2.1 = some (tyX1 k) := by decide +kernel
abbrev cX1_init : ByteArray := prog_3_method_1_code
def yX1_init : MethodName := ⟨RX1, "<init>", "()V"⟩
abbrev cX1_canGoTo : ByteArray := prog_3_method_2_code
def yX1_canGoTo : MethodName := ⟨RX1, "canGoTo", "(II)Z"⟩
abbrev cX1_goTo : ByteArray := prog_3_method_3_code
def yX1_goTo : MethodName := ⟨RX1, "goTo", "(II)V"⟩
abbrev cX1_goStraight : ByteArray := prog_3_method_4_code
def yX1_goStraight : MethodName := ⟨RX1, "goStraight", "(III)V"⟩
abbrev cX1_addSquare : ByteArray := prog_3_method_5_code
def yX1_addSquare : MethodName := ⟨RX1, "addSquare", "(II)V"⟩
abbrev cX1_goBack : ByteArray := prog_3_method_6_code
def yX1_goBack : MethodName := ⟨RX1, "goBack", "()V"⟩
abbrev cX1_covers : ByteArray := prog_3_method_7_code
def yX1_covers : MethodName := ⟨RX1, "covers", "(II)Z"⟩
abbrev cX1_comesTo : ByteArray := prog_3_method_8_code
def yX1_comesTo : MethodName := ⟨RX1, "comesTo", "(I)Z"⟩
abbrev cX1_countSquares : ByteArray := prog_3_method_9_code
def yX1_countSquares : MethodName := ⟨RX1, "countSquares", "()I"⟩
abbrev cX1_countRuns : ByteArray := prog_3_method_10_code
def yX1_countRuns : MethodName := ⟨RX1, "countRuns", "()I"⟩
abbrev cX1_beginsRun : ByteArray := prog_3_method_11_code
def yX1_beginsRun : MethodName := ⟨RX1, "beginsRun", "(II)Z"⟩
abbrev cX1_endOfRun : ByteArray := prog_3_method_12_code
def yX1_endOfRun : MethodName := ⟨RX1, "endOfRun", "(II)I"⟩
abbrev cX1_nearestTo : ByteArray := prog_3_method_13_code
def yX1_nearestTo : MethodName := ⟨RX1, "nearestTo", "(II)I"⟩
def RX2 : String := "StreetIndex$Walks"
def TX2 : u_T := fun k => match k with
  | 0 => ("StreetIndex$Walks", "exits", "[I", true)
  | 1 => ("StreetIndex$Walks", "steps", "[I", true)
  | _ => ("StreetIndex$Walks", "reached", "[I", true)
def tyX2 : Nat → FieldType := fun k => match k with
  | 0 => .array .int
  | 1 => .array .int
  | _ => .array .int
theorem nmX2 : ∀ a, a < 3 → ∀ b, b < 3 → a ≠ b → (TX2 a).2.1 ≠ (TX2 b).2.1 := by decide +kernel
theorem tyX2_ok : ∀ k, k < 3 → parseFieldDescriptor (TX2 k).2.2.1 = some (tyX2 k) := by decide +kernel
abbrev cX2_init : ByteArray := prog_4_method_1_code
def yX2_init : MethodName := ⟨RX2, "<init>", "()V"⟩
abbrev cX2_stepsOf : ByteArray := prog_4_method_2_code
def yX2_stepsOf : MethodName := ⟨RX2, "stepsOf", "(I)I"⟩
abbrev cX2_spread : ByteArray := prog_4_method_3_code
def yX2_spread : MethodName := ⟨RX2, "spread", "([LStreetIndex$Street;II)I"⟩
abbrev cX2_stepFrom : ByteArray := prog_4_method_4_code
def yX2_stepFrom : MethodName := ⟨RX2, "stepFrom", "(II)I"⟩
abbrev cX2_isNew : ByteArray := prog_4_method_5_code
def yX2_isNew : MethodName := ⟨RX2, "isNew", "(I)Z"⟩
abbrev cX2_findExits : ByteArray := prog_4_method_6_code
def yX2_findExits : MethodName := ⟨RX2, "findExits", "([LStreetIndex$Street;I)V"⟩
abbrev cX2_addExits : ByteArray := prog_4_method_7_code
def yX2_addExits : MethodName := ⟨RX2, "addExits", "(LStreetIndex$Track;Z)V"⟩
abbrev cX2_tellBackwards : ByteArray := prog_4_method_8_code
def yX2_tellBackwards : MethodName := ⟨RX2, "tellBackwards", "([LStreetIndex$Street;II)V"⟩
abbrev cX2_tellAlong : ByteArray := prog_4_method_9_code
def yX2_tellAlong : MethodName := ⟨RX2, "tellAlong", "(LStreetIndex$Track;Z)Z"⟩
abbrev cX2_tell : ByteArray := prog_4_method_10_code
def yX2_tell : MethodName := ⟨RX2, "tell", "(II)Z"⟩
def RX3 : String := "StreetIndex$Word"
def TX3 : u_T := fun k => match k with
  | _ => ("", "", "", false)
def tyX3 : Nat → FieldType := fun k => match k with
  | _ => .int
theorem nmX3 : ∀ a, a < 0 → ∀ b, b < 0 → a ≠ b → (TX3 a).2.1 ≠ (TX3 b).2.1 := by decide +kernel
theorem tyX3_ok : ∀ k, k < 0 → parseFieldDescriptor (TX3 k).2.2.1 = some (tyX3 k) := by decide +kernel
def RX4 : String := "StreetIndex"
def TX4 : u_T := fun k => match k with
  | 0 => ("StreetIndex", "kinds", "[I", true)
  | 1 => ("StreetIndex", "plan", "[LStreetIndex$Street;", true)
  | 2 => ("StreetIndex", "streetCount", "I", false)
  | 3 => ("StreetIndex", "oneKey", "[I", true)
  | 4 => ("StreetIndex", "otherKey", "[I", true)
  | _ => ("StreetIndex", "walks", "LStreetIndex$Walks;", true)
def tyX4 : Nat → FieldType := fun k => match k with
  | 0 => .array .int
  | 1 => .array (.object "StreetIndex$Street")
  | 2 => .int
  | 3 => .array .int
  | 4 => .array .int
  | _ => .object "StreetIndex$Walks"
theorem nmX4 : ∀ a, a < 6 → ∀ b, b < 6 → a ≠ b → (TX4 a).2.1 ≠ (TX4 b).2.1 := by decide +kernel
theorem tyX4_ok : ∀ k, k < 6 → parseFieldDescriptor (TX4 k).2.2.1 = some (tyX4 k) := by decide +kernel
abbrev cX4_init : ByteArray := prog_1_method_1_code
def yX4_init : MethodName := ⟨RX4, "<init>", "()V"⟩
abbrev cX4_addStreet : ByteArray := prog_1_method_2_code
def yX4_addStreet : MethodName := ⟨RX4, "addStreet", "(II)I"⟩
abbrev cX4_addPoint : ByteArray := prog_1_method_3_code
def yX4_addPoint : MethodName := ⟨RX4, "addPoint", "(III)I"⟩
abbrev cX4_dropPoint : ByteArray := prog_1_method_4_code
def yX4_dropPoint : MethodName := ⟨RX4, "dropPoint", "(I)I"⟩
abbrev cX4_setOneWay : ByteArray := prog_1_method_5_code
def yX4_setOneWay : MethodName := ⟨RX4, "setOneWay", "(IZ)Z"⟩
abbrev cX4_rename : ByteArray := prog_1_method_6_code
def yX4_rename : MethodName := ⟨RX4, "rename", "(III)V"⟩
abbrev cX4_setKind : ByteArray := prog_1_method_7_code
def yX4_setKind : MethodName := ⟨RX4, "setKind", "(II)I"⟩
abbrev cX4_streets : ByteArray := prog_1_method_8_code
def yX4_streets : MethodName := ⟨RX4, "streets", "()I"⟩
abbrev cX4_streetAt : ByteArray := prog_1_method_9_code
def yX4_streetAt : MethodName := ⟨RX4, "streetAt", "(I)I"⟩
abbrev cX4_placeOf : ByteArray := prog_1_method_10_code
def yX4_placeOf : MethodName := ⟨RX4, "placeOf", "(I)I"⟩
abbrev cX4_compareKeys : ByteArray := prog_1_method_11_code
def yX4_compareKeys : MethodName := ⟨RX4, "compareKeys", "(II)I"⟩
abbrev cX4_lineLength : ByteArray := prog_1_method_12_code
def yX4_lineLength : MethodName := ⟨RX4, "lineLength", "(I)I"⟩
abbrev cX4_lineChar : ByteArray := prog_1_method_13_code
def yX4_lineChar : MethodName := ⟨RX4, "lineChar", "(II)C"⟩
abbrev cX4_trackLength : ByteArray := prog_1_method_14_code
def yX4_trackLength : MethodName := ⟨RX4, "trackLength", "(I)I"⟩
abbrev cX4_squares : ByteArray := prog_1_method_15_code
def yX4_squares : MethodName := ⟨RX4, "squares", "(I)I"⟩
abbrev cX4_runs : ByteArray := prog_1_method_16_code
def yX4_runs : MethodName := ⟨RX4, "runs", "(I)I"⟩
abbrev cX4_isOn : ByteArray := prog_1_method_17_code
def yX4_isOn : MethodName := ⟨RX4, "isOn", "(III)Z"⟩
abbrev cX4_isOnTrack : ByteArray := prog_1_method_18_code
def yX4_isOnTrack : MethodName := ⟨RX4, "isOnTrack", "(III)Z"⟩
abbrev cX4_streetsOf : ByteArray := prog_1_method_19_code
def yX4_streetsOf : MethodName := ⟨RX4, "streetsOf", "(II)I"⟩
abbrev cX4_distance : ByteArray := prog_1_method_20_code
def yX4_distance : MethodName := ⟨RX4, "distance", "(III)I"⟩
abbrev cX4_nearest : ByteArray := prog_1_method_21_code
def yX4_nearest : MethodName := ⟨RX4, "nearest", "(III)I"⟩
abbrev cX4_walk : ByteArray := prog_1_method_22_code
def yX4_walk : MethodName := ⟨RX4, "walk", "(IIII)I"⟩
abbrev cX4_walkByRounds : ByteArray := prog_1_method_23_code
def yX4_walkByRounds : MethodName := ⟨RX4, "walkByRounds", "(IIII)I"⟩
abbrev cX4_reachable : ByteArray := prog_1_method_24_code
def yX4_reachable : MethodName := ⟨RX4, "reachable", "(II)I"⟩
abbrev cX4_checkStreet : ByteArray := prog_1_method_25_code
def yX4_checkStreet : MethodName := ⟨RX4, "checkStreet", "(I)V"⟩
abbrev cX4_checkSquare : ByteArray := prog_1_method_26_code
def yX4_checkSquare : MethodName := ⟨RX4, "checkSquare", "(II)V"⟩
abbrev cX4_checkName : ByteArray := prog_1_method_27_code
def yX4_checkName : MethodName := ⟨RX4, "checkName", "(II)V"⟩
abbrev cX4_wordOf : ByteArray := prog_1_method_28_code
def yX4_wordOf : MethodName := ⟨RX4, "wordOf", "(II)I"⟩
abbrev cX4_squareOf : ByteArray := prog_1_method_29_code
def yX4_squareOf : MethodName := ⟨RX4, "squareOf", "(II)I"⟩
abbrev cX4_apart : ByteArray := prog_1_method_30_code
def yX4_apart : MethodName := ⟨RX4, "apart", "(III)I"⟩
abbrev cX4_countAhead : ByteArray := prog_1_method_31_code
def yX4_countAhead : MethodName := ⟨RX4, "countAhead", "(I)I"⟩
abbrev cX4_indexOrder : ByteArray := prog_1_method_32_code
def yX4_indexOrder : MethodName := ⟨RX4, "indexOrder", "(II)I"⟩
abbrev cX4_keyOrder : ByteArray := prog_1_method_33_code
def yX4_keyOrder : MethodName := ⟨RX4, "keyOrder", "(II)I"⟩
abbrev cX4_nameOrder : ByteArray := prog_1_method_34_code
def yX4_nameOrder : MethodName := ⟨RX4, "nameOrder", "(LStreetIndex$Street;LStreetIndex$Street;)I"⟩
abbrev cX4_wordsOrder : ByteArray := prog_1_method_35_code
def yX4_wordsOrder : MethodName := ⟨RX4, "wordsOrder", "([II[II)I"⟩
abbrev cX4_lettersOrder : ByteArray := prog_1_method_36_code
def yX4_lettersOrder : MethodName := ⟨RX4, "lettersOrder", "(Ljava/lang/String;Ljava/lang/String;)I"⟩
abbrev cX4_sign : ByteArray := prog_1_method_37_code
def yX4_sign : MethodName := ⟨RX4, "sign", "(I)I"⟩
abbrev cX4_lineOf : ByteArray := prog_1_method_38_code
def yX4_lineOf : MethodName := ⟨RX4, "lineOf", "(LStreetIndex$Street;)Ljava/lang/StringBuilder;"⟩
abbrev cX4_appendName : ByteArray := prog_1_method_39_code
def yX4_appendName : MethodName := ⟨RX4, "appendName", "(Ljava/lang/StringBuilder;LStreetIndex$Street;)V"⟩
abbrev cX4_appendWords : ByteArray := prog_1_method_40_code
def yX4_appendWords : MethodName := ⟨RX4, "appendWords", "(Ljava/lang/StringBuilder;LStreetIndex$Street;Z)V"⟩
abbrev cX4_appendRuns : ByteArray := prog_1_method_41_code
def yX4_appendRuns : MethodName := ⟨RX4, "appendRuns", "(Ljava/lang/StringBuilder;LStreetIndex$Track;)V"⟩
abbrev cX4_appendRun : ByteArray := prog_1_method_42_code
def yX4_appendRun : MethodName := ⟨RX4, "appendRun", "(Ljava/lang/StringBuilder;III)V"⟩
def RX5 : String := "StreetIndexModel"
def TX5 : u_T := fun k => match k with
  | _ => ("", "", "", false)
def tyX5 : Nat → FieldType := fun k => match k with
  | _ => .int
theorem nmX5 : ∀ a, a < 0 → ∀ b, b < 0 → a ≠ b → (TX5 a).2.1 ≠ (TX5 b).2.1 := by decide +kernel
theorem tyX5_ok : ∀ k, k < 0 → parseFieldDescriptor (TX5 k).2.2.1 = some (tyX5 k) := by decide +kernel
def RJx145de : String := "java/io/Serializable"
def TJx145de : u_T := fun k => match k with
  | _ => ("", "", "", false)
def tyJx145de : Nat → FieldType := fun k => match k with
  | _ => .int
theorem nmJx145de : ∀ a, a < 0 → ∀ b, b < 0 → a ≠ b → (TJx145de a).2.1 ≠ (TJx145de b).2.1 := by decide +kernel
theorem tyJx145de_ok : ∀ k, k < 0 → parseFieldDescriptor (TJx145de k).2.2.1 = some (tyJx145de k) := by decide +kernel
def RJ5 : String := "java/lang/AbstractStringBuilder"
def TJ5 : u_T := fun k => match k with
  | _ => ("", "", "", false)
def tyJ5 : Nat → FieldType := fun k => match k with
  | _ => .int
theorem nmJ5 : ∀ a, a < 0 → ∀ b, b < 0 → a ≠ b → (TJ5 a).2.1 ≠ (TJ5 b).2.1 := by decide +kernel
theorem tyJ5_ok : ∀ k, k < 0 → parseFieldDescriptor (TJ5 k).2.2.1 = some (tyJ5 k) := by decide +kernel
abbrev cJ5_init_d00df : ByteArray := prog_8_method_2_code
def yJ5_init_d00df : MethodName := ⟨RJ5, "<init>", "(I)V"⟩
abbrev cJ5_length_8abf5 : ByteArray := prog_8_method_6_code
def yJ5_length_8abf5 : MethodName := ⟨RJ5, "length", "()I"⟩
abbrev cJ5_ensureCapacityInternal_d00df : ByteArray := prog_8_method_9_code
def yJ5_ensureCapacityInternal_d00df : MethodName := ⟨RJ5, "ensureCapacityInternal", "(I)V"⟩
abbrev cJ5_newCapacity_0f7a4 : ByteArray := prog_8_method_10_code
def yJ5_newCapacity_0f7a4 : MethodName := ⟨RJ5, "newCapacity", "(I)I"⟩
abbrev cJ5_inflate_da8c8 : ByteArray := prog_8_method_11_code
def yJ5_inflate_da8c8 : MethodName := ⟨RJ5, "inflate", "()V"⟩
abbrev cJ5_charAt_5068e : ByteArray := prog_8_method_14_code
def yJ5_charAt_5068e : MethodName := ⟨RJ5, "charAt", "(I)C"⟩
abbrev cJ5_append_cf1ce : ByteArray := prog_8_method_22_code
def yJ5_append_cf1ce : MethodName := ⟨RJ5, "append", "(Ljava/lang/String;)Ljava/lang/AbstractStringBuilder;"⟩
abbrev cJ5_appendNull_278bc : ByteArray := prog_8_method_26_code
def yJ5_appendNull_278bc : MethodName := ⟨RJ5, "appendNull", "()Ljava/lang/AbstractStringBuilder;"⟩
abbrev cJ5_append_3fe6f : ByteArray := prog_8_method_31_code
def yJ5_append_3fe6f : MethodName := ⟨RJ5, "append", "(C)Ljava/lang/AbstractStringBuilder;"⟩
abbrev cJ5_append_c97b9 : ByteArray := prog_8_method_32_code
def yJ5_append_c97b9 : MethodName := ⟨RJ5, "append", "(I)Ljava/lang/AbstractStringBuilder;"⟩
abbrev cJ5_isLatin1_aae02 : ByteArray := prog_8_method_68_code
def yJ5_isLatin1_aae02 : MethodName := ⟨RJ5, "isLatin1", "()Z"⟩
abbrev cJ5_inflateIfNeededFor_a7421 : ByteArray := prog_8_method_71_code
def yJ5_inflateIfNeededFor_a7421 : MethodName := ⟨RJ5, "inflateIfNeededFor", "(Ljava/lang/String;)V"⟩
abbrev cJ5_putStringAt_47b60 : ByteArray := prog_8_method_73_code
def yJ5_putStringAt_47b60 : MethodName := ⟨RJ5, "putStringAt", "(ILjava/lang/String;)V"⟩
def RJx2cfe8 : String := "java/lang/Appendable"
def TJx2cfe8 : u_T := fun k => match k with
  | _ => ("", "", "", false)
def tyJx2cfe8 : Nat → FieldType := fun k => match k with
  | _ => .int
theorem nmJx2cfe8 : ∀ a, a < 0 → ∀ b, b < 0 → a ≠ b → (TJx2cfe8 a).2.1 ≠ (TJx2cfe8 b).2.1 := by decide +kernel
theorem tyJx2cfe8_ok : ∀ k, k < 0 → parseFieldDescriptor (TJx2cfe8 k).2.2.1 = some (tyJx2cfe8 k) := by decide +kernel
def RJx9f9b0 : String := "java/lang/CharSequence"
def TJx9f9b0 : u_T := fun k => match k with
  | _ => ("", "", "", false)
def tyJx9f9b0 : Nat → FieldType := fun k => match k with
  | _ => .int
theorem nmJx9f9b0 : ∀ a, a < 0 → ∀ b, b < 0 → a ≠ b → (TJx9f9b0 a).2.1 ≠ (TJx9f9b0 b).2.1 := by decide +kernel
theorem tyJx9f9b0_ok : ∀ k, k < 0 → parseFieldDescriptor (TJx9f9b0 k).2.2.1 = some (tyJx9f9b0 k) := by decide +kernel
def RJx8e188 : String := "java/lang/Cloneable"
def TJx8e188 : u_T := fun k => match k with
  | _ => ("", "", "", false)
def tyJx8e188 : Nat → FieldType := fun k => match k with
  | _ => .int
theorem nmJx8e188 : ∀ a, a < 0 → ∀ b, b < 0 → a ≠ b → (TJx8e188 a).2.1 ≠ (TJx8e188 b).2.1 := by decide +kernel
theorem tyJx8e188_ok : ∀ k, k < 0 → parseFieldDescriptor (TJx8e188 k).2.2.1 = some (tyJx8e188 k) := by decide +kernel
def RJxb160c : String := "java/lang/Comparable"
def TJxb160c : u_T := fun k => match k with
  | _ => ("", "", "", false)
def tyJxb160c : Nat → FieldType := fun k => match k with
  | _ => .int
theorem nmJxb160c : ∀ a, a < 0 → ∀ b, b < 0 → a ≠ b → (TJxb160c a).2.1 ≠ (TJxb160c b).2.1 := by decide +kernel
theorem tyJxb160c_ok : ∀ k, k < 0 → parseFieldDescriptor (TJxb160c k).2.2.1 = some (tyJxb160c k) := by decide +kernel
def RJx29ce0 : String := "java/lang/Enum"
def TJx29ce0 : u_T := fun k => match k with
  | _ => ("", "", "", false)
def tyJx29ce0 : Nat → FieldType := fun k => match k with
  | _ => .int
theorem nmJx29ce0 : ∀ a, a < 0 → ∀ b, b < 0 → a ≠ b → (TJx29ce0 a).2.1 ≠ (TJx29ce0 b).2.1 := by decide +kernel
theorem tyJx29ce0_ok : ∀ k, k < 0 → parseFieldDescriptor (TJx29ce0 k).2.2.1 = some (tyJx29ce0 k) := by decide +kernel
def RJ6 : String := "java/lang/Integer"
def TJ6 : u_T := fun k => match k with
  | _ => ("", "", "", false)
def tyJ6 : Nat → FieldType := fun k => match k with
  | _ => .int
theorem nmJ6 : ∀ a, a < 0 → ∀ b, b < 0 → a ≠ b → (TJ6 a).2.1 ≠ (TJ6 b).2.1 := by decide +kernel
theorem tyJ6_ok : ∀ k, k < 0 → parseFieldDescriptor (TJ6 k).2.2.1 = some (tyJ6 k) := by decide +kernel
abbrev cJ6_getChars_ba4f3 : ByteArray := prog_15_method_12_code
def yJ6_getChars_ba4f3 : MethodName := ⟨RJ6, "getChars", "(II[B)I"⟩
abbrev cJ6_stringSize_0f7a4 : ByteArray := prog_15_method_13_code
def yJ6_stringSize_0f7a4 : MethodName := ⟨RJ6, "stringSize", "(I)I"⟩
abbrev cJ6_bitCount_0f7a4 : ByteArray := prog_15_method_49_code
def yJ6_bitCount_0f7a4 : MethodName := ⟨RJ6, "bitCount", "(I)I"⟩
def RJ9 : String := "java/lang/Math"
def TJ9 : u_T := fun k => match k with
  | _ => ("", "", "", false)
def tyJ9 : Nat → FieldType := fun k => match k with
  | _ => .int
theorem nmJ9 : ∀ a, a < 0 → ∀ b, b < 0 → a ≠ b → (TJ9 a).2.1 ≠ (TJ9 b).2.1 := by decide +kernel
theorem tyJ9_ok : ∀ k, k < 0 → parseFieldDescriptor (TJ9 k).2.2.1 = some (tyJ9 k) := by decide +kernel
abbrev cJ9_abs_0f7a4 : ByteArray := prog_16_method_59_code
def yJ9_abs_0f7a4 : MethodName := ⟨RJ9, "abs", "(I)I"⟩
abbrev cJ9_max_7cf53 : ByteArray := prog_16_method_65_code
def yJ9_max_7cf53 : MethodName := ⟨RJ9, "max", "(II)I"⟩
abbrev cJ9_min_7cf53 : ByteArray := prog_16_method_69_code
def yJ9_min_7cf53 : MethodName := ⟨RJ9, "min", "(II)I"⟩
def RJxd2413 : String := "java/lang/Number"
def TJxd2413 : u_T := fun k => match k with
  | _ => ("", "", "", false)
def tyJxd2413 : Nat → FieldType := fun k => match k with
  | _ => .int
theorem nmJxd2413 : ∀ a, a < 0 → ∀ b, b < 0 → a ≠ b → (TJxd2413 a).2.1 ≠ (TJxd2413 b).2.1 := by decide +kernel
theorem tyJxd2413_ok : ∀ k, k < 0 → parseFieldDescriptor (TJxd2413 k).2.2.1 = some (tyJxd2413 k) := by decide +kernel
def RJ0 : String := "java/lang/String"
def TJ0 : u_T := fun k => match k with
  | _ => ("", "", "", false)
def tyJ0 : Nat → FieldType := fun k => match k with
  | _ => .int
theorem nmJ0 : ∀ a, a < 0 → ∀ b, b < 0 → a ≠ b → (TJ0 a).2.1 ≠ (TJ0 b).2.1 := by decide +kernel
theorem tyJ0_ok : ∀ k, k < 0 → parseFieldDescriptor (TJ0 k).2.2.1 = some (tyJ0 k) := by decide +kernel
abbrev cJ0_length_8abf5 : ByteArray := prog_19_method_54_code
def yJ0_length_8abf5 : MethodName := ⟨RJ0, "length", "()I"⟩
abbrev cJ0_charAt_5068e : ByteArray := prog_19_method_56_code
def yJ0_charAt_5068e : MethodName := ⟨RJ0, "charAt", "(I)C"⟩
abbrev cJ0_getBytes_840e7 : ByteArray := prog_19_method_147_code
def yJ0_getBytes_840e7 : MethodName := ⟨RJ0, "getBytes", "([BIB)V"⟩
abbrev cJ0_coder_7d493 : ByteArray := prog_19_method_152_code
def yJ0_coder_7d493 : MethodName := ⟨RJ0, "coder", "()B"⟩
abbrev cJ0_isLatin1_aae02 : ByteArray := prog_19_method_154_code
def yJ0_isLatin1_aae02 : MethodName := ⟨RJ0, "isLatin1", "()Z"⟩
abbrev cJ0_checkIndex_df160 : ByteArray := prog_19_method_155_code
def yJ0_checkIndex_df160 : MethodName := ⟨RJ0, "checkIndex", "(II)V"⟩
abbrev cJ0_checkBoundsOffCount_cabcc : ByteArray := prog_19_method_157_code
def yJ0_checkBoundsOffCount_cabcc : MethodName := ⟨RJ0, "checkBoundsOffCount", "(III)I"⟩
abbrev cJ0_checkBoundsBeginEnd_23922 : ByteArray := prog_19_method_158_code
def yJ0_checkBoundsBeginEnd_23922 : MethodName := ⟨RJ0, "checkBoundsBeginEnd", "(III)V"⟩
def RJ4 : String := "java/lang/StringBuilder"
def TJ4 : u_T := fun k => match k with
  | 0 => ("java/lang/AbstractStringBuilder", "value", "[B", false)
  | 1 => ("java/lang/AbstractStringBuilder", "coder", "B", false)
  | 2 => ("java/lang/AbstractStringBuilder", "maybeLatin1", "Z", false)
  | _ => ("java/lang/AbstractStringBuilder", "count", "I", false)
def tyJ4 : Nat → FieldType := fun k => match k with
  | 0 => .array .byte
  | 1 => .byte
  | 2 => .boolean
  | _ => .int
theorem nmJ4 : ∀ a, a < 4 → ∀ b, b < 4 → a ≠ b → (TJ4 a).2.1 ≠ (TJ4 b).2.1 := by decide +kernel
theorem tyJ4_ok : ∀ k, k < 4 → parseFieldDescriptor (TJ4 k).2.2.1 = some (tyJ4 k) := by decide +kernel
abbrev cJ4_init_da8c8 : ByteArray := prog_20_method_1_code
def yJ4_init_da8c8 : MethodName := ⟨RJ4, "<init>", "()V"⟩
abbrev cJ4_append_15ec4 : ByteArray := prog_20_method_7_code
def yJ4_append_15ec4 : MethodName := ⟨RJ4, "append", "(Ljava/lang/String;)Ljava/lang/StringBuilder;"⟩
abbrev cJ4_append_cf468 : ByteArray := prog_20_method_14_code
def yJ4_append_cf468 : MethodName := ⟨RJ4, "append", "(C)Ljava/lang/StringBuilder;"⟩
abbrev cJ4_append_bf812 : ByteArray := prog_20_method_15_code
def yJ4_append_bf812 : MethodName := ⟨RJ4, "append", "(I)Ljava/lang/StringBuilder;"⟩
abbrev cJ4_charAt_5068e : ByteArray := prog_20_method_88_code
def yJ4_charAt_5068e : MethodName := ⟨RJ4, "charAt", "(I)C"⟩
abbrev cJ4_length_8abf5 : ByteArray := prog_20_method_93_code
def yJ4_length_8abf5 : MethodName := ⟨RJ4, "length", "()I"⟩
def RJ1 : String := "java/lang/StringLatin1"
def TJ1 : u_T := fun k => match k with
  | _ => ("", "", "", false)
def tyJ1 : Nat → FieldType := fun k => match k with
  | _ => .int
theorem nmJ1 : ∀ a, a < 0 → ∀ b, b < 0 → a ≠ b → (TJ1 a).2.1 ≠ (TJ1 b).2.1 := by decide +kernel
theorem tyJ1_ok : ∀ k, k < 0 → parseFieldDescriptor (TJ1 k).2.2.1 = some (tyJ1 k) := by decide +kernel
abbrev cJ1_charAt_3b067 : ByteArray := prog_21_method_2_code
def yJ1_charAt_3b067 : MethodName := ⟨RJ1, "charAt", "([BI)C"⟩
abbrev cJ1_canEncode_fc78d : ByteArray := prog_21_method_3_code
def yJ1_canEncode_fc78d : MethodName := ⟨RJ1, "canEncode", "(C)Z"⟩
abbrev cJ1_inflate_0e8fd : ByteArray := prog_21_method_50_code
def yJ1_inflate_0e8fd : MethodName := ⟨RJ1, "inflate", "([BI[BII)V"⟩
def RJ2 : String := "java/lang/StringUTF16"
def TJ2 : u_T := fun k => match k with
  | _ => ("", "", "", false)
def tyJ2 : Nat → FieldType := fun k => match k with
  | _ => .int
theorem nmJ2 : ∀ a, a < 0 → ∀ b, b < 0 → a ≠ b → (TJ2 a).2.1 ≠ (TJ2 b).2.1 := by decide +kernel
theorem tyJ2_ok : ∀ k, k < 0 → parseFieldDescriptor (TJ2 k).2.2.1 = some (tyJ2 k) := by decide +kernel
abbrev cJ2_newBytesFor_77867 : ByteArray := prog_22_method_2_code
def yJ2_newBytesFor_77867 : MethodName := ⟨RJ2, "newBytesFor", "(I)[B"⟩
abbrev cJ2_newBytesLength_0f7a4 : ByteArray := prog_22_method_3_code
def yJ2_newBytesLength_0f7a4 : MethodName := ⟨RJ2, "newBytesLength", "(I)I"⟩
abbrev cJ2_putChar_b72d1 : ByteArray := prog_22_method_4_code
def yJ2_putChar_b72d1 : MethodName := ⟨RJ2, "putChar", "([BII)V"⟩
abbrev cJ2_getChar_3b067 : ByteArray := prog_22_method_5_code
def yJ2_getChar_3b067 : MethodName := ⟨RJ2, "getChar", "([BI)C"⟩
abbrev cJ2_length_9d52b : ByteArray := prog_22_method_6_code
def yJ2_length_9d52b : MethodName := ⟨RJ2, "length", "([B)I"⟩
abbrev cJ2_putCharSB_b72d1 : ByteArray := prog_22_method_71_code
def yJ2_putCharSB_b72d1 : MethodName := ⟨RJ2, "putCharSB", "([BII)V"⟩
abbrev cJ2_getChars_46870 : ByteArray := prog_22_method_77_code
def yJ2_getChars_46870 : MethodName := ⟨RJ2, "getChars", "(III[B)I"⟩
abbrev cJ2_putCharsAt_cd4e5 : ByteArray := prog_22_method_81_code
def yJ2_putCharsAt_cd4e5 : MethodName := ⟨RJ2, "putCharsAt", "([BICCCC)I"⟩
abbrev cJ2_charAt_3b067 : ByteArray := prog_22_method_83_code
def yJ2_charAt_3b067 : MethodName := ⟨RJ2, "charAt", "([BI)C"⟩
abbrev cJ2_inflate_0e8fd : ByteArray := prog_22_method_86_code
def yJ2_inflate_0e8fd : MethodName := ⟨RJ2, "inflate", "([BI[BII)V"⟩
abbrev cJ2_getChars_ba4f3 : ByteArray := prog_22_method_89_code
def yJ2_getChars_ba4f3 : MethodName := ⟨RJ2, "getChars", "(II[B)I"⟩
abbrev cJ2_checkIndex_2214a : ByteArray := prog_22_method_91_code
def yJ2_checkIndex_2214a : MethodName := ⟨RJ2, "checkIndex", "(I[B)V"⟩
abbrev cJ2_checkBoundsBeginEnd_d044e : ByteArray := prog_22_method_93_code
def yJ2_checkBoundsBeginEnd_d044e : MethodName := ⟨RJ2, "checkBoundsBeginEnd", "(II[B)V"⟩
abbrev cJ2_checkBoundsOffCount_d044e : ByteArray := prog_22_method_94_code
def yJ2_checkBoundsOffCount_d044e : MethodName := ⟨RJ2, "checkBoundsOffCount", "(II[B)V"⟩
def RJ10 : String := "java/lang/System"
def TJ10 : u_T := fun k => match k with
  | _ => ("", "", "", false)
def tyJ10 : Nat → FieldType := fun k => match k with
  | _ => .int
theorem nmJ10 : ∀ a, a < 0 → ∀ b, b < 0 → a ≠ b → (TJ10 a).2.1 ≠ (TJ10 b).2.1 := by decide +kernel
theorem tyJ10_ok : ∀ k, k < 0 → parseFieldDescriptor (TJ10 k).2.2.1 = some (tyJ10 k) := by decide +kernel
def RJxfd54e : String := "java/lang/constant/Constable"
def TJxfd54e : u_T := fun k => match k with
  | _ => ("", "", "", false)
def tyJxfd54e : Nat → FieldType := fun k => match k with
  | _ => .int
theorem nmJxfd54e : ∀ a, a < 0 → ∀ b, b < 0 → a ≠ b → (TJxfd54e a).2.1 ≠ (TJxfd54e b).2.1 := by decide +kernel
theorem tyJxfd54e_ok : ∀ k, k < 0 → parseFieldDescriptor (TJxfd54e k).2.2.1 = some (tyJxfd54e k) := by decide +kernel
def RJx3cf43 : String := "java/lang/constant/ConstantDesc"
def TJx3cf43 : u_T := fun k => match k with
  | _ => ("", "", "", false)
def tyJx3cf43 : Nat → FieldType := fun k => match k with
  | _ => .int
theorem nmJx3cf43 : ∀ a, a < 0 → ∀ b, b < 0 → a ≠ b → (TJx3cf43 a).2.1 ≠ (TJx3cf43 b).2.1 := by decide +kernel
theorem tyJx3cf43_ok : ∀ k, k < 0 → parseFieldDescriptor (TJx3cf43 k).2.2.1 = some (tyJx3cf43 k) := by decide +kernel
def RJ7 : String := "java/util/Arrays"
def TJ7 : u_T := fun k => match k with
  | _ => ("", "", "", false)
def tyJ7 : Nat → FieldType := fun k => match k with
  | _ => .int
theorem nmJ7 : ∀ a, a < 0 → ∀ b, b < 0 → a ≠ b → (TJ7 a).2.1 ≠ (TJ7 b).2.1 := by decide +kernel
theorem tyJ7_ok : ∀ k, k < 0 → parseFieldDescriptor (TJ7 k).2.2.1 = some (tyJ7 k) := by decide +kernel
abbrev cJ7_fill_53178 : ByteArray := prog_25_method_103_code
def yJ7_fill_53178 : MethodName := ⟨RJ7, "fill", "([II)V"⟩
abbrev cJ7_copyOf_9075b : ByteArray := prog_25_method_121_code
def yJ7_copyOf_9075b : MethodName := ⟨RJ7, "copyOf", "([BI)[B"⟩
def RJ8 : String := "jdk/internal/util/ArraysSupport"
def TJ8 : u_T := fun k => match k with
  | _ => ("", "", "", false)
def tyJ8 : Nat → FieldType := fun k => match k with
  | _ => .int
theorem nmJ8 : ∀ a, a < 0 → ∀ b, b < 0 → a ≠ b → (TJ8 a).2.1 ≠ (TJ8 b).2.1 := by decide +kernel
theorem tyJ8_ok : ∀ k, k < 0 → parseFieldDescriptor (TJ8 k).2.2.1 = some (tyJ8 k) := by decide +kernel
abbrev cJ8_newLength_cabcc : ByteArray := prog_26_method_27_code
def yJ8_newLength_cabcc : MethodName := ⟨RJ8, "newLength", "(III)I"⟩
abbrev cJ8_hugeLength_7cf53 : ByteArray := prog_26_method_28_code
def yJ8_hugeLength_7cf53 : MethodName := ⟨RJ8, "hugeLength", "(II)I"⟩
def RJ3 : String := "jdk/internal/util/Preconditions"
def TJ3 : u_T := fun k => match k with
  | _ => ("", "", "", false)
def tyJ3 : Nat → FieldType := fun k => match k with
  | _ => .int
theorem nmJ3 : ∀ a, a < 0 → ∀ b, b < 0 → a ≠ b → (TJ3 a).2.1 ≠ (TJ3 b).2.1 := by decide +kernel
theorem tyJ3_ok : ∀ k, k < 0 → parseFieldDescriptor (TJ3 k).2.2.1 = some (tyJ3 k) := by decide +kernel
abbrev cJ3_checkIndex_8e157 : ByteArray := prog_27_method_11_code
def yJ3_checkIndex_8e157 : MethodName := ⟨RJ3, "checkIndex", "(IILjava/util/function/BiFunction;)I"⟩
abbrev cJ3_checkFromToIndex_8c36e : ByteArray := prog_27_method_12_code
def yJ3_checkFromToIndex_8c36e : MethodName := ⟨RJ3, "checkFromToIndex", "(IIILjava/util/function/BiFunction;)I"⟩
abbrev cJ3_checkFromIndexSize_8c36e : ByteArray := prog_27_method_13_code
def yJ3_checkFromIndexSize_8c36e : MethodName := ⟨RJ3, "checkFromIndexSize", "(IIILjava/util/function/BiFunction;)I"⟩
def RL : String := "StreetIndexLaw"
abbrev cL_from : ByteArray := method_2_code
def yL_from : MethodName := ⟨RL, "from", "([III)I"⟩
abbrev cL_rank : ByteArray := method_3_code
def yL_rank : MethodName := ⟨RL, "rank", "(I)I"⟩
abbrev cL_keyWord : ByteArray := method_4_code
def yL_keyWord : MethodName := ⟨RL, "keyWord", "([I[III)I"⟩
abbrev cL_compare : ByteArray := method_5_code
def yL_compare : MethodName := ⟨RL, "compare", "([I[IIIZ)I"⟩
abbrev cL_isAhead : ByteArray := method_6_code
def yL_isAhead : MethodName := ⟨RL, "isAhead", "([I[III)Z"⟩
abbrev cL_square : ByteArray := method_7_code
def yL_square : MethodName := ⟨RL, "square", "([III)I"⟩
abbrev cL_isOn : ByteArray := method_8_code
def yL_isOn : MethodName := ⟨RL, "isOn", "([III)Z"⟩
abbrev cL_sign : ByteArray := method_9_code
def yL_sign : MethodName := ⟨RL, "sign", "(LStreetIndex;III)I"⟩
abbrev cL_number : ByteArray := method_10_code
def yL_number : MethodName := ⟨RL, "number", "(LStreetIndex;III)I"⟩
abbrev cL_word : ByteArray := method_11_code
def yL_word : MethodName := ⟨RL, "word", "(LStreetIndex;III)I"⟩
abbrev cL_letter : ByteArray := method_12_code
def yL_letter : MethodName := ⟨RL, "letter", "(II)I"⟩
abbrev cL_isLine : ByteArray := method_13_code
def yL_isLine : MethodName := ⟨RL, "isLine", "(LStreetIndex;[I[I[II)Z"⟩
abbrev cL_apart : ByteArray := method_14_code
def yL_apart : MethodName := ⟨RL, "apart", "(II)I"⟩
abbrev cL_isNear : ByteArray := method_15_code
def yL_isNear : MethodName := ⟨RL, "isNear", "(LStreetIndex;[III)Z"⟩
abbrev cL_has : ByteArray := method_16_code
def yL_has : MethodName := ⟨RL, "has", "([JI)Z"⟩
abbrev cL_isWalk : ByteArray := method_17_code
def yL_isWalk : MethodName := ⟨RL, "isWalk", "(LStreetIndex;[IIII)Z"⟩
abbrev cL_isIndex : ByteArray := method_18_code
def yL_isIndex : MethodName := ⟨RL, "isIndex", "(LStreetIndex;[I[II)Z"⟩
abbrev cL_drawn : ByteArray := method_19_code
def yL_drawn : MethodName := ⟨RL, "drawn", "(I)I"⟩
abbrev cL_named : ByteArray := method_20_code
def yL_named : MethodName := ⟨RL, "named", "([III)I"⟩
abbrev cL_added : ByteArray := method_21_code
def yL_added : MethodName := ⟨RL, "added", "(LStreetIndex;III)I"⟩
abbrev cL_isPointed : ByteArray := method_22_code
def yL_isPointed : MethodName := ⟨RL, "isPointed", "(LStreetIndex;[III)Z"⟩
abbrev cL_holds : ByteArray := method_23_code
def yL_holds : MethodName := ⟨RL, "holds", "([I)Z"⟩
abbrev cL_isHeld : ByteArray := method_24_code
def yL_isHeld : MethodName := ⟨RL, "isHeld", "([I)Z"⟩
abbrev cL_law : ByteArray := code
def yL_law : MethodName := ⟨RL, "law", "([I)Z"⟩
