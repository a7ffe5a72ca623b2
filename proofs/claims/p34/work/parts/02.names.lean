def RX0 : String := "CatEvenings$Evening"
def TX0 : u_T := fun k => match k with
  | 0 => ("CatEvenings$Evening", "parent", "LCatEvenings$Evening;", true)
  | 1 => ("CatEvenings$Evening", "label", "I", true)
  | 2 => ("CatEvenings$Evening", "kind", "I", true)
  | 3 => ("CatEvenings$Evening", "number", "I", true)
  | 4 => ("CatEvenings$Evening", "depth", "I", true)
  | 5 => ("CatEvenings$Evening", "scene", "LCatEvenings$Scene;", false)
  | 6 => ("CatEvenings$Evening", "latestChild", "LCatEvenings$Evening;", false)
  | 7 => ("CatEvenings$Evening", "children", "I", false)
  | _ => ("CatEvenings$Evening", "descendants", "I", false)
def tyX0 : Nat → FieldType := fun k => match k with
  | 0 => .object "CatEvenings$Evening"
  | 1 => .int
  | 2 => .int
  | 3 => .int
  | 4 => .int
  | 5 => .object "CatEvenings$Scene"
  | 6 => .object "CatEvenings$Evening"
  | 7 => .int
  | _ => .int
theorem nmX0 : ∀ a, a < 9 → ∀ b, b < 9 → a ≠ b → (TX0 a).2.1 ≠ (TX0 b).2.1 := by decide +kernel
theorem tyX0_ok : ∀ k, k < 9 → parseFieldDescriptor (TX0 k).2.2.1 = some (tyX0 k) := by decide +kernel
abbrev cX0_init : ByteArray := prog_2_method_1_code
def yX0_init : MethodName := ⟨RX0, "<init>", "(LCatEvenings$Evening;IIILCatEvenings$Scene;)V"⟩
abbrev cX0_above : ByteArray := prog_2_method_2_code
def yX0_above : MethodName := ⟨RX0, "above", "()LCatEvenings$Evening;"⟩
abbrev cX0_isEnd : ByteArray := prog_2_method_3_code
def yX0_isEnd : MethodName := ⟨RX0, "isEnd", "()Z"⟩
abbrev cX0_countAbove : ByteArray := prog_2_method_4_code
def yX0_countAbove : MethodName := ⟨RX0, "countAbove", "()V"⟩
abbrev cX0_pointToFromAbove : ByteArray := prog_2_method_5_code
def yX0_pointToFromAbove : MethodName := ⟨RX0, "pointToFromAbove", "()V"⟩
def RX1 : String := "CatEvenings$Scene"
def TX1 : u_T := fun k => match k with
  | 0 => ("CatEvenings$Scene", "cat", "I", true)
  | 1 => ("CatEvenings$Scene", "places", "[I", true)
  | _ => ("CatEvenings$Scene", "lyingBits", "I", true)
def tyX1 : Nat → FieldType := fun k => match k with
  | 0 => .int
  | 1 => .array .int
  | _ => .int
theorem nmX1 : ∀ a, a < 3 → ∀ b, b < 3 → a ≠ b → (TX1 a).2.1 ≠ (TX1 b).2.1 := by decide +kernel
theorem tyX1_ok : ∀ k, k < 3 → parseFieldDescriptor (TX1 k).2.2.1 = some (tyX1 k) := by decide +kernel
abbrev cX1_init : ByteArray := prog_3_method_1_code
def yX1_init : MethodName := ⟨RX1, "<init>", "(I[II)V"⟩
abbrev cX1_has : ByteArray := prog_3_method_2_code
def yX1_has : MethodName := ⟨RX1, "has", "(I)Z"⟩
abbrev cX1_isLying : ByteArray := prog_3_method_3_code
def yX1_isLying : MethodName := ⟨RX1, "isLying", "(I)Z"⟩
abbrev cX1_isStanding : ByteArray := prog_3_method_4_code
def yX1_isStanding : MethodName := ⟨RX1, "isStanding", "(I)Z"⟩
abbrev cX1_countLying : ByteArray := prog_3_method_5_code
def yX1_countLying : MethodName := ⟨RX1, "countLying", "()I"⟩
abbrev cX1_pieceOn : ByteArray := prog_3_method_6_code
def yX1_pieceOn : MethodName := ⟨RX1, "pieceOn", "(I)I"⟩
abbrev cX1_isLike : ByteArray := prog_3_method_7_code
def yX1_isLike : MethodName := ⟨RX1, "isLike", "(LCatEvenings$Scene;)Z"⟩
abbrev cX1_withPieceOn : ByteArray := prog_3_method_8_code
def yX1_withPieceOn : MethodName := ⟨RX1, "withPieceOn", "(I)LCatEvenings$Scene;"⟩
abbrev cX1_after : ByteArray := prog_3_method_9_code
def yX1_after : MethodName := ⟨RX1, "after", "(II)LCatEvenings$Scene;"⟩
abbrev cX1_afterStep : ByteArray := prog_3_method_10_code
def yX1_afterStep : MethodName := ⟨RX1, "afterStep", "(I)LCatEvenings$Scene;"⟩
abbrev cX1_afterKnock : ByteArray := prog_3_method_11_code
def yX1_afterKnock : MethodName := ⟨RX1, "afterKnock", "(I)LCatEvenings$Scene;"⟩
abbrev cX1_afterSetUp : ByteArray := prog_3_method_12_code
def yX1_afterSetUp : MethodName := ⟨RX1, "afterSetUp", "(I)LCatEvenings$Scene;"⟩
abbrev cX1_afterPush : ByteArray := prog_3_method_13_code
def yX1_afterPush : MethodName := ⟨RX1, "afterPush", "(I)LCatEvenings$Scene;"⟩
abbrev cX1_isInReach : ByteArray := prog_3_method_14_code
def yX1_isInReach : MethodName := ⟨RX1, "isInReach", "(I)Z"⟩
def RX2 : String := "CatEvenings"
def TX2 : u_T := fun k => match k with
  | 0 => ("CatEvenings", "tree", "Ljava/util/List;", true)
  | _ => ("CatEvenings", "now", "LCatEvenings$Evening;", false)
def tyX2 : Nat → FieldType := fun k => match k with
  | 0 => .object "java/util/List"
  | _ => .object "CatEvenings$Evening"
theorem nmX2 : ∀ a, a < 2 → ∀ b, b < 2 → a ≠ b → (TX2 a).2.1 ≠ (TX2 b).2.1 := by decide +kernel
theorem tyX2_ok : ∀ k, k < 2 → parseFieldDescriptor (TX2 k).2.2.1 = some (tyX2 k) := by decide +kernel
abbrev cX2_init : ByteArray := prog_1_method_1_code
def yX2_init : MethodName := ⟨RX2, "<init>", "()V"⟩
abbrev cX2_setPiece : ByteArray := prog_1_method_2_code
def yX2_setPiece : MethodName := ⟨RX2, "setPiece", "(II)I"⟩
abbrev cX2_paw : ByteArray := prog_1_method_3_code
def yX2_paw : MethodName := ⟨RX2, "paw", "(II)I"⟩
abbrev cX2_undo : ByteArray := prog_1_method_4_code
def yX2_undo : MethodName := ⟨RX2, "undo", "(I)I"⟩
abbrev cX2_redo : ByteArray := prog_1_method_5_code
def yX2_redo : MethodName := ⟨RX2, "redo", "(I)I"⟩
abbrev cX2_goTo : ByteArray := prog_1_method_6_code
def yX2_goTo : MethodName := ⟨RX2, "goTo", "(I)I"⟩
abbrev cX2_evening : ByteArray := prog_1_method_7_code
def yX2_evening : MethodName := ⟨RX2, "evening", "()I"⟩
abbrev cX2_evenings : ByteArray := prog_1_method_8_code
def yX2_evenings : MethodName := ⟨RX2, "evenings", "()I"⟩
abbrev cX2_pieces : ByteArray := prog_1_method_9_code
def yX2_pieces : MethodName := ⟨RX2, "pieces", "()I"⟩
abbrev cX2_catColumn : ByteArray := prog_1_method_10_code
def yX2_catColumn : MethodName := ⟨RX2, "catColumn", "()I"⟩
abbrev cX2_catRow : ByteArray := prog_1_method_11_code
def yX2_catRow : MethodName := ⟨RX2, "catRow", "()I"⟩
abbrev cX2_lying : ByteArray := prog_1_method_12_code
def yX2_lying : MethodName := ⟨RX2, "lying", "()I"⟩
abbrev cX2_placeOf : ByteArray := prog_1_method_13_code
def yX2_placeOf : MethodName := ⟨RX2, "placeOf", "(I)I"⟩
abbrev cX2_lies : ByteArray := prog_1_method_14_code
def yX2_lies : MethodName := ⟨RX2, "lies", "(I)Z"⟩
abbrev cX2_pieceAt : ByteArray := prog_1_method_15_code
def yX2_pieceAt : MethodName := ⟨RX2, "pieceAt", "(II)I"⟩
abbrev cX2_canDo : ByteArray := prog_1_method_16_code
def yX2_canDo : MethodName := ⟨RX2, "canDo", "(II)Z"⟩
abbrev cX2_hangsOn : ByteArray := prog_1_method_17_code
def yX2_hangsOn : MethodName := ⟨RX2, "hangsOn", "(I)I"⟩
abbrev cX2_kindOf : ByteArray := prog_1_method_18_code
def yX2_kindOf : MethodName := ⟨RX2, "kindOf", "(I)I"⟩
abbrev cX2_numberOf : ByteArray := prog_1_method_19_code
def yX2_numberOf : MethodName := ⟨RX2, "numberOf", "(I)I"⟩
abbrev cX2_depthOf : ByteArray := prog_1_method_20_code
def yX2_depthOf : MethodName := ⟨RX2, "depthOf", "(I)I"⟩
abbrev cX2_branches : ByteArray := prog_1_method_21_code
def yX2_branches : MethodName := ⟨RX2, "branches", "(I)I"⟩
abbrev cX2_behind : ByteArray := prog_1_method_22_code
def yX2_behind : MethodName := ⟨RX2, "behind", "(I)I"⟩
abbrev cX2_again : ByteArray := prog_1_method_23_code
def yX2_again : MethodName := ⟨RX2, "again", "(I)I"⟩
abbrev cX2_meet : ByteArray := prog_1_method_24_code
def yX2_meet : MethodName := ⟨RX2, "meet", "(II)I"⟩
abbrev cX2_apart : ByteArray := prog_1_method_25_code
def yX2_apart : MethodName := ⟨RX2, "apart", "(II)I"⟩
abbrev cX2_ends : ByteArray := prog_1_method_26_code
def yX2_ends : MethodName := ⟨RX2, "ends", "()I"⟩
abbrev cX2_placeIn : ByteArray := prog_1_method_27_code
def yX2_placeIn : MethodName := ⟨RX2, "placeIn", "(II)I"⟩
abbrev cX2_lyingIn : ByteArray := prog_1_method_28_code
def yX2_lyingIn : MethodName := ⟨RX2, "lyingIn", "(I)I"⟩
abbrev cX2_areAlike : ByteArray := prog_1_method_29_code
def yX2_areAlike : MethodName := ⟨RX2, "areAlike", "(II)Z"⟩
abbrev cX2_mostKnocked : ByteArray := prog_1_method_30_code
def yX2_mostKnocked : MethodName := ⟨RX2, "mostKnocked", "()I"⟩
abbrev cX2_meanDepth : ByteArray := prog_1_method_31_code
def yX2_meanDepth : MethodName := ⟨RX2, "meanDepth", "()D"⟩
abbrev cX2_digest : ByteArray := prog_1_method_32_code
def yX2_digest : MethodName := ⟨RX2, "digest", "()J"⟩
abbrev cX2_withEvening : ByteArray := prog_1_method_33_code
def yX2_withEvening : MethodName := ⟨RX2, "withEvening", "(JLCatEvenings$Evening;)J"⟩
abbrev cX2_mixed : ByteArray := prog_1_method_34_code
def yX2_mixed : MethodName := ⟨RX2, "mixed", "(JJ)J"⟩
abbrev cX2_existing : ByteArray := prog_1_method_35_code
def yX2_existing : MethodName := ⟨RX2, "existing", "(I)LCatEvenings$Evening;"⟩
abbrev cX2_sceneAfter : ByteArray := prog_1_method_36_code
def yX2_sceneAfter : MethodName := ⟨RX2, "sceneAfter", "(II)LCatEvenings$Scene;"⟩
abbrev cX2_knocksOf : ByteArray := prog_1_method_37_code
def yX2_knocksOf : MethodName := ⟨RX2, "knocksOf", "(I)I"⟩
abbrev cX2_placeInScene : ByteArray := prog_1_method_38_code
def yX2_placeInScene : MethodName := ⟨RX2, "placeInScene", "(LCatEvenings$Scene;I)I"⟩
abbrev cX2_labelOf : ByteArray := prog_1_method_39_code
def yX2_labelOf : MethodName := ⟨RX2, "labelOf", "(LCatEvenings$Evening;)I"⟩
abbrev cX2_checkMany : ByteArray := prog_1_method_40_code
def yX2_checkMany : MethodName := ⟨RX2, "checkMany", "(I)V"⟩
abbrev cX2_isPaw : ByteArray := prog_1_method_41_code
def yX2_isPaw : MethodName := ⟨RX2, "isPaw", "(II)Z"⟩
abbrev cX2_isOnBoard : ByteArray := prog_1_method_42_code
def yX2_isOnBoard : MethodName := ⟨RX2, "isOnBoard", "(II)Z"⟩
abbrev cX2_boardPlace : ByteArray := prog_1_method_43_code
def yX2_boardPlace : MethodName := ⟨RX2, "boardPlace", "(II)I"⟩
abbrev cX2_farther : ByteArray := prog_1_method_44_code
def yX2_farther : MethodName := ⟨RX2, "farther", "(II)I"⟩
abbrev cX2_meetingOf : ByteArray := prog_1_method_45_code
def yX2_meetingOf : MethodName := ⟨RX2, "meetingOf", "(LCatEvenings$Evening;LCatEvenings$Evening;)LCatEvenings$Evening;"⟩
abbrev cX2_wayLength : ByteArray := prog_1_method_46_code
def yX2_wayLength : MethodName := ⟨RX2, "wayLength", "(LCatEvenings$Evening;LCatEvenings$Evening;)I"⟩
def RX3 : String := "CatEveningsLaw$Sim"
def TX3 : u_T := fun k => match k with
  | 0 => ("CatEveningsLaw$Sim", "set", "[[I", false)
  | 1 => ("CatEveningsLaw$Sim", "evenings", "[[I", false)
  | 2 => ("CatEveningsLaw$Sim", "now", "I", false)
  | _ => ("CatEveningsLaw$Sim", "clock", "I", false)
def tyX3 : Nat → FieldType := fun k => match k with
  | 0 => .array (.array .int)
  | 1 => .array (.array .int)
  | 2 => .int
  | _ => .int
theorem nmX3 : ∀ a, a < 4 → ∀ b, b < 4 → a ≠ b → (TX3 a).2.1 ≠ (TX3 b).2.1 := by decide +kernel
theorem tyX3_ok : ∀ k, k < 4 → parseFieldDescriptor (TX3 k).2.2.1 = some (tyX3 k) := by decide +kernel
abbrev cX3_init : ByteArray := prog_5_method_1_code
def yX3_init : MethodName := ⟨RX3, "<init>", "()V"⟩
abbrev cX3_with : ByteArray := prog_5_method_2_code
def yX3_with : MethodName := ⟨RX3, "with", "([[I[I)[[I"⟩
abbrev cX3_be : ByteArray := prog_5_method_3_code
def yX3_be : MethodName := ⟨RX3, "be", "(I)V"⟩
abbrev cX3_depth : ByteArray := prog_5_method_4_code
def yX3_depth : MethodName := ⟨RX3, "depth", "(I)I"⟩
abbrev cX3_isBelow : ByteArray := prog_5_method_5_code
def yX3_isBelow : MethodName := ⟨RX3, "isBelow", "(II)Z"⟩
abbrev cX3_meet : ByteArray := prog_5_method_6_code
def yX3_meet : MethodName := ⟨RX3, "meet", "(II)I"⟩
abbrev cX3_apart : ByteArray := prog_5_method_7_code
def yX3_apart : MethodName := ⟨RX3, "apart", "(II)I"⟩
abbrev cX3_again : ByteArray := prog_5_method_8_code
def yX3_again : MethodName := ⟨RX3, "again", "(I)I"⟩
abbrev cX3_state : ByteArray := prog_5_method_9_code
def yX3_state : MethodName := ⟨RX3, "state", "(I)[I"⟩
abbrev cX3_aside : ByteArray := prog_5_method_10_code
def yX3_aside : MethodName := ⟨RX3, "aside", "(I)I"⟩
abbrev cX3_ahead : ByteArray := prog_5_method_11_code
def yX3_ahead : MethodName := ⟨RX3, "ahead", "(I)I"⟩
abbrev cX3_pieceAt : ByteArray := prog_5_method_12_code
def yX3_pieceAt : MethodName := ⟨RX3, "pieceAt", "([III)I"⟩
abbrev cX3_isOn : ByteArray := prog_5_method_13_code
def yX3_isOn : MethodName := ⟨RX3, "isOn", "(II)Z"⟩
abbrev cX3_does : ByteArray := prog_5_method_14_code
def yX3_does : MethodName := ⟨RX3, "does", "([III)Z"⟩
abbrev cX3_lying : ByteArray := prog_5_method_15_code
def yX3_lying : MethodName := ⟨RX3, "lying", "(I)I"⟩
abbrev cX3_isSame : ByteArray := prog_5_method_17_code
def yX3_isSame : MethodName := ⟨RX3, "isSame", "(LCatEvenings;)Z"⟩
def RX4 : String := "CatEveningsModel"
def TX4 : u_T := fun k => match k with
  | _ => ("", "", "", false)
def tyX4 : Nat → FieldType := fun k => match k with
  | _ => .int
theorem nmX4 : ∀ a, a < 0 → ∀ b, b < 0 → a ≠ b → (TX4 a).2.1 ≠ (TX4 b).2.1 := by decide +kernel
theorem tyX4_ok : ∀ k, k < 0 → parseFieldDescriptor (TX4 k).2.2.1 = some (tyX4 k) := by decide +kernel
def RJx145de : String := "java/io/Serializable"
def TJx145de : u_T := fun k => match k with
  | _ => ("", "", "", false)
def tyJx145de : Nat → FieldType := fun k => match k with
  | _ => .int
theorem nmJx145de : ∀ a, a < 0 → ∀ b, b < 0 → a ≠ b → (TJx145de a).2.1 ≠ (TJx145de b).2.1 := by decide +kernel
theorem tyJx145de_ok : ∀ k, k < 0 → parseFieldDescriptor (TJx145de k).2.2.1 = some (tyJx145de k) := by decide +kernel
def RJx8e188 : String := "java/lang/Cloneable"
def TJx8e188 : u_T := fun k => match k with
  | _ => ("", "", "", false)
def tyJx8e188 : Nat → FieldType := fun k => match k with
  | _ => .int
theorem nmJx8e188 : ∀ a, a < 0 → ∀ b, b < 0 → a ≠ b → (TJx8e188 a).2.1 ≠ (TJx8e188 b).2.1 := by decide +kernel
theorem tyJx8e188_ok : ∀ k, k < 0 → parseFieldDescriptor (TJx8e188 k).2.2.1 = some (tyJx8e188 k) := by decide +kernel
def RJ6 : String := "java/lang/Integer"
def TJ6 : u_T := fun k => match k with
  | _ => ("", "", "", false)
def tyJ6 : Nat → FieldType := fun k => match k with
  | _ => .int
theorem nmJ6 : ∀ a, a < 0 → ∀ b, b < 0 → a ≠ b → (TJ6 a).2.1 ≠ (TJ6 b).2.1 := by decide +kernel
theorem tyJ6_ok : ∀ k, k < 0 → parseFieldDescriptor (TJ6 k).2.2.1 = some (tyJ6 k) := by decide +kernel
abbrev cJ6_bitCount_0f7a4 : ByteArray := prog_13_method_49_code
def yJ6_bitCount_0f7a4 : MethodName := ⟨RJ6, "bitCount", "(I)I"⟩
def RJxab1ab : String := "java/lang/Iterable"
def TJxab1ab : u_T := fun k => match k with
  | _ => ("", "", "", false)
def tyJxab1ab : Nat → FieldType := fun k => match k with
  | _ => .int
theorem nmJxab1ab : ∀ a, a < 0 → ∀ b, b < 0 → a ≠ b → (TJxab1ab a).2.1 ≠ (TJxab1ab b).2.1 := by decide +kernel
theorem tyJxab1ab_ok : ∀ k, k < 0 → parseFieldDescriptor (TJxab1ab k).2.2.1 = some (tyJxab1ab k) := by decide +kernel
def RJ9 : String := "java/lang/Math"
def TJ9 : u_T := fun k => match k with
  | _ => ("", "", "", false)
def tyJ9 : Nat → FieldType := fun k => match k with
  | _ => .int
theorem nmJ9 : ∀ a, a < 0 → ∀ b, b < 0 → a ≠ b → (TJ9 a).2.1 ≠ (TJ9 b).2.1 := by decide +kernel
theorem tyJ9_ok : ∀ k, k < 0 → parseFieldDescriptor (TJ9 k).2.2.1 = some (tyJ9 k) := by decide +kernel
abbrev cJ9_abs_0f7a4 : ByteArray := prog_15_method_59_code
def yJ9_abs_0f7a4 : MethodName := ⟨RJ9, "abs", "(I)I"⟩
abbrev cJ9_max_7cf53 : ByteArray := prog_15_method_65_code
def yJ9_max_7cf53 : MethodName := ⟨RJ9, "max", "(II)I"⟩
abbrev cJ9_min_7cf53 : ByteArray := prog_15_method_69_code
def yJ9_min_7cf53 : MethodName := ⟨RJ9, "min", "(II)I"⟩
def RJ0 : String := "java/lang/String"
def TJ0 : u_T := fun k => match k with
  | _ => ("", "", "", false)
def tyJ0 : Nat → FieldType := fun k => match k with
  | _ => .int
theorem nmJ0 : ∀ a, a < 0 → ∀ b, b < 0 → a ≠ b → (TJ0 a).2.1 ≠ (TJ0 b).2.1 := by decide +kernel
theorem tyJ0_ok : ∀ k, k < 0 → parseFieldDescriptor (TJ0 k).2.2.1 = some (tyJ0 k) := by decide +kernel
def RJ10 : String := "java/lang/System"
def TJ10 : u_T := fun k => match k with
  | _ => ("", "", "", false)
def tyJ10 : Nat → FieldType := fun k => match k with
  | _ => .int
theorem nmJ10 : ∀ a, a < 0 → ∀ b, b < 0 → a ≠ b → (TJ10 a).2.1 ≠ (TJ10 b).2.1 := by decide +kernel
theorem tyJ10_ok : ∀ k, k < 0 → parseFieldDescriptor (TJ10 k).2.2.1 = some (tyJ10 k) := by decide +kernel
def RJxa1e45 : String := "java/util/AbstractCollection"
def TJxa1e45 : u_T := fun k => match k with
  | _ => ("", "", "", false)
def tyJxa1e45 : Nat → FieldType := fun k => match k with
  | _ => .int
theorem nmJxa1e45 : ∀ a, a < 0 → ∀ b, b < 0 → a ≠ b → (TJxa1e45 a).2.1 ≠ (TJxa1e45 b).2.1 := by decide +kernel
theorem tyJxa1e45_ok : ∀ k, k < 0 → parseFieldDescriptor (TJxa1e45 k).2.2.1 = some (tyJxa1e45 k) := by decide +kernel
abbrev cJxa1e45_init_da8c8 : ByteArray := prog_20_method_1_code
def yJxa1e45_init_da8c8 : MethodName := ⟨RJxa1e45, "<init>", "()V"⟩
def RJxc12de : String := "java/util/AbstractList"
def TJxc12de : u_T := fun k => match k with
  | _ => ("", "", "", false)
def tyJxc12de : Nat → FieldType := fun k => match k with
  | _ => .int
theorem nmJxc12de : ∀ a, a < 0 → ∀ b, b < 0 → a ≠ b → (TJxc12de a).2.1 ≠ (TJxc12de b).2.1 := by decide +kernel
theorem tyJxc12de_ok : ∀ k, k < 0 → parseFieldDescriptor (TJxc12de k).2.2.1 = some (tyJxc12de k) := by decide +kernel
abbrev cJxc12de_init_da8c8 : ByteArray := prog_21_method_1_code
def yJxc12de_init_da8c8 : MethodName := ⟨RJxc12de, "<init>", "()V"⟩
def RJx4a65c : String := "java/util/ArrayList"
def TJx4a65c : u_T := fun k => match k with
  | 0 => ("java/util/AbstractList", "modCount", "I", false)
  | 1 => ("java/util/ArrayList", "elementData", "[Ljava/lang/Object;", false)
  | _ => ("java/util/ArrayList", "size", "I", false)
def tyJx4a65c : Nat → FieldType := fun k => match k with
  | 0 => .int
  | 1 => .array (.object "java/lang/Object")
  | _ => .int
theorem nmJx4a65c : ∀ a, a < 3 → ∀ b, b < 3 → a ≠ b → (TJx4a65c a).2.1 ≠ (TJx4a65c b).2.1 := by decide +kernel
theorem tyJx4a65c_ok : ∀ k, k < 3 → parseFieldDescriptor (TJx4a65c k).2.2.1 = some (tyJx4a65c k) := by decide +kernel
abbrev cJx4a65c_init_da8c8 : ByteArray := prog_22_method_2_code
def yJx4a65c_init_da8c8 : MethodName := ⟨RJx4a65c, "<init>", "()V"⟩
abbrev cJx4a65c_grow_92f84 : ByteArray := prog_22_method_6_code
def yJx4a65c_grow_92f84 : MethodName := ⟨RJx4a65c, "grow", "(I)[Ljava/lang/Object;"⟩
abbrev cJx4a65c_grow_d5877 : ByteArray := prog_22_method_7_code
def yJx4a65c_grow_d5877 : MethodName := ⟨RJx4a65c, "grow", "()[Ljava/lang/Object;"⟩
abbrev cJx4a65c_size_8abf5 : ByteArray := prog_22_method_8_code
def yJx4a65c_size_8abf5 : MethodName := ⟨RJx4a65c, "size", "()I"⟩
abbrev cJx4a65c_elementData_915e3 : ByteArray := prog_22_method_18_code
def yJx4a65c_elementData_915e3 : MethodName := ⟨RJx4a65c, "elementData", "(I)Ljava/lang/Object;"⟩
abbrev cJx4a65c_get_915e3 : ByteArray := prog_22_method_20_code
def yJx4a65c_get_915e3 : MethodName := ⟨RJx4a65c, "get", "(I)Ljava/lang/Object;"⟩
abbrev cJx4a65c_add_72be8 : ByteArray := prog_22_method_24_code
def yJx4a65c_add_72be8 : MethodName := ⟨RJx4a65c, "add", "(Ljava/lang/Object;[Ljava/lang/Object;I)V"⟩
abbrev cJx4a65c_add_9ea2d : ByteArray := prog_22_method_25_code
def yJx4a65c_add_9ea2d : MethodName := ⟨RJx4a65c, "add", "(Ljava/lang/Object;)Z"⟩
def RJ7 : String := "java/util/Arrays"
def TJ7 : u_T := fun k => match k with
  | _ => ("", "", "", false)
def tyJ7 : Nat → FieldType := fun k => match k with
  | _ => .int
theorem nmJ7 : ∀ a, a < 0 → ∀ b, b < 0 → a ≠ b → (TJ7 a).2.1 ≠ (TJ7 b).2.1 := by decide +kernel
theorem tyJ7_ok : ∀ k, k < 0 → parseFieldDescriptor (TJ7 k).2.2.1 = some (tyJ7 k) := by decide +kernel
abbrev cJ7_copyOf_1904c : ByteArray := prog_23_method_119_code
def yJ7_copyOf_1904c : MethodName := ⟨RJ7, "copyOf", "([Ljava/lang/Object;I)[Ljava/lang/Object;"⟩
abbrev cJ7_copyOf_6403c : ByteArray := prog_23_method_120_code
def yJ7_copyOf_6403c : MethodName := ⟨RJ7, "copyOf", "([Ljava/lang/Object;ILjava/lang/Class;)[Ljava/lang/Object;"⟩
def RJx5ef63 : String := "java/util/Collection"
def TJx5ef63 : u_T := fun k => match k with
  | _ => ("", "", "", false)
def tyJx5ef63 : Nat → FieldType := fun k => match k with
  | _ => .int
theorem nmJx5ef63 : ∀ a, a < 0 → ∀ b, b < 0 → a ≠ b → (TJx5ef63 a).2.1 ≠ (TJx5ef63 b).2.1 := by decide +kernel
theorem tyJx5ef63_ok : ∀ k, k < 0 → parseFieldDescriptor (TJx5ef63 k).2.2.1 = some (tyJx5ef63 k) := by decide +kernel
def RJxbd725 : String := "java/util/List"
def TJxbd725 : u_T := fun k => match k with
  | _ => ("", "", "", false)
def tyJxbd725 : Nat → FieldType := fun k => match k with
  | _ => .int
theorem nmJxbd725 : ∀ a, a < 0 → ∀ b, b < 0 → a ≠ b → (TJxbd725 a).2.1 ≠ (TJxbd725 b).2.1 := by decide +kernel
theorem tyJxbd725_ok : ∀ k, k < 0 → parseFieldDescriptor (TJxbd725 k).2.2.1 = some (tyJxbd725 k) := by decide +kernel
def RJ15 : String := "java/util/Objects"
def TJ15 : u_T := fun k => match k with
  | _ => ("", "", "", false)
def tyJ15 : Nat → FieldType := fun k => match k with
  | _ => .int
theorem nmJ15 : ∀ a, a < 0 → ∀ b, b < 0 → a ≠ b → (TJ15 a).2.1 ≠ (TJ15 b).2.1 := by decide +kernel
theorem tyJ15_ok : ∀ k, k < 0 → parseFieldDescriptor (TJ15 k).2.2.1 = some (tyJ15 k) := by decide +kernel
abbrev cJ15_checkIndex_7cf53 : ByteArray := prog_26_method_17_code
def yJ15_checkIndex_7cf53 : MethodName := ⟨RJ15, "checkIndex", "(II)I"⟩
def RJxf0a74 : String := "java/util/RandomAccess"
def TJxf0a74 : u_T := fun k => match k with
  | _ => ("", "", "", false)
def tyJxf0a74 : Nat → FieldType := fun k => match k with
  | _ => .int
theorem nmJxf0a74 : ∀ a, a < 0 → ∀ b, b < 0 → a ≠ b → (TJxf0a74 a).2.1 ≠ (TJxf0a74 b).2.1 := by decide +kernel
theorem tyJxf0a74_ok : ∀ k, k < 0 → parseFieldDescriptor (TJxf0a74 k).2.2.1 = some (tyJxf0a74 k) := by decide +kernel
def RJxa66e6 : String := "java/util/SequencedCollection"
def TJxa66e6 : u_T := fun k => match k with
  | _ => ("", "", "", false)
def tyJxa66e6 : Nat → FieldType := fun k => match k with
  | _ => .int
theorem nmJxa66e6 : ∀ a, a < 0 → ∀ b, b < 0 → a ≠ b → (TJxa66e6 a).2.1 ≠ (TJxa66e6 b).2.1 := by decide +kernel
theorem tyJxa66e6_ok : ∀ k, k < 0 → parseFieldDescriptor (TJxa66e6 k).2.2.1 = some (tyJxa66e6 k) := by decide +kernel
def RJ8 : String := "jdk/internal/util/ArraysSupport"
def TJ8 : u_T := fun k => match k with
  | _ => ("", "", "", false)
def tyJ8 : Nat → FieldType := fun k => match k with
  | _ => .int
theorem nmJ8 : ∀ a, a < 0 → ∀ b, b < 0 → a ≠ b → (TJ8 a).2.1 ≠ (TJ8 b).2.1 := by decide +kernel
theorem tyJ8_ok : ∀ k, k < 0 → parseFieldDescriptor (TJ8 k).2.2.1 = some (tyJ8 k) := by decide +kernel
abbrev cJ8_newLength_cabcc : ByteArray := prog_29_method_27_code
def yJ8_newLength_cabcc : MethodName := ⟨RJ8, "newLength", "(III)I"⟩
abbrev cJ8_hugeLength_7cf53 : ByteArray := prog_29_method_28_code
def yJ8_hugeLength_7cf53 : MethodName := ⟨RJ8, "hugeLength", "(II)I"⟩
def RJ3 : String := "jdk/internal/util/Preconditions"
def TJ3 : u_T := fun k => match k with
  | _ => ("", "", "", false)
def tyJ3 : Nat → FieldType := fun k => match k with
  | _ => .int
theorem nmJ3 : ∀ a, a < 0 → ∀ b, b < 0 → a ≠ b → (TJ3 a).2.1 ≠ (TJ3 b).2.1 := by decide +kernel
theorem tyJ3_ok : ∀ k, k < 0 → parseFieldDescriptor (TJ3 k).2.2.1 = some (tyJ3 k) := by decide +kernel
abbrev cJ3_checkIndex_8e157 : ByteArray := prog_30_method_11_code
def yJ3_checkIndex_8e157 : MethodName := ⟨RJ3, "checkIndex", "(IILjava/util/function/BiFunction;)I"⟩
def RL : String := "CatEveningsLaw"
abbrev cL_below : ByteArray := method_2_code
def yL_below : MethodName := ⟨RL, "below", "(II)I"⟩
abbrev cL_cell : ByteArray := method_3_code
def yL_cell : MethodName := ⟨RL, "cell", "([II)I"⟩
abbrev cL_act : ByteArray := method_4_code
def yL_act : MethodName := ⟨RL, "act", "(LCatEvenings;LCatEveningsLaw$Sim;I)Z"⟩
abbrev cL_build : ByteArray := method_5_code
def yL_build : MethodName := ⟨RL, "build", "(LCatEvenings;[I)LCatEveningsLaw$Sim;"⟩
abbrev cL_law : ByteArray := code
def yL_law : MethodName := ⟨RL, "law", "([I)Z"⟩
abbrev vwCl : List vw_C := [(RJx4a65c, TJx4a65c, 3), (RX0, TX0, 9), (RX1, TX1, 3), (RX2, TX2, 2), (RX3, TX3, 4)]
theorem dX0_init_0 : decode cX0_init 0 = .ok (.aload_n 0, 1) := by decide +kernel
theorem dX0_init_1 : decode cX0_init 1 = .ok (.invokespecial 1, 3) := by decide +kernel
theorem dX0_init_4 : decode cX0_init 4 = .ok (.aload_n 0, 1) := by decide +kernel
theorem dX0_init_5 : decode cX0_init 5 = .ok (.aload_n 1, 1) := by decide +kernel
theorem dX0_init_6 : decode cX0_init 6 = .ok (.putfield 7, 3) := by decide +kernel
theorem dX0_init_9 : decode cX0_init 9 = .ok (.aload_n 0, 1) := by decide +kernel
theorem dX0_init_10 : decode cX0_init 10 = .ok (.iload_n 2, 1) := by decide +kernel
theorem dX0_init_11 : decode cX0_init 11 = .ok (.putfield 13, 3) := by decide +kernel
theorem dX0_init_14 : decode cX0_init 14 = .ok (.aload_n 0, 1) := by decide +kernel
theorem dX0_init_15 : decode cX0_init 15 = .ok (.iload_n 3, 1) := by decide +kernel
theorem dX0_init_16 : decode cX0_init 16 = .ok (.putfield 17, 3) := by decide +kernel
theorem dX0_init_19 : decode cX0_init 19 = .ok (.aload_n 0, 1) := by decide +kernel
theorem dX0_init_20 : decode cX0_init 20 = .ok (.iload 4, 2) := by decide +kernel
theorem dX0_init_22 : decode cX0_init 22 = .ok (.putfield 20, 3) := by decide +kernel
theorem dX0_init_25 : decode cX0_init 25 = .ok (.aload_n 0, 1) := by decide +kernel
theorem dX0_init_26 : decode cX0_init 26 = .ok (.aload_n 1, 1) := by decide +kernel
theorem dX0_init_27 : decode cX0_init 27 = .ok (.ifnonnull 7, 3) := by decide +kernel
theorem dX0_init_30 : decode cX0_init 30 = .ok (.iconst 0, 1) := by decide +kernel
theorem dX0_init_31 : decode cX0_init 31 = .ok (.goto 9, 3) := by decide +kernel
theorem dX0_init_34 : decode cX0_init 34 = .ok (.aload_n 1, 1) := by decide +kernel
theorem dX0_init_35 : decode cX0_init 35 = .ok (.getfield 23, 3) := by decide +kernel
theorem dX0_init_38 : decode cX0_init 38 = .ok (.iconst 1, 1) := by decide +kernel
theorem dX0_init_39 : decode cX0_init 39 = .ok (.iadd, 1) := by decide +kernel
theorem dX0_init_40 : decode cX0_init 40 = .ok (.putfield 23, 3) := by decide +kernel
theorem dX0_init_43 : decode cX0_init 43 = .ok (.aload_n 0, 1) := by decide +kernel
theorem dX0_init_44 : decode cX0_init 44 = .ok (.aload 5, 2) := by decide +kernel
theorem dX0_init_46 : decode cX0_init 46 = .ok (.putfield 26, 3) := by decide +kernel
theorem dX0_init_49 : decode cX0_init 49 = .ok (.return_, 1) := by decide +kernel
theorem dX0_above_0 : decode cX0_above 0 = .ok (.aload_n 0, 1) := by decide +kernel
theorem dX0_above_1 : decode cX0_above 1 = .ok (.getfield 7, 3) := by decide +kernel
theorem dX0_above_4 : decode cX0_above 4 = .ok (.ifnonnull 7, 3) := by decide +kernel
theorem dX0_above_7 : decode cX0_above 7 = .ok (.aload_n 0, 1) := by decide +kernel
theorem dX0_above_8 : decode cX0_above 8 = .ok (.goto 7, 3) := by decide +kernel
theorem dX0_above_11 : decode cX0_above 11 = .ok (.aload_n 0, 1) := by decide +kernel
theorem dX0_above_12 : decode cX0_above 12 = .ok (.getfield 7, 3) := by decide +kernel
theorem dX0_above_15 : decode cX0_above 15 = .ok (.areturn, 1) := by decide +kernel
theorem dX0_isEnd_0 : decode cX0_isEnd 0 = .ok (.aload_n 0, 1) := by decide +kernel
theorem dX0_isEnd_1 : decode cX0_isEnd 1 = .ok (.getfield 30, 3) := by decide +kernel
theorem dX0_isEnd_4 : decode cX0_isEnd 4 = .ok (.ifnonnull 7, 3) := by decide +kernel
theorem dX0_isEnd_7 : decode cX0_isEnd 7 = .ok (.iconst 1, 1) := by decide +kernel
theorem dX0_isEnd_8 : decode cX0_isEnd 8 = .ok (.goto 4, 3) := by decide +kernel
theorem dX0_isEnd_11 : decode cX0_isEnd 11 = .ok (.iconst 0, 1) := by decide +kernel
theorem dX0_isEnd_12 : decode cX0_isEnd 12 = .ok (.ireturn, 1) := by decide +kernel
theorem dX0_countAbove_0 : decode cX0_countAbove 0 = .ok (.aload_n 0, 1) := by decide +kernel
theorem dX0_countAbove_1 : decode cX0_countAbove 1 = .ok (.getfield 7, 3) := by decide +kernel
theorem dX0_countAbove_4 : decode cX0_countAbove 4 = .ok (.ifnull 16, 3) := by decide +kernel
theorem dX0_countAbove_7 : decode cX0_countAbove 7 = .ok (.aload_n 0, 1) := by decide +kernel
theorem dX0_countAbove_8 : decode cX0_countAbove 8 = .ok (.getfield 7, 3) := by decide +kernel
theorem dX0_countAbove_11 : decode cX0_countAbove 11 = .ok (.dup, 1) := by decide +kernel
theorem dX0_countAbove_12 : decode cX0_countAbove 12 = .ok (.getfield 33, 3) := by decide +kernel
theorem dX0_countAbove_15 : decode cX0_countAbove 15 = .ok (.iconst 1, 1) := by decide +kernel
theorem dX0_countAbove_16 : decode cX0_countAbove 16 = .ok (.iadd, 1) := by decide +kernel
theorem dX0_countAbove_17 : decode cX0_countAbove 17 = .ok (.putfield 33, 3) := by decide +kernel
theorem dX0_countAbove_20 : decode cX0_countAbove 20 = .ok (.aload_n 0, 1) := by decide +kernel
theorem dX0_countAbove_21 : decode cX0_countAbove 21 = .ok (.getfield 7, 3) := by decide +kernel
theorem dX0_countAbove_24 : decode cX0_countAbove 24 = .ok (.astore_n 1, 1) := by decide +kernel
theorem dX0_countAbove_25 : decode cX0_countAbove 25 = .ok (.aload_n 1, 1) := by decide +kernel
theorem dX0_countAbove_26 : decode cX0_countAbove 26 = .ok (.ifnull 21, 3) := by decide +kernel
theorem dX0_countAbove_29 : decode cX0_countAbove 29 = .ok (.aload_n 1, 1) := by decide +kernel
theorem dX0_countAbove_30 : decode cX0_countAbove 30 = .ok (.dup, 1) := by decide +kernel
theorem dX0_countAbove_31 : decode cX0_countAbove 31 = .ok (.getfield 36, 3) := by decide +kernel
theorem dX0_countAbove_34 : decode cX0_countAbove 34 = .ok (.iconst 1, 1) := by decide +kernel
theorem dX0_countAbove_35 : decode cX0_countAbove 35 = .ok (.iadd, 1) := by decide +kernel
theorem dX0_countAbove_36 : decode cX0_countAbove 36 = .ok (.putfield 36, 3) := by decide +kernel
theorem dX0_countAbove_39 : decode cX0_countAbove 39 = .ok (.aload_n 1, 1) := by decide +kernel
theorem dX0_countAbove_40 : decode cX0_countAbove 40 = .ok (.getfield 7, 3) := by decide +kernel
theorem dX0_countAbove_43 : decode cX0_countAbove 43 = .ok (.astore_n 1, 1) := by decide +kernel
theorem dX0_countAbove_44 : decode cX0_countAbove 44 = .ok (.goto (-19), 3) := by decide +kernel
theorem dX0_countAbove_47 : decode cX0_countAbove 47 = .ok (.return_, 1) := by decide +kernel
theorem dX0_pointToFromAbove_0 : decode cX0_pointToFromAbove 0 = .ok (.aload_n 0, 1) := by decide +kernel
theorem dX0_pointToFromAbove_1 : decode cX0_pointToFromAbove 1 = .ok (.astore_n 1, 1) := by decide +kernel
theorem dX0_pointToFromAbove_2 : decode cX0_pointToFromAbove 2 = .ok (.aload_n 0, 1) := by decide +kernel
theorem dX0_pointToFromAbove_3 : decode cX0_pointToFromAbove 3 = .ok (.getfield 7, 3) := by decide +kernel
theorem dX0_pointToFromAbove_6 : decode cX0_pointToFromAbove 6 = .ok (.astore_n 2, 1) := by decide +kernel
theorem dX0_pointToFromAbove_7 : decode cX0_pointToFromAbove 7 = .ok (.aload_n 2, 1) := by decide +kernel
theorem dX0_pointToFromAbove_8 : decode cX0_pointToFromAbove 8 = .ok (.ifnull 18, 3) := by decide +kernel
theorem dX0_pointToFromAbove_11 : decode cX0_pointToFromAbove 11 = .ok (.aload_n 2, 1) := by decide +kernel
theorem dX0_pointToFromAbove_12 : decode cX0_pointToFromAbove 12 = .ok (.aload_n 1, 1) := by decide +kernel
theorem dX0_pointToFromAbove_13 : decode cX0_pointToFromAbove 13 = .ok (.putfield 30, 3) := by decide +kernel
theorem dX0_pointToFromAbove_16 : decode cX0_pointToFromAbove 16 = .ok (.aload_n 2, 1) := by decide +kernel
theorem dX0_pointToFromAbove_17 : decode cX0_pointToFromAbove 17 = .ok (.astore_n 1, 1) := by decide +kernel
theorem dX0_pointToFromAbove_18 : decode cX0_pointToFromAbove 18 = .ok (.aload_n 2, 1) := by decide +kernel
theorem dX0_pointToFromAbove_19 : decode cX0_pointToFromAbove 19 = .ok (.getfield 7, 3) := by decide +kernel
theorem dX0_pointToFromAbove_22 : decode cX0_pointToFromAbove 22 = .ok (.astore_n 2, 1) := by decide +kernel
theorem dX0_pointToFromAbove_23 : decode cX0_pointToFromAbove 23 = .ok (.goto (-16), 3) := by decide +kernel
theorem dX0_pointToFromAbove_26 : decode cX0_pointToFromAbove 26 = .ok (.return_, 1) := by decide +kernel
theorem dX1_init_0 : decode cX1_init 0 = .ok (.aload_n 0, 1) := by decide +kernel
theorem dX1_init_1 : decode cX1_init 1 = .ok (.invokespecial 3, 3) := by decide +kernel
theorem dX1_init_4 : decode cX1_init 4 = .ok (.aload_n 0, 1) := by decide +kernel
theorem dX1_init_5 : decode cX1_init 5 = .ok (.iload_n 1, 1) := by decide +kernel
theorem dX1_init_6 : decode cX1_init 6 = .ok (.putfield 9, 3) := by decide +kernel
theorem dX1_init_9 : decode cX1_init 9 = .ok (.aload_n 0, 1) := by decide +kernel
theorem dX1_init_10 : decode cX1_init 10 = .ok (.aload_n 2, 1) := by decide +kernel
theorem dX1_init_11 : decode cX1_init 11 = .ok (.putfield 15, 3) := by decide +kernel
theorem dX1_init_14 : decode cX1_init 14 = .ok (.aload_n 0, 1) := by decide +kernel
theorem dX1_init_15 : decode cX1_init 15 = .ok (.iload_n 3, 1) := by decide +kernel
theorem dX1_init_16 : decode cX1_init 16 = .ok (.putfield 19, 3) := by decide +kernel
theorem dX1_init_19 : decode cX1_init 19 = .ok (.return_, 1) := by decide +kernel
theorem dX1_has_0 : decode cX1_has 0 = .ok (.iload_n 1, 1) := by decide +kernel
theorem dX1_has_1 : decode cX1_has 1 = .ok (.ifCond .lt 16, 3) := by decide +kernel
theorem dX1_has_4 : decode cX1_has 4 = .ok (.iload_n 1, 1) := by decide +kernel
theorem dX1_has_5 : decode cX1_has 5 = .ok (.aload_n 0, 1) := by decide +kernel
theorem dX1_has_6 : decode cX1_has 6 = .ok (.getfield 15, 3) := by decide +kernel
theorem dX1_has_9 : decode cX1_has 9 = .ok (.arraylength, 1) := by decide +kernel
theorem dX1_has_10 : decode cX1_has 10 = .ok (.if_icmp .ge 7, 3) := by decide +kernel
theorem dX1_has_13 : decode cX1_has 13 = .ok (.iconst 1, 1) := by decide +kernel
theorem dX1_has_14 : decode cX1_has 14 = .ok (.goto 4, 3) := by decide +kernel
theorem dX1_has_17 : decode cX1_has 17 = .ok (.iconst 0, 1) := by decide +kernel
theorem dX1_has_18 : decode cX1_has 18 = .ok (.ireturn, 1) := by decide +kernel
theorem dX1_isLying_0 : decode cX1_isLying 0 = .ok (.aload_n 0, 1) := by decide +kernel
theorem dX1_isLying_1 : decode cX1_isLying 1 = .ok (.iload_n 1, 1) := by decide +kernel
theorem dX1_isLying_2 : decode cX1_isLying 2 = .ok (.invokevirtual 22, 3) := by decide +kernel
theorem dX1_isLying_5 : decode cX1_isLying 5 = .ok (.ifCond .eq 19, 3) := by decide +kernel
theorem dX1_isLying_8 : decode cX1_isLying 8 = .ok (.aload_n 0, 1) := by decide +kernel
theorem dX1_isLying_9 : decode cX1_isLying 9 = .ok (.getfield 19, 3) := by decide +kernel
theorem dX1_isLying_12 : decode cX1_isLying 12 = .ok (.iload_n 1, 1) := by decide +kernel
theorem dX1_isLying_13 : decode cX1_isLying 13 = .ok (.ishr, 1) := by decide +kernel
theorem dX1_isLying_14 : decode cX1_isLying 14 = .ok (.iconst 1, 1) := by decide +kernel
theorem dX1_isLying_15 : decode cX1_isLying 15 = .ok (.iand, 1) := by decide +kernel
theorem dX1_isLying_16 : decode cX1_isLying 16 = .ok (.iconst 1, 1) := by decide +kernel
theorem dX1_isLying_17 : decode cX1_isLying 17 = .ok (.if_icmp .ne 7, 3) := by decide +kernel
theorem dX1_isLying_20 : decode cX1_isLying 20 = .ok (.iconst 1, 1) := by decide +kernel
theorem dX1_isLying_21 : decode cX1_isLying 21 = .ok (.goto 4, 3) := by decide +kernel
theorem dX1_isLying_24 : decode cX1_isLying 24 = .ok (.iconst 0, 1) := by decide +kernel
theorem dX1_isLying_25 : decode cX1_isLying 25 = .ok (.ireturn, 1) := by decide +kernel
theorem dX1_isStanding_0 : decode cX1_isStanding 0 = .ok (.aload_n 0, 1) := by decide +kernel
theorem dX1_isStanding_1 : decode cX1_isStanding 1 = .ok (.iload_n 1, 1) := by decide +kernel
theorem dX1_isStanding_2 : decode cX1_isStanding 2 = .ok (.invokevirtual 22, 3) := by decide +kernel
theorem dX1_isStanding_5 : decode cX1_isStanding 5 = .ok (.ifCond .eq 15, 3) := by decide +kernel
theorem dX1_isStanding_8 : decode cX1_isStanding 8 = .ok (.aload_n 0, 1) := by decide +kernel
theorem dX1_isStanding_9 : decode cX1_isStanding 9 = .ok (.iload_n 1, 1) := by decide +kernel
theorem dX1_isStanding_10 : decode cX1_isStanding 10 = .ok (.invokevirtual 26, 3) := by decide +kernel
theorem dX1_isStanding_13 : decode cX1_isStanding 13 = .ok (.ifCond .ne 7, 3) := by decide +kernel
theorem dX1_isStanding_16 : decode cX1_isStanding 16 = .ok (.iconst 1, 1) := by decide +kernel
theorem dX1_isStanding_17 : decode cX1_isStanding 17 = .ok (.goto 4, 3) := by decide +kernel
theorem dX1_isStanding_20 : decode cX1_isStanding 20 = .ok (.iconst 0, 1) := by decide +kernel
theorem dX1_isStanding_21 : decode cX1_isStanding 21 = .ok (.ireturn, 1) := by decide +kernel
theorem dX1_countLying_0 : decode cX1_countLying 0 = .ok (.aload_n 0, 1) := by decide +kernel
theorem dX1_countLying_1 : decode cX1_countLying 1 = .ok (.getfield 19, 3) := by decide +kernel
theorem dX1_countLying_4 : decode cX1_countLying 4 = .ok (.invokestatic 29, 3) := by decide +kernel
theorem dX1_countLying_7 : decode cX1_countLying 7 = .ok (.ireturn, 1) := by decide +kernel
theorem dX1_pieceOn_0 : decode cX1_pieceOn 0 = .ok (.iconst 0, 1) := by decide +kernel
theorem dX1_pieceOn_1 : decode cX1_pieceOn 1 = .ok (.istore_n 2, 1) := by decide +kernel
theorem dX1_pieceOn_2 : decode cX1_pieceOn 2 = .ok (.iload_n 2, 1) := by decide +kernel
theorem dX1_pieceOn_3 : decode cX1_pieceOn 3 = .ok (.aload_n 0, 1) := by decide +kernel
theorem dX1_pieceOn_4 : decode cX1_pieceOn 4 = .ok (.getfield 15, 3) := by decide +kernel
theorem dX1_pieceOn_7 : decode cX1_pieceOn 7 = .ok (.arraylength, 1) := by decide +kernel
theorem dX1_pieceOn_8 : decode cX1_pieceOn 8 = .ok (.if_icmp .ge 21, 3) := by decide +kernel
theorem dX1_pieceOn_11 : decode cX1_pieceOn 11 = .ok (.aload_n 0, 1) := by decide +kernel
theorem dX1_pieceOn_12 : decode cX1_pieceOn 12 = .ok (.getfield 15, 3) := by decide +kernel
theorem dX1_pieceOn_15 : decode cX1_pieceOn 15 = .ok (.iload_n 2, 1) := by decide +kernel
theorem dX1_pieceOn_16 : decode cX1_pieceOn 16 = .ok (.iaload, 1) := by decide +kernel
theorem dX1_pieceOn_17 : decode cX1_pieceOn 17 = .ok (.iload_n 1, 1) := by decide +kernel
theorem dX1_pieceOn_18 : decode cX1_pieceOn 18 = .ok (.if_icmp .ne 5, 3) := by decide +kernel
theorem dX1_pieceOn_21 : decode cX1_pieceOn 21 = .ok (.iload_n 2, 1) := by decide +kernel
theorem dX1_pieceOn_22 : decode cX1_pieceOn 22 = .ok (.ireturn, 1) := by decide +kernel
theorem dX1_pieceOn_23 : decode cX1_pieceOn 23 = .ok (.iinc 2 1, 3) := by decide +kernel
theorem dX1_pieceOn_26 : decode cX1_pieceOn 26 = .ok (.goto (-24), 3) := by decide +kernel
theorem dX1_pieceOn_29 : decode cX1_pieceOn 29 = .ok (.iconst (-1), 1) := by decide +kernel
theorem dX1_pieceOn_30 : decode cX1_pieceOn 30 = .ok (.ireturn, 1) := by decide +kernel
theorem dX1_isLike_0 : decode cX1_isLike 0 = .ok (.aload_n 0, 1) := by decide +kernel
theorem dX1_isLike_1 : decode cX1_isLike 1 = .ok (.getfield 9, 3) := by decide +kernel
theorem dX1_isLike_4 : decode cX1_isLike 4 = .ok (.aload_n 1, 1) := by decide +kernel
theorem dX1_isLike_5 : decode cX1_isLike 5 = .ok (.getfield 9, 3) := by decide +kernel
theorem dX1_isLike_8 : decode cX1_isLike 8 = .ok (.if_icmp .ne 27, 3) := by decide +kernel
theorem dX1_isLike_11 : decode cX1_isLike 11 = .ok (.aload_n 0, 1) := by decide +kernel
theorem dX1_isLike_12 : decode cX1_isLike 12 = .ok (.getfield 19, 3) := by decide +kernel
theorem dX1_isLike_15 : decode cX1_isLike 15 = .ok (.aload_n 1, 1) := by decide +kernel
theorem dX1_isLike_16 : decode cX1_isLike 16 = .ok (.getfield 19, 3) := by decide +kernel
theorem dX1_isLike_19 : decode cX1_isLike 19 = .ok (.if_icmp .ne 16, 3) := by decide +kernel
theorem dX1_isLike_22 : decode cX1_isLike 22 = .ok (.aload_n 0, 1) := by decide +kernel
theorem dX1_isLike_23 : decode cX1_isLike 23 = .ok (.getfield 15, 3) := by decide +kernel
theorem dX1_isLike_26 : decode cX1_isLike 26 = .ok (.arraylength, 1) := by decide +kernel
theorem dX1_isLike_27 : decode cX1_isLike 27 = .ok (.aload_n 1, 1) := by decide +kernel
theorem dX1_isLike_28 : decode cX1_isLike 28 = .ok (.getfield 15, 3) := by decide +kernel
theorem dX1_isLike_31 : decode cX1_isLike 31 = .ok (.arraylength, 1) := by decide +kernel
theorem dX1_isLike_32 : decode cX1_isLike 32 = .ok (.if_icmp .eq 5, 3) := by decide +kernel
theorem dX1_isLike_35 : decode cX1_isLike 35 = .ok (.iconst 0, 1) := by decide +kernel
theorem dX1_isLike_36 : decode cX1_isLike 36 = .ok (.ireturn, 1) := by decide +kernel
theorem dX1_isLike_37 : decode cX1_isLike 37 = .ok (.iconst 0, 1) := by decide +kernel
theorem dX1_isLike_38 : decode cX1_isLike 38 = .ok (.istore_n 2, 1) := by decide +kernel
theorem dX1_isLike_39 : decode cX1_isLike 39 = .ok (.iload_n 2, 1) := by decide +kernel
theorem dX1_isLike_40 : decode cX1_isLike 40 = .ok (.aload_n 0, 1) := by decide +kernel
theorem dX1_isLike_41 : decode cX1_isLike 41 = .ok (.getfield 15, 3) := by decide +kernel
theorem dX1_isLike_44 : decode cX1_isLike 44 = .ok (.arraylength, 1) := by decide +kernel
theorem dX1_isLike_45 : decode cX1_isLike 45 = .ok (.if_icmp .ge 35, 3) := by decide +kernel
theorem dX1_isLike_48 : decode cX1_isLike 48 = .ok (.iload_n 2, 1) := by decide +kernel
theorem dX1_isLike_49 : decode cX1_isLike 49 = .ok (.aload_n 1, 1) := by decide +kernel
theorem dX1_isLike_50 : decode cX1_isLike 50 = .ok (.getfield 15, 3) := by decide +kernel
theorem dX1_isLike_53 : decode cX1_isLike 53 = .ok (.arraylength, 1) := by decide +kernel
theorem dX1_isLike_54 : decode cX1_isLike 54 = .ok (.if_icmp .ge 26, 3) := by decide +kernel
theorem dX1_isLike_57 : decode cX1_isLike 57 = .ok (.aload_n 0, 1) := by decide +kernel
theorem dX1_isLike_58 : decode cX1_isLike 58 = .ok (.getfield 15, 3) := by decide +kernel
theorem dX1_isLike_61 : decode cX1_isLike 61 = .ok (.iload_n 2, 1) := by decide +kernel
theorem dX1_isLike_62 : decode cX1_isLike 62 = .ok (.iaload, 1) := by decide +kernel
theorem dX1_isLike_63 : decode cX1_isLike 63 = .ok (.aload_n 1, 1) := by decide +kernel
theorem dX1_isLike_64 : decode cX1_isLike 64 = .ok (.getfield 15, 3) := by decide +kernel
theorem dX1_isLike_67 : decode cX1_isLike 67 = .ok (.iload_n 2, 1) := by decide +kernel
theorem dX1_isLike_68 : decode cX1_isLike 68 = .ok (.iaload, 1) := by decide +kernel
theorem dX1_isLike_69 : decode cX1_isLike 69 = .ok (.if_icmp .eq 5, 3) := by decide +kernel
theorem dX1_isLike_72 : decode cX1_isLike 72 = .ok (.iconst 0, 1) := by decide +kernel
theorem dX1_isLike_73 : decode cX1_isLike 73 = .ok (.ireturn, 1) := by decide +kernel
theorem dX1_isLike_74 : decode cX1_isLike 74 = .ok (.iinc 2 1, 3) := by decide +kernel
theorem dX1_isLike_77 : decode cX1_isLike 77 = .ok (.goto (-38), 3) := by decide +kernel
theorem dX1_isLike_80 : decode cX1_isLike 80 = .ok (.iconst 1, 1) := by decide +kernel
theorem dX1_isLike_81 : decode cX1_isLike 81 = .ok (.ireturn, 1) := by decide +kernel
theorem dX1_withPieceOn_0 : decode cX1_withPieceOn 0 = .ok (.aload_n 0, 1) := by decide +kernel
theorem dX1_withPieceOn_1 : decode cX1_withPieceOn 1 = .ok (.getfield 15, 3) := by decide +kernel
theorem dX1_withPieceOn_4 : decode cX1_withPieceOn 4 = .ok (.arraylength, 1) := by decide +kernel
theorem dX1_withPieceOn_5 : decode cX1_withPieceOn 5 = .ok (.iconst 1, 1) := by decide +kernel
theorem dX1_withPieceOn_6 : decode cX1_withPieceOn 6 = .ok (.iadd, 1) := by decide +kernel
theorem dX1_withPieceOn_7 : decode cX1_withPieceOn 7 = .ok (.newarray .int, 2) := by decide +kernel
theorem dX1_withPieceOn_9 : decode cX1_withPieceOn 9 = .ok (.astore_n 2, 1) := by decide +kernel
theorem dX1_withPieceOn_10 : decode cX1_withPieceOn 10 = .ok (.aload_n 0, 1) := by decide +kernel
theorem dX1_withPieceOn_11 : decode cX1_withPieceOn 11 = .ok (.getfield 15, 3) := by decide +kernel
theorem dX1_withPieceOn_14 : decode cX1_withPieceOn 14 = .ok (.iconst 0, 1) := by decide +kernel
theorem dX1_withPieceOn_15 : decode cX1_withPieceOn 15 = .ok (.aload_n 2, 1) := by decide +kernel
theorem dX1_withPieceOn_16 : decode cX1_withPieceOn 16 = .ok (.iconst 0, 1) := by decide +kernel
theorem dX1_withPieceOn_17 : decode cX1_withPieceOn 17 = .ok (.aload_n 0, 1) := by decide +kernel
theorem dX1_withPieceOn_18 : decode cX1_withPieceOn 18 = .ok (.getfield 15, 3) := by decide +kernel
theorem dX1_withPieceOn_21 : decode cX1_withPieceOn 21 = .ok (.arraylength, 1) := by decide +kernel
theorem dX1_withPieceOn_22 : decode cX1_withPieceOn 22 = .ok (.invokestatic 35, 3) := by decide +kernel
theorem dX1_withPieceOn_25 : decode cX1_withPieceOn 25 = .ok (.aload_n 2, 1) := by decide +kernel
theorem dX1_withPieceOn_26 : decode cX1_withPieceOn 26 = .ok (.aload_n 0, 1) := by decide +kernel
theorem dX1_withPieceOn_27 : decode cX1_withPieceOn 27 = .ok (.getfield 15, 3) := by decide +kernel
theorem dX1_withPieceOn_30 : decode cX1_withPieceOn 30 = .ok (.arraylength, 1) := by decide +kernel
theorem dX1_withPieceOn_31 : decode cX1_withPieceOn 31 = .ok (.iload_n 1, 1) := by decide +kernel
theorem dX1_withPieceOn_32 : decode cX1_withPieceOn 32 = .ok (.iastore, 1) := by decide +kernel
theorem dX1_withPieceOn_33 : decode cX1_withPieceOn 33 = .ok (.new 10, 3) := by decide +kernel
theorem dX1_withPieceOn_36 : decode cX1_withPieceOn 36 = .ok (.dup, 1) := by decide +kernel
theorem dX1_withPieceOn_37 : decode cX1_withPieceOn 37 = .ok (.aload_n 0, 1) := by decide +kernel
theorem dX1_withPieceOn_38 : decode cX1_withPieceOn 38 = .ok (.getfield 9, 3) := by decide +kernel
theorem dX1_withPieceOn_41 : decode cX1_withPieceOn 41 = .ok (.aload_n 2, 1) := by decide +kernel
theorem dX1_withPieceOn_42 : decode cX1_withPieceOn 42 = .ok (.aload_n 0, 1) := by decide +kernel
theorem dX1_withPieceOn_43 : decode cX1_withPieceOn 43 = .ok (.getfield 19, 3) := by decide +kernel
theorem dX1_withPieceOn_46 : decode cX1_withPieceOn 46 = .ok (.invokespecial 41, 3) := by decide +kernel
theorem dX1_withPieceOn_49 : decode cX1_withPieceOn 49 = .ok (.areturn, 1) := by decide +kernel
theorem dX1_after_0 : decode cX1_after 0 = .ok (.iload_n 1, 1) := by decide +kernel
theorem dX1_after_1 : decode cX1_after 1 = .ok (.tableswitch 55 0 3 #[31, 37, 43, 49], 31) := by decide +kernel
theorem dX1_after_32 : decode cX1_after 32 = .ok (.aload_n 0, 1) := by decide +kernel
theorem dX1_after_33 : decode cX1_after 33 = .ok (.iload_n 2, 1) := by decide +kernel
theorem dX1_after_34 : decode cX1_after 34 = .ok (.invokevirtual 44, 3) := by decide +kernel
theorem dX1_after_37 : decode cX1_after 37 = .ok (.areturn, 1) := by decide +kernel
theorem dX1_after_38 : decode cX1_after 38 = .ok (.aload_n 0, 1) := by decide +kernel
theorem dX1_after_39 : decode cX1_after 39 = .ok (.iload_n 2, 1) := by decide +kernel
theorem dX1_after_40 : decode cX1_after 40 = .ok (.invokevirtual 48, 3) := by decide +kernel
theorem dX1_after_43 : decode cX1_after 43 = .ok (.areturn, 1) := by decide +kernel
theorem dX1_after_44 : decode cX1_after 44 = .ok (.aload_n 0, 1) := by decide +kernel
theorem dX1_after_45 : decode cX1_after 45 = .ok (.iload_n 2, 1) := by decide +kernel
theorem dX1_after_46 : decode cX1_after 46 = .ok (.invokevirtual 51, 3) := by decide +kernel
theorem dX1_after_49 : decode cX1_after 49 = .ok (.areturn, 1) := by decide +kernel
theorem dX1_after_50 : decode cX1_after 50 = .ok (.aload_n 0, 1) := by decide +kernel
theorem dX1_after_51 : decode cX1_after 51 = .ok (.iload_n 2, 1) := by decide +kernel
theorem dX1_after_52 : decode cX1_after 52 = .ok (.invokevirtual 54, 3) := by decide +kernel
theorem dX1_after_55 : decode cX1_after 55 = .ok (.areturn, 1) := by decide +kernel
theorem dX1_after_56 : decode cX1_after 56 = .ok (.aconst_null, 1) := by decide +kernel
theorem dX1_after_57 : decode cX1_after 57 = .ok (.areturn, 1) := by decide +kernel
theorem dX1_afterStep_0 : decode cX1_afterStep 0 = .ok (.aload_n 0, 1) := by decide +kernel
theorem dX1_afterStep_1 : decode cX1_afterStep 1 = .ok (.getfield 9, 3) := by decide +kernel
theorem dX1_afterStep_4 : decode cX1_afterStep 4 = .ok (.iload_n 1, 1) := by decide +kernel
theorem dX1_afterStep_5 : decode cX1_afterStep 5 = .ok (.invokestatic 57, 3) := by decide +kernel
theorem dX1_afterStep_8 : decode cX1_afterStep 8 = .ok (.istore_n 2, 1) := by decide +kernel
theorem dX1_afterStep_9 : decode cX1_afterStep 9 = .ok (.iload_n 2, 1) := by decide +kernel
theorem dX1_afterStep_10 : decode cX1_afterStep 10 = .ok (.iconst (-1), 1) := by decide +kernel
theorem dX1_afterStep_11 : decode cX1_afterStep 11 = .ok (.if_icmp .ne 7, 3) := by decide +kernel
theorem dX1_afterStep_14 : decode cX1_afterStep 14 = .ok (.aconst_null, 1) := by decide +kernel
theorem dX1_afterStep_15 : decode cX1_afterStep 15 = .ok (.goto 19, 3) := by decide +kernel
theorem dX1_afterStep_18 : decode cX1_afterStep 18 = .ok (.new 10, 3) := by decide +kernel
theorem dX1_afterStep_21 : decode cX1_afterStep 21 = .ok (.dup, 1) := by decide +kernel
theorem dX1_afterStep_22 : decode cX1_afterStep 22 = .ok (.iload_n 2, 1) := by decide +kernel
theorem dX1_afterStep_23 : decode cX1_afterStep 23 = .ok (.aload_n 0, 1) := by decide +kernel
theorem dX1_afterStep_24 : decode cX1_afterStep 24 = .ok (.getfield 15, 3) := by decide +kernel
theorem dX1_afterStep_27 : decode cX1_afterStep 27 = .ok (.aload_n 0, 1) := by decide +kernel
theorem dX1_afterStep_28 : decode cX1_afterStep 28 = .ok (.getfield 19, 3) := by decide +kernel
theorem dX1_afterStep_31 : decode cX1_afterStep 31 = .ok (.invokespecial 41, 3) := by decide +kernel
theorem dX1_afterStep_34 : decode cX1_afterStep 34 = .ok (.areturn, 1) := by decide +kernel
theorem dX1_afterKnock_0 : decode cX1_afterKnock 0 = .ok (.aload_n 0, 1) := by decide +kernel
theorem dX1_afterKnock_1 : decode cX1_afterKnock 1 = .ok (.iload_n 1, 1) := by decide +kernel
theorem dX1_afterKnock_2 : decode cX1_afterKnock 2 = .ok (.invokevirtual 61, 3) := by decide +kernel
theorem dX1_afterKnock_5 : decode cX1_afterKnock 5 = .ok (.ifCond .eq 11, 3) := by decide +kernel
theorem dX1_afterKnock_8 : decode cX1_afterKnock 8 = .ok (.aload_n 0, 1) := by decide +kernel
theorem dX1_afterKnock_9 : decode cX1_afterKnock 9 = .ok (.iload_n 1, 1) := by decide +kernel
theorem dX1_afterKnock_10 : decode cX1_afterKnock 10 = .ok (.invokevirtual 64, 3) := by decide +kernel
theorem dX1_afterKnock_13 : decode cX1_afterKnock 13 = .ok (.ifCond .ne 5, 3) := by decide +kernel
theorem dX1_afterKnock_16 : decode cX1_afterKnock 16 = .ok (.aconst_null, 1) := by decide +kernel
theorem dX1_afterKnock_17 : decode cX1_afterKnock 17 = .ok (.areturn, 1) := by decide +kernel
theorem dX1_afterKnock_18 : decode cX1_afterKnock 18 = .ok (.new 10, 3) := by decide +kernel
theorem dX1_afterKnock_21 : decode cX1_afterKnock 21 = .ok (.dup, 1) := by decide +kernel
theorem dX1_afterKnock_22 : decode cX1_afterKnock 22 = .ok (.aload_n 0, 1) := by decide +kernel
theorem dX1_afterKnock_23 : decode cX1_afterKnock 23 = .ok (.getfield 9, 3) := by decide +kernel
theorem dX1_afterKnock_26 : decode cX1_afterKnock 26 = .ok (.aload_n 0, 1) := by decide +kernel
theorem dX1_afterKnock_27 : decode cX1_afterKnock 27 = .ok (.getfield 15, 3) := by decide +kernel
theorem dX1_afterKnock_30 : decode cX1_afterKnock 30 = .ok (.aload_n 0, 1) := by decide +kernel
theorem dX1_afterKnock_31 : decode cX1_afterKnock 31 = .ok (.getfield 19, 3) := by decide +kernel
theorem dX1_afterKnock_34 : decode cX1_afterKnock 34 = .ok (.iconst 1, 1) := by decide +kernel
theorem dX1_afterKnock_35 : decode cX1_afterKnock 35 = .ok (.iload_n 1, 1) := by decide +kernel
theorem dX1_afterKnock_36 : decode cX1_afterKnock 36 = .ok (.ishl, 1) := by decide +kernel
theorem dX1_afterKnock_37 : decode cX1_afterKnock 37 = .ok (.ior, 1) := by decide +kernel
theorem dX1_afterKnock_38 : decode cX1_afterKnock 38 = .ok (.invokespecial 41, 3) := by decide +kernel
theorem dX1_afterKnock_41 : decode cX1_afterKnock 41 = .ok (.areturn, 1) := by decide +kernel
theorem dX1_afterSetUp_0 : decode cX1_afterSetUp 0 = .ok (.aload_n 0, 1) := by decide +kernel
theorem dX1_afterSetUp_1 : decode cX1_afterSetUp 1 = .ok (.iload_n 1, 1) := by decide +kernel
theorem dX1_afterSetUp_2 : decode cX1_afterSetUp 2 = .ok (.invokevirtual 26, 3) := by decide +kernel
theorem dX1_afterSetUp_5 : decode cX1_afterSetUp 5 = .ok (.ifCond .eq 11, 3) := by decide +kernel
theorem dX1_afterSetUp_8 : decode cX1_afterSetUp 8 = .ok (.aload_n 0, 1) := by decide +kernel
theorem dX1_afterSetUp_9 : decode cX1_afterSetUp 9 = .ok (.iload_n 1, 1) := by decide +kernel
theorem dX1_afterSetUp_10 : decode cX1_afterSetUp 10 = .ok (.invokevirtual 64, 3) := by decide +kernel
theorem dX1_afterSetUp_13 : decode cX1_afterSetUp 13 = .ok (.ifCond .ne 5, 3) := by decide +kernel
theorem dX1_afterSetUp_16 : decode cX1_afterSetUp 16 = .ok (.aconst_null, 1) := by decide +kernel
theorem dX1_afterSetUp_17 : decode cX1_afterSetUp 17 = .ok (.areturn, 1) := by decide +kernel
theorem dX1_afterSetUp_18 : decode cX1_afterSetUp 18 = .ok (.new 10, 3) := by decide +kernel
theorem dX1_afterSetUp_21 : decode cX1_afterSetUp 21 = .ok (.dup, 1) := by decide +kernel
theorem dX1_afterSetUp_22 : decode cX1_afterSetUp 22 = .ok (.aload_n 0, 1) := by decide +kernel
theorem dX1_afterSetUp_23 : decode cX1_afterSetUp 23 = .ok (.getfield 9, 3) := by decide +kernel
theorem dX1_afterSetUp_26 : decode cX1_afterSetUp 26 = .ok (.aload_n 0, 1) := by decide +kernel
theorem dX1_afterSetUp_27 : decode cX1_afterSetUp 27 = .ok (.getfield 15, 3) := by decide +kernel
theorem dX1_afterSetUp_30 : decode cX1_afterSetUp 30 = .ok (.aload_n 0, 1) := by decide +kernel
theorem dX1_afterSetUp_31 : decode cX1_afterSetUp 31 = .ok (.getfield 19, 3) := by decide +kernel
theorem dX1_afterSetUp_34 : decode cX1_afterSetUp 34 = .ok (.iconst 1, 1) := by decide +kernel
theorem dX1_afterSetUp_35 : decode cX1_afterSetUp 35 = .ok (.iload_n 1, 1) := by decide +kernel
theorem dX1_afterSetUp_36 : decode cX1_afterSetUp 36 = .ok (.ishl, 1) := by decide +kernel
theorem dX1_afterSetUp_37 : decode cX1_afterSetUp 37 = .ok (.iconst (-1), 1) := by decide +kernel
theorem dX1_afterSetUp_38 : decode cX1_afterSetUp 38 = .ok (.ixor, 1) := by decide +kernel
theorem dX1_afterSetUp_39 : decode cX1_afterSetUp 39 = .ok (.iand, 1) := by decide +kernel
theorem dX1_afterSetUp_40 : decode cX1_afterSetUp 40 = .ok (.invokespecial 41, 3) := by decide +kernel
theorem dX1_afterSetUp_43 : decode cX1_afterSetUp 43 = .ok (.areturn, 1) := by decide +kernel
theorem dX1_afterPush_0 : decode cX1_afterPush 0 = .ok (.aload_n 0, 1) := by decide +kernel
theorem dX1_afterPush_1 : decode cX1_afterPush 1 = .ok (.getfield 9, 3) := by decide +kernel
theorem dX1_afterPush_4 : decode cX1_afterPush 4 = .ok (.iload_n 1, 1) := by decide +kernel
theorem dX1_afterPush_5 : decode cX1_afterPush 5 = .ok (.invokestatic 57, 3) := by decide +kernel
theorem dX1_afterPush_8 : decode cX1_afterPush 8 = .ok (.istore_n 2, 1) := by decide +kernel
theorem dX1_afterPush_9 : decode cX1_afterPush 9 = .ok (.iload_n 2, 1) := by decide +kernel
theorem dX1_afterPush_10 : decode cX1_afterPush 10 = .ok (.iload_n 1, 1) := by decide +kernel
theorem dX1_afterPush_11 : decode cX1_afterPush 11 = .ok (.invokestatic 57, 3) := by decide +kernel
theorem dX1_afterPush_14 : decode cX1_afterPush 14 = .ok (.istore_n 3, 1) := by decide +kernel
theorem dX1_afterPush_15 : decode cX1_afterPush 15 = .ok (.aload_n 0, 1) := by decide +kernel
theorem dX1_afterPush_16 : decode cX1_afterPush 16 = .ok (.iload_n 2, 1) := by decide +kernel
theorem dX1_afterPush_17 : decode cX1_afterPush 17 = .ok (.invokevirtual 67, 3) := by decide +kernel
theorem dX1_afterPush_20 : decode cX1_afterPush 20 = .ok (.istore 4, 2) := by decide +kernel
theorem dX1_afterPush_22 : decode cX1_afterPush 22 = .ok (.aload_n 0, 1) := by decide +kernel
theorem dX1_afterPush_23 : decode cX1_afterPush 23 = .ok (.iload 4, 2) := by decide +kernel
theorem dX1_afterPush_25 : decode cX1_afterPush 25 = .ok (.invokevirtual 22, 3) := by decide +kernel
theorem dX1_afterPush_28 : decode cX1_afterPush 28 = .ok (.ifCond .eq 26, 3) := by decide +kernel
theorem dX1_afterPush_31 : decode cX1_afterPush 31 = .ok (.aload_n 0, 1) := by decide +kernel
theorem dX1_afterPush_32 : decode cX1_afterPush 32 = .ok (.iload 4, 2) := by decide +kernel
theorem dX1_afterPush_34 : decode cX1_afterPush 34 = .ok (.invokevirtual 26, 3) := by decide +kernel
theorem dX1_afterPush_37 : decode cX1_afterPush 37 = .ok (.ifCond .ne 17, 3) := by decide +kernel
theorem dX1_afterPush_40 : decode cX1_afterPush 40 = .ok (.iload_n 3, 1) := by decide +kernel
theorem dX1_afterPush_41 : decode cX1_afterPush 41 = .ok (.iconst (-1), 1) := by decide +kernel
theorem dX1_afterPush_42 : decode cX1_afterPush 42 = .ok (.if_icmp .eq 12, 3) := by decide +kernel
theorem dX1_afterPush_45 : decode cX1_afterPush 45 = .ok (.aload_n 0, 1) := by decide +kernel
theorem dX1_afterPush_46 : decode cX1_afterPush 46 = .ok (.iload_n 3, 1) := by decide +kernel
theorem dX1_afterPush_47 : decode cX1_afterPush 47 = .ok (.invokevirtual 67, 3) := by decide +kernel
theorem dX1_afterPush_50 : decode cX1_afterPush 50 = .ok (.iconst (-1), 1) := by decide +kernel
theorem dX1_afterPush_51 : decode cX1_afterPush 51 = .ok (.if_icmp .eq 5, 3) := by decide +kernel
theorem dX1_afterPush_54 : decode cX1_afterPush 54 = .ok (.aconst_null, 1) := by decide +kernel
theorem dX1_afterPush_55 : decode cX1_afterPush 55 = .ok (.areturn, 1) := by decide +kernel
theorem dX1_afterPush_56 : decode cX1_afterPush 56 = .ok (.aload_n 0, 1) := by decide +kernel
theorem dX1_afterPush_57 : decode cX1_afterPush 57 = .ok (.getfield 15, 3) := by decide +kernel
theorem dX1_afterPush_60 : decode cX1_afterPush 60 = .ok (.invokevirtual 70, 3) := by decide +kernel
theorem dX1_afterPush_63 : decode cX1_afterPush 63 = .ok (.checkcast 71, 3) := by decide +kernel
theorem dX1_afterPush_66 : decode cX1_afterPush 66 = .ok (.astore 5, 2) := by decide +kernel
theorem dX1_afterPush_68 : decode cX1_afterPush 68 = .ok (.aload 5, 2) := by decide +kernel
theorem dX1_afterPush_70 : decode cX1_afterPush 70 = .ok (.iload 4, 2) := by decide +kernel
theorem dX1_afterPush_72 : decode cX1_afterPush 72 = .ok (.iload_n 3, 1) := by decide +kernel
theorem dX1_afterPush_73 : decode cX1_afterPush 73 = .ok (.iastore, 1) := by decide +kernel
theorem dX1_afterPush_74 : decode cX1_afterPush 74 = .ok (.new 10, 3) := by decide +kernel
theorem dX1_afterPush_77 : decode cX1_afterPush 77 = .ok (.dup, 1) := by decide +kernel
theorem dX1_afterPush_78 : decode cX1_afterPush 78 = .ok (.iload_n 2, 1) := by decide +kernel
theorem dX1_afterPush_79 : decode cX1_afterPush 79 = .ok (.aload 5, 2) := by decide +kernel
theorem dX1_afterPush_81 : decode cX1_afterPush 81 = .ok (.aload_n 0, 1) := by decide +kernel
theorem dX1_afterPush_82 : decode cX1_afterPush 82 = .ok (.getfield 19, 3) := by decide +kernel
theorem dX1_afterPush_85 : decode cX1_afterPush 85 = .ok (.invokespecial 41, 3) := by decide +kernel
theorem dX1_afterPush_88 : decode cX1_afterPush 88 = .ok (.areturn, 1) := by decide +kernel
theorem dX1_isInReach_0 : decode cX1_isInReach 0 = .ok (.aload_n 0, 1) := by decide +kernel
theorem dX1_isInReach_1 : decode cX1_isInReach 1 = .ok (.iload_n 1, 1) := by decide +kernel
theorem dX1_isInReach_2 : decode cX1_isInReach 2 = .ok (.invokevirtual 22, 3) := by decide +kernel
theorem dX1_isInReach_5 : decode cX1_isInReach 5 = .ok (.ifCond .ne 5, 3) := by decide +kernel
theorem dX1_isInReach_8 : decode cX1_isInReach 8 = .ok (.iconst 0, 1) := by decide +kernel
theorem dX1_isInReach_9 : decode cX1_isInReach 9 = .ok (.ireturn, 1) := by decide +kernel
theorem dX1_isInReach_10 : decode cX1_isInReach 10 = .ok (.aload_n 0, 1) := by decide +kernel
theorem dX1_isInReach_11 : decode cX1_isInReach 11 = .ok (.getfield 15, 3) := by decide +kernel
theorem dX1_isInReach_14 : decode cX1_isInReach 14 = .ok (.iload_n 1, 1) := by decide +kernel
theorem dX1_isInReach_15 : decode cX1_isInReach 15 = .ok (.iaload, 1) := by decide +kernel
theorem dX1_isInReach_16 : decode cX1_isInReach 16 = .ok (.bipush 8, 2) := by decide +kernel
theorem dX1_isInReach_18 : decode cX1_isInReach 18 = .ok (.idiv, 1) := by decide +kernel
theorem dX1_isInReach_19 : decode cX1_isInReach 19 = .ok (.aload_n 0, 1) := by decide +kernel
theorem dX1_isInReach_20 : decode cX1_isInReach 20 = .ok (.getfield 9, 3) := by decide +kernel
theorem dX1_isInReach_23 : decode cX1_isInReach 23 = .ok (.bipush 8, 2) := by decide +kernel
theorem dX1_isInReach_25 : decode cX1_isInReach 25 = .ok (.idiv, 1) := by decide +kernel
theorem dX1_isInReach_26 : decode cX1_isInReach 26 = .ok (.isub, 1) := by decide +kernel
theorem dX1_isInReach_27 : decode cX1_isInReach 27 = .ok (.invokestatic 75, 3) := by decide +kernel
theorem dX1_isInReach_30 : decode cX1_isInReach 30 = .ok (.istore_n 2, 1) := by decide +kernel
theorem dX1_isInReach_31 : decode cX1_isInReach 31 = .ok (.aload_n 0, 1) := by decide +kernel
theorem dX1_isInReach_32 : decode cX1_isInReach 32 = .ok (.getfield 15, 3) := by decide +kernel
theorem dX1_isInReach_35 : decode cX1_isInReach 35 = .ok (.iload_n 1, 1) := by decide +kernel
theorem dX1_isInReach_36 : decode cX1_isInReach 36 = .ok (.iaload, 1) := by decide +kernel
theorem dX1_isInReach_37 : decode cX1_isInReach 37 = .ok (.bipush 8, 2) := by decide +kernel
theorem dX1_isInReach_39 : decode cX1_isInReach 39 = .ok (.irem, 1) := by decide +kernel
theorem dX1_isInReach_40 : decode cX1_isInReach 40 = .ok (.aload_n 0, 1) := by decide +kernel
theorem dX1_isInReach_41 : decode cX1_isInReach 41 = .ok (.getfield 9, 3) := by decide +kernel
theorem dX1_isInReach_44 : decode cX1_isInReach 44 = .ok (.bipush 8, 2) := by decide +kernel
theorem dX1_isInReach_46 : decode cX1_isInReach 46 = .ok (.irem, 1) := by decide +kernel
theorem dX1_isInReach_47 : decode cX1_isInReach 47 = .ok (.isub, 1) := by decide +kernel
theorem dX1_isInReach_48 : decode cX1_isInReach 48 = .ok (.invokestatic 75, 3) := by decide +kernel
theorem dX1_isInReach_51 : decode cX1_isInReach 51 = .ok (.istore_n 3, 1) := by decide +kernel
theorem dX1_isInReach_52 : decode cX1_isInReach 52 = .ok (.iload_n 2, 1) := by decide +kernel
theorem dX1_isInReach_53 : decode cX1_isInReach 53 = .ok (.iconst 1, 1) := by decide +kernel
theorem dX1_isInReach_54 : decode cX1_isInReach 54 = .ok (.if_icmp .gt 12, 3) := by decide +kernel
theorem dX1_isInReach_57 : decode cX1_isInReach 57 = .ok (.iload_n 3, 1) := by decide +kernel
theorem dX1_isInReach_58 : decode cX1_isInReach 58 = .ok (.iconst 1, 1) := by decide +kernel
theorem dX1_isInReach_59 : decode cX1_isInReach 59 = .ok (.if_icmp .gt 7, 3) := by decide +kernel
theorem dX1_isInReach_62 : decode cX1_isInReach 62 = .ok (.iconst 1, 1) := by decide +kernel
theorem dX1_isInReach_63 : decode cX1_isInReach 63 = .ok (.goto 4, 3) := by decide +kernel
theorem dX1_isInReach_66 : decode cX1_isInReach 66 = .ok (.iconst 0, 1) := by decide +kernel
theorem dX1_isInReach_67 : decode cX1_isInReach 67 = .ok (.ireturn, 1) := by decide +kernel
theorem dX2_init_0 : decode cX2_init 0 = .ok (.aload_n 0, 1) := by decide +kernel
theorem dX2_init_1 : decode cX2_init 1 = .ok (.invokespecial 1, 3) := by decide +kernel
theorem dX2_init_4 : decode cX2_init 4 = .ok (.aload_n 0, 1) := by decide +kernel
theorem dX2_init_5 : decode cX2_init 5 = .ok (.new 7, 3) := by decide +kernel
theorem dX2_init_8 : decode cX2_init 8 = .ok (.dup, 1) := by decide +kernel
theorem dX2_init_9 : decode cX2_init 9 = .ok (.aconst_null, 1) := by decide +kernel
theorem dX2_init_10 : decode cX2_init 10 = .ok (.iconst 0, 1) := by decide +kernel
theorem dX2_init_11 : decode cX2_init 11 = .ok (.iconst (-1), 1) := by decide +kernel
theorem dX2_init_12 : decode cX2_init 12 = .ok (.iconst (-1), 1) := by decide +kernel
theorem dX2_init_13 : decode cX2_init 13 = .ok (.new 11, 3) := by decide +kernel
theorem dX2_init_16 : decode cX2_init 16 = .ok (.dup, 1) := by decide +kernel
theorem dX2_init_17 : decode cX2_init 17 = .ok (.iconst 0, 1) := by decide +kernel
theorem dX2_init_18 : decode cX2_init 18 = .ok (.iconst 0, 1) := by decide +kernel
theorem dX2_init_19 : decode cX2_init 19 = .ok (.newarray .int, 2) := by decide +kernel
theorem dX2_init_21 : decode cX2_init 21 = .ok (.iconst 0, 1) := by decide +kernel
theorem dX2_init_22 : decode cX2_init 22 = .ok (.invokespecial 13, 3) := by decide +kernel
theorem dX2_init_25 : decode cX2_init 25 = .ok (.invokespecial 16, 3) := by decide +kernel
theorem dX2_init_28 : decode cX2_init 28 = .ok (.putfield 19, 3) := by decide +kernel
theorem dX2_init_31 : decode cX2_init 31 = .ok (.aload_n 0, 1) := by decide +kernel
theorem dX2_init_32 : decode cX2_init 32 = .ok (.new 23, 3) := by decide +kernel
theorem dX2_init_35 : decode cX2_init 35 = .ok (.dup, 1) := by decide +kernel
theorem dX2_init_36 : decode cX2_init 36 = .ok (.invokespecial 25, 3) := by decide +kernel
theorem dX2_init_39 : decode cX2_init 39 = .ok (.putfield 26, 3) := by decide +kernel
theorem dX2_init_42 : decode cX2_init 42 = .ok (.aload_n 0, 1) := by decide +kernel
theorem dX2_init_43 : decode cX2_init 43 = .ok (.getfield 26, 3) := by decide +kernel
theorem dX2_init_46 : decode cX2_init 46 = .ok (.aload_n 0, 1) := by decide +kernel
theorem dX2_init_47 : decode cX2_init 47 = .ok (.getfield 19, 3) := by decide +kernel
theorem dX2_init_50 : decode cX2_init 50 = .ok (.invokeinterface 30 2, 5) := by decide +kernel
theorem dX2_init_55 : decode cX2_init 55 = .ok (.pop, 1) := by decide +kernel
theorem dX2_init_56 : decode cX2_init 56 = .ok (.return_, 1) := by decide +kernel
theorem dX2_setPiece_0 : decode cX2_setPiece 0 = .ok (.iload_n 1, 1) := by decide +kernel
theorem dX2_setPiece_1 : decode cX2_setPiece 1 = .ok (.iload_n 2, 1) := by decide +kernel
theorem dX2_setPiece_2 : decode cX2_setPiece 2 = .ok (.invokestatic 36, 3) := by decide +kernel
theorem dX2_setPiece_5 : decode cX2_setPiece 5 = .ok (.istore_n 3, 1) := by decide +kernel
theorem dX2_setPiece_6 : decode cX2_setPiece 6 = .ok (.aload_n 0, 1) := by decide +kernel
theorem dX2_setPiece_7 : decode cX2_setPiece 7 = .ok (.getfield 19, 3) := by decide +kernel
theorem dX2_setPiece_10 : decode cX2_setPiece 10 = .ok (.getfield 40, 3) := by decide +kernel
theorem dX2_setPiece_13 : decode cX2_setPiece 13 = .ok (.getfield 44, 3) := by decide +kernel
theorem dX2_setPiece_16 : decode cX2_setPiece 16 = .ok (.arraylength, 1) := by decide +kernel
theorem dX2_setPiece_17 : decode cX2_setPiece 17 = .ok (.istore 4, 2) := by decide +kernel
theorem dX2_setPiece_19 : decode cX2_setPiece 19 = .ok (.iload 4, 2) := by decide +kernel
theorem dX2_setPiece_21 : decode cX2_setPiece 21 = .ok (.bipush 16, 2) := by decide +kernel
theorem dX2_setPiece_23 : decode cX2_setPiece 23 = .ok (.if_icmp .lt 13, 3) := by decide +kernel
theorem dX2_setPiece_26 : decode cX2_setPiece 26 = .ok (.new 48, 3) := by decide +kernel
theorem dX2_setPiece_29 : decode cX2_setPiece 29 = .ok (.dup, 1) := by decide +kernel
theorem dX2_setPiece_30 : decode cX2_setPiece 30 = .ok (.ldc 50, 2) := by decide +kernel
theorem dX2_setPiece_32 : decode cX2_setPiece 32 = .ok (.invokespecial 52, 3) := by decide +kernel
theorem dX2_setPiece_35 : decode cX2_setPiece 35 = .ok (.athrow, 1) := by decide +kernel
theorem dX2_setPiece_36 : decode cX2_setPiece 36 = .ok (.aload_n 0, 1) := by decide +kernel
theorem dX2_setPiece_37 : decode cX2_setPiece 37 = .ok (.getfield 26, 3) := by decide +kernel
theorem dX2_setPiece_40 : decode cX2_setPiece 40 = .ok (.invokeinterface 55 1, 5) := by decide +kernel
theorem dX2_setPiece_45 : decode cX2_setPiece 45 = .ok (.iconst 1, 1) := by decide +kernel
theorem dX2_setPiece_46 : decode cX2_setPiece 46 = .ok (.if_icmp .le 13, 3) := by decide +kernel
theorem dX2_setPiece_49 : decode cX2_setPiece 49 = .ok (.new 48, 3) := by decide +kernel
theorem dX2_setPiece_52 : decode cX2_setPiece 52 = .ok (.dup, 1) := by decide +kernel
theorem dX2_setPiece_53 : decode cX2_setPiece 53 = .ok (.ldc 59, 2) := by decide +kernel
theorem dX2_setPiece_55 : decode cX2_setPiece 55 = .ok (.invokespecial 52, 3) := by decide +kernel
theorem dX2_setPiece_58 : decode cX2_setPiece 58 = .ok (.athrow, 1) := by decide +kernel
theorem dX2_setPiece_59 : decode cX2_setPiece 59 = .ok (.aload_n 0, 1) := by decide +kernel
theorem dX2_setPiece_60 : decode cX2_setPiece 60 = .ok (.getfield 19, 3) := by decide +kernel
theorem dX2_setPiece_63 : decode cX2_setPiece 63 = .ok (.getfield 40, 3) := by decide +kernel
theorem dX2_setPiece_66 : decode cX2_setPiece 66 = .ok (.iload_n 3, 1) := by decide +kernel
theorem dX2_setPiece_67 : decode cX2_setPiece 67 = .ok (.invokevirtual 61, 3) := by decide +kernel
theorem dX2_setPiece_70 : decode cX2_setPiece 70 = .ok (.iconst (-1), 1) := by decide +kernel
theorem dX2_setPiece_71 : decode cX2_setPiece 71 = .ok (.if_icmp .eq 13, 3) := by decide +kernel
theorem dX2_setPiece_74 : decode cX2_setPiece 74 = .ok (.new 48, 3) := by decide +kernel
theorem dX2_setPiece_77 : decode cX2_setPiece 77 = .ok (.dup, 1) := by decide +kernel
theorem dX2_setPiece_78 : decode cX2_setPiece 78 = .ok (.ldc 65, 2) := by decide +kernel
theorem dX2_setPiece_80 : decode cX2_setPiece 80 = .ok (.invokespecial 52, 3) := by decide +kernel
theorem dX2_setPiece_83 : decode cX2_setPiece 83 = .ok (.athrow, 1) := by decide +kernel
theorem dX2_setPiece_84 : decode cX2_setPiece 84 = .ok (.aload_n 0, 1) := by decide +kernel
theorem dX2_setPiece_85 : decode cX2_setPiece 85 = .ok (.getfield 19, 3) := by decide +kernel
theorem dX2_setPiece_88 : decode cX2_setPiece 88 = .ok (.aload_n 0, 1) := by decide +kernel
theorem dX2_setPiece_89 : decode cX2_setPiece 89 = .ok (.getfield 19, 3) := by decide +kernel
theorem dX2_setPiece_92 : decode cX2_setPiece 92 = .ok (.getfield 40, 3) := by decide +kernel
theorem dX2_setPiece_95 : decode cX2_setPiece 95 = .ok (.iload_n 3, 1) := by decide +kernel
theorem dX2_setPiece_96 : decode cX2_setPiece 96 = .ok (.invokevirtual 67, 3) := by decide +kernel
theorem dX2_setPiece_99 : decode cX2_setPiece 99 = .ok (.putfield 40, 3) := by decide +kernel
theorem dX2_setPiece_102 : decode cX2_setPiece 102 = .ok (.iload 4, 2) := by decide +kernel
theorem dX2_setPiece_104 : decode cX2_setPiece 104 = .ok (.ireturn, 1) := by decide +kernel
theorem dX2_paw_0 : decode cX2_paw 0 = .ok (.aload_n 0, 1) := by decide +kernel
theorem dX2_paw_1 : decode cX2_paw 1 = .ok (.iload_n 1, 1) := by decide +kernel
theorem dX2_paw_2 : decode cX2_paw 2 = .ok (.iload_n 2, 1) := by decide +kernel
theorem dX2_paw_3 : decode cX2_paw 3 = .ok (.invokevirtual 71, 3) := by decide +kernel
theorem dX2_paw_6 : decode cX2_paw 6 = .ok (.astore_n 3, 1) := by decide +kernel
theorem dX2_paw_7 : decode cX2_paw 7 = .ok (.aload_n 3, 1) := by decide +kernel
theorem dX2_paw_8 : decode cX2_paw 8 = .ok (.ifnonnull 13, 3) := by decide +kernel
theorem dX2_paw_11 : decode cX2_paw 11 = .ok (.new 48, 3) := by decide +kernel
theorem dX2_paw_14 : decode cX2_paw 14 = .ok (.dup, 1) := by decide +kernel
theorem dX2_paw_15 : decode cX2_paw 15 = .ok (.ldc 75, 2) := by decide +kernel
theorem dX2_paw_17 : decode cX2_paw 17 = .ok (.invokespecial 52, 3) := by decide +kernel
theorem dX2_paw_20 : decode cX2_paw 20 = .ok (.athrow, 1) := by decide +kernel
theorem dX2_paw_21 : decode cX2_paw 21 = .ok (.aload_n 0, 1) := by decide +kernel
theorem dX2_paw_22 : decode cX2_paw 22 = .ok (.getfield 26, 3) := by decide +kernel
theorem dX2_paw_25 : decode cX2_paw 25 = .ok (.invokeinterface 55 1, 5) := by decide +kernel
theorem dX2_paw_30 : decode cX2_paw 30 = .ok (.bipush 60, 2) := by decide +kernel
theorem dX2_paw_32 : decode cX2_paw 32 = .ok (.if_icmp .lt 13, 3) := by decide +kernel
theorem dX2_paw_35 : decode cX2_paw 35 = .ok (.new 48, 3) := by decide +kernel
theorem dX2_paw_38 : decode cX2_paw 38 = .ok (.dup, 1) := by decide +kernel
theorem dX2_paw_39 : decode cX2_paw 39 = .ok (.ldc 77, 2) := by decide +kernel
theorem dX2_paw_41 : decode cX2_paw 41 = .ok (.invokespecial 52, 3) := by decide +kernel
theorem dX2_paw_44 : decode cX2_paw 44 = .ok (.athrow, 1) := by decide +kernel
theorem dX2_paw_45 : decode cX2_paw 45 = .ok (.new 7, 3) := by decide +kernel
theorem dX2_paw_48 : decode cX2_paw 48 = .ok (.dup, 1) := by decide +kernel
theorem dX2_paw_49 : decode cX2_paw 49 = .ok (.aload_n 0, 1) := by decide +kernel
theorem dX2_paw_50 : decode cX2_paw 50 = .ok (.getfield 19, 3) := by decide +kernel
theorem dX2_paw_53 : decode cX2_paw 53 = .ok (.aload_n 0, 1) := by decide +kernel
theorem dX2_paw_54 : decode cX2_paw 54 = .ok (.getfield 26, 3) := by decide +kernel
theorem dX2_paw_57 : decode cX2_paw 57 = .ok (.invokeinterface 55 1, 5) := by decide +kernel
theorem dX2_paw_62 : decode cX2_paw 62 = .ok (.iload_n 1, 1) := by decide +kernel
theorem dX2_paw_63 : decode cX2_paw 63 = .ok (.iload_n 2, 1) := by decide +kernel
theorem dX2_paw_64 : decode cX2_paw 64 = .ok (.aload_n 3, 1) := by decide +kernel
theorem dX2_paw_65 : decode cX2_paw 65 = .ok (.invokespecial 16, 3) := by decide +kernel
theorem dX2_paw_68 : decode cX2_paw 68 = .ok (.astore 4, 2) := by decide +kernel
theorem dX2_paw_70 : decode cX2_paw 70 = .ok (.aload_n 0, 1) := by decide +kernel
theorem dX2_paw_71 : decode cX2_paw 71 = .ok (.getfield 26, 3) := by decide +kernel
theorem dX2_paw_74 : decode cX2_paw 74 = .ok (.aload 4, 2) := by decide +kernel
theorem dX2_paw_76 : decode cX2_paw 76 = .ok (.invokeinterface 30 2, 5) := by decide +kernel
theorem dX2_paw_81 : decode cX2_paw 81 = .ok (.pop, 1) := by decide +kernel
theorem dX2_paw_82 : decode cX2_paw 82 = .ok (.aload 4, 2) := by decide +kernel
theorem dX2_paw_84 : decode cX2_paw 84 = .ok (.invokevirtual 79, 3) := by decide +kernel
theorem dX2_paw_87 : decode cX2_paw 87 = .ok (.aload 4, 2) := by decide +kernel
theorem dX2_paw_89 : decode cX2_paw 89 = .ok (.invokevirtual 82, 3) := by decide +kernel
theorem dX2_paw_92 : decode cX2_paw 92 = .ok (.aload_n 0, 1) := by decide +kernel
theorem dX2_paw_93 : decode cX2_paw 93 = .ok (.aload 4, 2) := by decide +kernel
theorem dX2_paw_95 : decode cX2_paw 95 = .ok (.putfield 19, 3) := by decide +kernel
theorem dX2_paw_98 : decode cX2_paw 98 = .ok (.aload 4, 2) := by decide +kernel
theorem dX2_paw_100 : decode cX2_paw 100 = .ok (.getfield 85, 3) := by decide +kernel
theorem dX2_paw_103 : decode cX2_paw 103 = .ok (.ireturn, 1) := by decide +kernel
theorem dX2_undo_0 : decode cX2_undo 0 = .ok (.iload_n 1, 1) := by decide +kernel
theorem dX2_undo_1 : decode cX2_undo 1 = .ok (.invokestatic 89, 3) := by decide +kernel
theorem dX2_undo_4 : decode cX2_undo 4 = .ok (.aload_n 0, 1) := by decide +kernel
theorem dX2_undo_5 : decode cX2_undo 5 = .ok (.getfield 19, 3) := by decide +kernel
theorem dX2_undo_8 : decode cX2_undo 8 = .ok (.astore_n 2, 1) := by decide +kernel
theorem dX2_undo_9 : decode cX2_undo 9 = .ok (.iconst 0, 1) := by decide +kernel
theorem dX2_undo_10 : decode cX2_undo 10 = .ok (.istore_n 3, 1) := by decide +kernel
theorem dX2_undo_11 : decode cX2_undo 11 = .ok (.iload_n 3, 1) := by decide +kernel
theorem dX2_undo_12 : decode cX2_undo 12 = .ok (.iload_n 1, 1) := by decide +kernel
theorem dX2_undo_13 : decode cX2_undo 13 = .ok (.if_icmp .ge 31, 3) := by decide +kernel
theorem dX2_undo_16 : decode cX2_undo 16 = .ok (.aload_n 2, 1) := by decide +kernel
theorem dX2_undo_17 : decode cX2_undo 17 = .ok (.getfield 93, 3) := by decide +kernel
theorem dX2_undo_20 : decode cX2_undo 20 = .ok (.ifnonnull 13, 3) := by decide +kernel
theorem dX2_undo_23 : decode cX2_undo 23 = .ok (.new 48, 3) := by decide +kernel
theorem dX2_undo_26 : decode cX2_undo 26 = .ok (.dup, 1) := by decide +kernel
theorem dX2_undo_27 : decode cX2_undo 27 = .ok (.ldc 96, 2) := by decide +kernel
theorem dX2_undo_29 : decode cX2_undo 29 = .ok (.invokespecial 52, 3) := by decide +kernel
theorem dX2_undo_32 : decode cX2_undo 32 = .ok (.athrow, 1) := by decide +kernel
theorem dX2_undo_33 : decode cX2_undo 33 = .ok (.aload_n 2, 1) := by decide +kernel
theorem dX2_undo_34 : decode cX2_undo 34 = .ok (.getfield 93, 3) := by decide +kernel
theorem dX2_undo_37 : decode cX2_undo 37 = .ok (.astore_n 2, 1) := by decide +kernel
theorem dX2_undo_38 : decode cX2_undo 38 = .ok (.iinc 3 1, 3) := by decide +kernel
theorem dX2_undo_41 : decode cX2_undo 41 = .ok (.goto (-30), 3) := by decide +kernel
theorem dX2_undo_44 : decode cX2_undo 44 = .ok (.aload_n 0, 1) := by decide +kernel
theorem dX2_undo_45 : decode cX2_undo 45 = .ok (.aload_n 2, 1) := by decide +kernel
theorem dX2_undo_46 : decode cX2_undo 46 = .ok (.putfield 19, 3) := by decide +kernel
theorem dX2_undo_49 : decode cX2_undo 49 = .ok (.aload_n 0, 1) := by decide +kernel
theorem dX2_undo_50 : decode cX2_undo 50 = .ok (.getfield 19, 3) := by decide +kernel
theorem dX2_undo_53 : decode cX2_undo 53 = .ok (.getfield 85, 3) := by decide +kernel
theorem dX2_undo_56 : decode cX2_undo 56 = .ok (.ireturn, 1) := by decide +kernel
theorem dX2_redo_0 : decode cX2_redo 0 = .ok (.iload_n 1, 1) := by decide +kernel
theorem dX2_redo_1 : decode cX2_redo 1 = .ok (.invokestatic 89, 3) := by decide +kernel
theorem dX2_redo_4 : decode cX2_redo 4 = .ok (.aload_n 0, 1) := by decide +kernel
theorem dX2_redo_5 : decode cX2_redo 5 = .ok (.getfield 19, 3) := by decide +kernel
theorem dX2_redo_8 : decode cX2_redo 8 = .ok (.astore_n 2, 1) := by decide +kernel
theorem dX2_redo_9 : decode cX2_redo 9 = .ok (.iconst 0, 1) := by decide +kernel
theorem dX2_redo_10 : decode cX2_redo 10 = .ok (.istore_n 3, 1) := by decide +kernel
theorem dX2_redo_11 : decode cX2_redo 11 = .ok (.iload_n 3, 1) := by decide +kernel
theorem dX2_redo_12 : decode cX2_redo 12 = .ok (.iload_n 1, 1) := by decide +kernel
theorem dX2_redo_13 : decode cX2_redo 13 = .ok (.if_icmp .ge 31, 3) := by decide +kernel
theorem dX2_redo_16 : decode cX2_redo 16 = .ok (.aload_n 2, 1) := by decide +kernel
theorem dX2_redo_17 : decode cX2_redo 17 = .ok (.getfield 98, 3) := by decide +kernel
theorem dX2_redo_20 : decode cX2_redo 20 = .ok (.ifnonnull 13, 3) := by decide +kernel
theorem dX2_redo_23 : decode cX2_redo 23 = .ok (.new 48, 3) := by decide +kernel
theorem dX2_redo_26 : decode cX2_redo 26 = .ok (.dup, 1) := by decide +kernel
theorem dX2_redo_27 : decode cX2_redo 27 = .ok (.ldc 101, 2) := by decide +kernel
theorem dX2_redo_29 : decode cX2_redo 29 = .ok (.invokespecial 52, 3) := by decide +kernel
theorem dX2_redo_32 : decode cX2_redo 32 = .ok (.athrow, 1) := by decide +kernel
theorem dX2_redo_33 : decode cX2_redo 33 = .ok (.aload_n 2, 1) := by decide +kernel
theorem dX2_redo_34 : decode cX2_redo 34 = .ok (.getfield 98, 3) := by decide +kernel
theorem dX2_redo_37 : decode cX2_redo 37 = .ok (.astore_n 2, 1) := by decide +kernel
theorem dX2_redo_38 : decode cX2_redo 38 = .ok (.iinc 3 1, 3) := by decide +kernel
theorem dX2_redo_41 : decode cX2_redo 41 = .ok (.goto (-30), 3) := by decide +kernel
theorem dX2_redo_44 : decode cX2_redo 44 = .ok (.aload_n 0, 1) := by decide +kernel
theorem dX2_redo_45 : decode cX2_redo 45 = .ok (.aload_n 2, 1) := by decide +kernel
theorem dX2_redo_46 : decode cX2_redo 46 = .ok (.putfield 19, 3) := by decide +kernel
theorem dX2_redo_49 : decode cX2_redo 49 = .ok (.aload_n 0, 1) := by decide +kernel
theorem dX2_redo_50 : decode cX2_redo 50 = .ok (.getfield 19, 3) := by decide +kernel
theorem dX2_redo_53 : decode cX2_redo 53 = .ok (.getfield 85, 3) := by decide +kernel
theorem dX2_redo_56 : decode cX2_redo 56 = .ok (.ireturn, 1) := by decide +kernel
theorem dX2_goTo_0 : decode cX2_goTo 0 = .ok (.aload_n 0, 1) := by decide +kernel
theorem dX2_goTo_1 : decode cX2_goTo 1 = .ok (.iload_n 1, 1) := by decide +kernel
theorem dX2_goTo_2 : decode cX2_goTo 2 = .ok (.invokevirtual 103, 3) := by decide +kernel
theorem dX2_goTo_5 : decode cX2_goTo 5 = .ok (.astore_n 2, 1) := by decide +kernel
theorem dX2_goTo_6 : decode cX2_goTo 6 = .ok (.aload_n 0, 1) := by decide +kernel
theorem dX2_goTo_7 : decode cX2_goTo 7 = .ok (.getfield 19, 3) := by decide +kernel
theorem dX2_goTo_10 : decode cX2_goTo 10 = .ok (.aload_n 2, 1) := by decide +kernel
theorem dX2_goTo_11 : decode cX2_goTo 11 = .ok (.invokestatic 107, 3) := by decide +kernel
theorem dX2_goTo_14 : decode cX2_goTo 14 = .ok (.istore_n 3, 1) := by decide +kernel
theorem dX2_goTo_15 : decode cX2_goTo 15 = .ok (.aload_n 2, 1) := by decide +kernel
theorem dX2_goTo_16 : decode cX2_goTo 16 = .ok (.invokevirtual 82, 3) := by decide +kernel
theorem dX2_goTo_19 : decode cX2_goTo 19 = .ok (.aload_n 0, 1) := by decide +kernel
theorem dX2_goTo_20 : decode cX2_goTo 20 = .ok (.aload_n 2, 1) := by decide +kernel
theorem dX2_goTo_21 : decode cX2_goTo 21 = .ok (.putfield 19, 3) := by decide +kernel
theorem dX2_goTo_24 : decode cX2_goTo 24 = .ok (.iload_n 3, 1) := by decide +kernel
theorem dX2_goTo_25 : decode cX2_goTo 25 = .ok (.ireturn, 1) := by decide +kernel
theorem dX2_evening_0 : decode cX2_evening 0 = .ok (.aload_n 0, 1) := by decide +kernel
theorem dX2_evening_1 : decode cX2_evening 1 = .ok (.getfield 19, 3) := by decide +kernel
theorem dX2_evening_4 : decode cX2_evening 4 = .ok (.getfield 85, 3) := by decide +kernel
theorem dX2_evening_7 : decode cX2_evening 7 = .ok (.ireturn, 1) := by decide +kernel
theorem dX2_evenings_0 : decode cX2_evenings 0 = .ok (.aload_n 0, 1) := by decide +kernel
theorem dX2_evenings_1 : decode cX2_evenings 1 = .ok (.getfield 26, 3) := by decide +kernel
theorem dX2_evenings_4 : decode cX2_evenings 4 = .ok (.invokeinterface 55 1, 5) := by decide +kernel
theorem dX2_evenings_9 : decode cX2_evenings 9 = .ok (.ireturn, 1) := by decide +kernel
theorem dX2_pieces_0 : decode cX2_pieces 0 = .ok (.aload_n 0, 1) := by decide +kernel
theorem dX2_pieces_1 : decode cX2_pieces 1 = .ok (.getfield 19, 3) := by decide +kernel
theorem dX2_pieces_4 : decode cX2_pieces 4 = .ok (.getfield 40, 3) := by decide +kernel
theorem dX2_pieces_7 : decode cX2_pieces 7 = .ok (.getfield 44, 3) := by decide +kernel
theorem dX2_pieces_10 : decode cX2_pieces 10 = .ok (.arraylength, 1) := by decide +kernel
theorem dX2_pieces_11 : decode cX2_pieces 11 = .ok (.ireturn, 1) := by decide +kernel
theorem dX2_catColumn_0 : decode cX2_catColumn 0 = .ok (.aload_n 0, 1) := by decide +kernel
theorem dX2_catColumn_1 : decode cX2_catColumn 1 = .ok (.getfield 19, 3) := by decide +kernel
theorem dX2_catColumn_4 : decode cX2_catColumn 4 = .ok (.getfield 40, 3) := by decide +kernel
theorem dX2_catColumn_7 : decode cX2_catColumn 7 = .ok (.getfield 111, 3) := by decide +kernel
theorem dX2_catColumn_10 : decode cX2_catColumn 10 = .ok (.bipush 8, 2) := by decide +kernel
theorem dX2_catColumn_12 : decode cX2_catColumn 12 = .ok (.idiv, 1) := by decide +kernel
theorem dX2_catColumn_13 : decode cX2_catColumn 13 = .ok (.ireturn, 1) := by decide +kernel
theorem dX2_catRow_0 : decode cX2_catRow 0 = .ok (.aload_n 0, 1) := by decide +kernel
theorem dX2_catRow_1 : decode cX2_catRow 1 = .ok (.getfield 19, 3) := by decide +kernel
theorem dX2_catRow_4 : decode cX2_catRow 4 = .ok (.getfield 40, 3) := by decide +kernel
theorem dX2_catRow_7 : decode cX2_catRow 7 = .ok (.getfield 111, 3) := by decide +kernel
theorem dX2_catRow_10 : decode cX2_catRow 10 = .ok (.bipush 8, 2) := by decide +kernel
theorem dX2_catRow_12 : decode cX2_catRow 12 = .ok (.irem, 1) := by decide +kernel
theorem dX2_catRow_13 : decode cX2_catRow 13 = .ok (.ireturn, 1) := by decide +kernel
theorem dX2_lying_0 : decode cX2_lying 0 = .ok (.aload_n 0, 1) := by decide +kernel
theorem dX2_lying_1 : decode cX2_lying 1 = .ok (.getfield 19, 3) := by decide +kernel
theorem dX2_lying_4 : decode cX2_lying 4 = .ok (.getfield 40, 3) := by decide +kernel
theorem dX2_lying_7 : decode cX2_lying 7 = .ok (.invokevirtual 114, 3) := by decide +kernel
theorem dX2_lying_10 : decode cX2_lying 10 = .ok (.ireturn, 1) := by decide +kernel
theorem dX2_placeOf_0 : decode cX2_placeOf 0 = .ok (.aload_n 0, 1) := by decide +kernel
theorem dX2_placeOf_1 : decode cX2_placeOf 1 = .ok (.getfield 19, 3) := by decide +kernel
theorem dX2_placeOf_4 : decode cX2_placeOf 4 = .ok (.getfield 40, 3) := by decide +kernel
theorem dX2_placeOf_7 : decode cX2_placeOf 7 = .ok (.iload_n 1, 1) := by decide +kernel
theorem dX2_placeOf_8 : decode cX2_placeOf 8 = .ok (.invokestatic 117, 3) := by decide +kernel
theorem dX2_placeOf_11 : decode cX2_placeOf 11 = .ok (.ireturn, 1) := by decide +kernel
theorem dX2_lies_0 : decode cX2_lies 0 = .ok (.aload_n 0, 1) := by decide +kernel
theorem dX2_lies_1 : decode cX2_lies 1 = .ok (.getfield 19, 3) := by decide +kernel
theorem dX2_lies_4 : decode cX2_lies 4 = .ok (.getfield 40, 3) := by decide +kernel
theorem dX2_lies_7 : decode cX2_lies 7 = .ok (.iload_n 1, 1) := by decide +kernel
theorem dX2_lies_8 : decode cX2_lies 8 = .ok (.invokevirtual 121, 3) := by decide +kernel
theorem dX2_lies_11 : decode cX2_lies 11 = .ok (.ifCond .ne 13, 3) := by decide +kernel
theorem dX2_lies_14 : decode cX2_lies 14 = .ok (.new 125, 3) := by decide +kernel
theorem dX2_lies_17 : decode cX2_lies 17 = .ok (.dup, 1) := by decide +kernel
theorem dX2_lies_18 : decode cX2_lies 18 = .ok (.ldc 127, 2) := by decide +kernel
theorem dX2_lies_20 : decode cX2_lies 20 = .ok (.invokespecial 129, 3) := by decide +kernel
theorem dX2_lies_23 : decode cX2_lies 23 = .ok (.athrow, 1) := by decide +kernel
theorem dX2_lies_24 : decode cX2_lies 24 = .ok (.aload_n 0, 1) := by decide +kernel
theorem dX2_lies_25 : decode cX2_lies 25 = .ok (.getfield 19, 3) := by decide +kernel
theorem dX2_lies_28 : decode cX2_lies 28 = .ok (.getfield 40, 3) := by decide +kernel
theorem dX2_lies_31 : decode cX2_lies 31 = .ok (.iload_n 1, 1) := by decide +kernel
theorem dX2_lies_32 : decode cX2_lies 32 = .ok (.invokevirtual 130, 3) := by decide +kernel
theorem dX2_lies_35 : decode cX2_lies 35 = .ok (.ireturn, 1) := by decide +kernel
theorem dX2_pieceAt_0 : decode cX2_pieceAt 0 = .ok (.aload_n 0, 1) := by decide +kernel
theorem dX2_pieceAt_1 : decode cX2_pieceAt 1 = .ok (.getfield 19, 3) := by decide +kernel
theorem dX2_pieceAt_4 : decode cX2_pieceAt 4 = .ok (.getfield 40, 3) := by decide +kernel
theorem dX2_pieceAt_7 : decode cX2_pieceAt 7 = .ok (.iload_n 1, 1) := by decide +kernel
theorem dX2_pieceAt_8 : decode cX2_pieceAt 8 = .ok (.iload_n 2, 1) := by decide +kernel
theorem dX2_pieceAt_9 : decode cX2_pieceAt 9 = .ok (.invokestatic 36, 3) := by decide +kernel
theorem dX2_pieceAt_12 : decode cX2_pieceAt 12 = .ok (.invokevirtual 61, 3) := by decide +kernel
theorem dX2_pieceAt_15 : decode cX2_pieceAt 15 = .ok (.ireturn, 1) := by decide +kernel
theorem dX2_canDo_0 : decode cX2_canDo 0 = .ok (.aload_n 0, 1) := by decide +kernel
theorem dX2_canDo_1 : decode cX2_canDo 1 = .ok (.iload_n 1, 1) := by decide +kernel
theorem dX2_canDo_2 : decode cX2_canDo 2 = .ok (.iload_n 2, 1) := by decide +kernel
theorem dX2_canDo_3 : decode cX2_canDo 3 = .ok (.invokevirtual 71, 3) := by decide +kernel
theorem dX2_canDo_6 : decode cX2_canDo 6 = .ok (.ifnull 7, 3) := by decide +kernel
theorem dX2_canDo_9 : decode cX2_canDo 9 = .ok (.iconst 1, 1) := by decide +kernel
theorem dX2_canDo_10 : decode cX2_canDo 10 = .ok (.goto 4, 3) := by decide +kernel
theorem dX2_canDo_13 : decode cX2_canDo 13 = .ok (.iconst 0, 1) := by decide +kernel
theorem dX2_canDo_14 : decode cX2_canDo 14 = .ok (.ireturn, 1) := by decide +kernel
theorem dX2_hangsOn_0 : decode cX2_hangsOn 0 = .ok (.aload_n 0, 1) := by decide +kernel
theorem dX2_hangsOn_1 : decode cX2_hangsOn 1 = .ok (.iload_n 1, 1) := by decide +kernel
theorem dX2_hangsOn_2 : decode cX2_hangsOn 2 = .ok (.invokevirtual 103, 3) := by decide +kernel
theorem dX2_hangsOn_5 : decode cX2_hangsOn 5 = .ok (.getfield 93, 3) := by decide +kernel
theorem dX2_hangsOn_8 : decode cX2_hangsOn 8 = .ok (.invokestatic 133, 3) := by decide +kernel
theorem dX2_hangsOn_11 : decode cX2_hangsOn 11 = .ok (.ireturn, 1) := by decide +kernel
theorem dX2_kindOf_0 : decode cX2_kindOf 0 = .ok (.aload_n 0, 1) := by decide +kernel
theorem dX2_kindOf_1 : decode cX2_kindOf 1 = .ok (.iload_n 1, 1) := by decide +kernel
theorem dX2_kindOf_2 : decode cX2_kindOf 2 = .ok (.invokevirtual 103, 3) := by decide +kernel
theorem dX2_kindOf_5 : decode cX2_kindOf 5 = .ok (.getfield 137, 3) := by decide +kernel
theorem dX2_kindOf_8 : decode cX2_kindOf 8 = .ok (.ireturn, 1) := by decide +kernel
theorem dX2_numberOf_0 : decode cX2_numberOf 0 = .ok (.aload_n 0, 1) := by decide +kernel
theorem dX2_numberOf_1 : decode cX2_numberOf 1 = .ok (.iload_n 1, 1) := by decide +kernel
theorem dX2_numberOf_2 : decode cX2_numberOf 2 = .ok (.invokevirtual 103, 3) := by decide +kernel
theorem dX2_numberOf_5 : decode cX2_numberOf 5 = .ok (.getfield 140, 3) := by decide +kernel
theorem dX2_numberOf_8 : decode cX2_numberOf 8 = .ok (.ireturn, 1) := by decide +kernel
theorem dX2_depthOf_0 : decode cX2_depthOf 0 = .ok (.aload_n 0, 1) := by decide +kernel
theorem dX2_depthOf_1 : decode cX2_depthOf 1 = .ok (.iload_n 1, 1) := by decide +kernel
theorem dX2_depthOf_2 : decode cX2_depthOf 2 = .ok (.invokevirtual 103, 3) := by decide +kernel
theorem dX2_depthOf_5 : decode cX2_depthOf 5 = .ok (.getfield 143, 3) := by decide +kernel
theorem dX2_depthOf_8 : decode cX2_depthOf 8 = .ok (.ireturn, 1) := by decide +kernel
theorem dX2_branches_0 : decode cX2_branches 0 = .ok (.aload_n 0, 1) := by decide +kernel
theorem dX2_branches_1 : decode cX2_branches 1 = .ok (.iload_n 1, 1) := by decide +kernel
theorem dX2_branches_2 : decode cX2_branches 2 = .ok (.invokevirtual 103, 3) := by decide +kernel
theorem dX2_branches_5 : decode cX2_branches 5 = .ok (.getfield 146, 3) := by decide +kernel
theorem dX2_branches_8 : decode cX2_branches 8 = .ok (.ireturn, 1) := by decide +kernel
theorem dX2_behind_0 : decode cX2_behind 0 = .ok (.aload_n 0, 1) := by decide +kernel
theorem dX2_behind_1 : decode cX2_behind 1 = .ok (.iload_n 1, 1) := by decide +kernel
theorem dX2_behind_2 : decode cX2_behind 2 = .ok (.invokevirtual 103, 3) := by decide +kernel
theorem dX2_behind_5 : decode cX2_behind 5 = .ok (.getfield 149, 3) := by decide +kernel
theorem dX2_behind_8 : decode cX2_behind 8 = .ok (.ireturn, 1) := by decide +kernel
theorem dX2_again_0 : decode cX2_again 0 = .ok (.aload_n 0, 1) := by decide +kernel
theorem dX2_again_1 : decode cX2_again 1 = .ok (.iload_n 1, 1) := by decide +kernel
theorem dX2_again_2 : decode cX2_again 2 = .ok (.invokevirtual 103, 3) := by decide +kernel
theorem dX2_again_5 : decode cX2_again 5 = .ok (.getfield 98, 3) := by decide +kernel
theorem dX2_again_8 : decode cX2_again 8 = .ok (.invokestatic 133, 3) := by decide +kernel
theorem dX2_again_11 : decode cX2_again 11 = .ok (.ireturn, 1) := by decide +kernel
theorem dX2_meet_0 : decode cX2_meet 0 = .ok (.aload_n 0, 1) := by decide +kernel
theorem dX2_meet_1 : decode cX2_meet 1 = .ok (.iload_n 1, 1) := by decide +kernel
theorem dX2_meet_2 : decode cX2_meet 2 = .ok (.invokevirtual 103, 3) := by decide +kernel
theorem dX2_meet_5 : decode cX2_meet 5 = .ok (.aload_n 0, 1) := by decide +kernel
theorem dX2_meet_6 : decode cX2_meet 6 = .ok (.iload_n 2, 1) := by decide +kernel
theorem dX2_meet_7 : decode cX2_meet 7 = .ok (.invokevirtual 103, 3) := by decide +kernel
theorem dX2_meet_10 : decode cX2_meet 10 = .ok (.invokestatic 152, 3) := by decide +kernel
theorem dX2_meet_13 : decode cX2_meet 13 = .ok (.getfield 85, 3) := by decide +kernel
theorem dX2_meet_16 : decode cX2_meet 16 = .ok (.ireturn, 1) := by decide +kernel
theorem dX2_apart_0 : decode cX2_apart 0 = .ok (.aload_n 0, 1) := by decide +kernel
theorem dX2_apart_1 : decode cX2_apart 1 = .ok (.iload_n 1, 1) := by decide +kernel
theorem dX2_apart_2 : decode cX2_apart 2 = .ok (.invokevirtual 103, 3) := by decide +kernel
theorem dX2_apart_5 : decode cX2_apart 5 = .ok (.aload_n 0, 1) := by decide +kernel
theorem dX2_apart_6 : decode cX2_apart 6 = .ok (.iload_n 2, 1) := by decide +kernel
theorem dX2_apart_7 : decode cX2_apart 7 = .ok (.invokevirtual 103, 3) := by decide +kernel
theorem dX2_apart_10 : decode cX2_apart 10 = .ok (.invokestatic 107, 3) := by decide +kernel
theorem dX2_apart_13 : decode cX2_apart 13 = .ok (.ireturn, 1) := by decide +kernel
theorem dX2_ends_0 : decode cX2_ends 0 = .ok (.iconst 0, 1) := by decide +kernel
theorem dX2_ends_1 : decode cX2_ends 1 = .ok (.istore_n 1, 1) := by decide +kernel
theorem dX2_ends_2 : decode cX2_ends 2 = .ok (.iconst 0, 1) := by decide +kernel
theorem dX2_ends_3 : decode cX2_ends 3 = .ok (.istore_n 2, 1) := by decide +kernel
theorem dX2_ends_4 : decode cX2_ends 4 = .ok (.iload_n 2, 1) := by decide +kernel
theorem dX2_ends_5 : decode cX2_ends 5 = .ok (.aload_n 0, 1) := by decide +kernel
theorem dX2_ends_6 : decode cX2_ends 6 = .ok (.getfield 26, 3) := by decide +kernel
theorem dX2_ends_9 : decode cX2_ends 9 = .ok (.invokeinterface 55 1, 5) := by decide +kernel
theorem dX2_ends_14 : decode cX2_ends 14 = .ok (.if_icmp .ge 31, 3) := by decide +kernel
theorem dX2_ends_17 : decode cX2_ends 17 = .ok (.aload_n 0, 1) := by decide +kernel
theorem dX2_ends_18 : decode cX2_ends 18 = .ok (.getfield 26, 3) := by decide +kernel
theorem dX2_ends_21 : decode cX2_ends 21 = .ok (.iload_n 2, 1) := by decide +kernel
theorem dX2_ends_22 : decode cX2_ends 22 = .ok (.invokeinterface 156 2, 5) := by decide +kernel
theorem dX2_ends_27 : decode cX2_ends 27 = .ok (.checkcast 7, 3) := by decide +kernel
theorem dX2_ends_30 : decode cX2_ends 30 = .ok (.invokevirtual 160, 3) := by decide +kernel
theorem dX2_ends_33 : decode cX2_ends 33 = .ok (.ifCond .eq 6, 3) := by decide +kernel
theorem dX2_ends_36 : decode cX2_ends 36 = .ok (.iinc 1 1, 3) := by decide +kernel
theorem dX2_ends_39 : decode cX2_ends 39 = .ok (.iinc 2 1, 3) := by decide +kernel
theorem dX2_ends_42 : decode cX2_ends 42 = .ok (.goto (-38), 3) := by decide +kernel
theorem dX2_ends_45 : decode cX2_ends 45 = .ok (.iload_n 1, 1) := by decide +kernel
theorem dX2_ends_46 : decode cX2_ends 46 = .ok (.ireturn, 1) := by decide +kernel
theorem dX2_placeIn_0 : decode cX2_placeIn 0 = .ok (.aload_n 0, 1) := by decide +kernel
theorem dX2_placeIn_1 : decode cX2_placeIn 1 = .ok (.iload_n 1, 1) := by decide +kernel
theorem dX2_placeIn_2 : decode cX2_placeIn 2 = .ok (.invokevirtual 103, 3) := by decide +kernel
theorem dX2_placeIn_5 : decode cX2_placeIn 5 = .ok (.getfield 40, 3) := by decide +kernel
theorem dX2_placeIn_8 : decode cX2_placeIn 8 = .ok (.astore_n 3, 1) := by decide +kernel
theorem dX2_placeIn_9 : decode cX2_placeIn 9 = .ok (.aload_n 3, 1) := by decide +kernel
theorem dX2_placeIn_10 : decode cX2_placeIn 10 = .ok (.iload_n 2, 1) := by decide +kernel
theorem dX2_placeIn_11 : decode cX2_placeIn 11 = .ok (.invokestatic 117, 3) := by decide +kernel
theorem dX2_placeIn_14 : decode cX2_placeIn 14 = .ok (.istore 4, 2) := by decide +kernel
theorem dX2_placeIn_16 : decode cX2_placeIn 16 = .ok (.aload_n 3, 1) := by decide +kernel
theorem dX2_placeIn_17 : decode cX2_placeIn 17 = .ok (.iload_n 2, 1) := by decide +kernel
theorem dX2_placeIn_18 : decode cX2_placeIn 18 = .ok (.invokevirtual 130, 3) := by decide +kernel
theorem dX2_placeIn_21 : decode cX2_placeIn 21 = .ok (.ifCond .eq 11, 3) := by decide +kernel
theorem dX2_placeIn_24 : decode cX2_placeIn 24 = .ok (.iload 4, 2) := by decide +kernel
theorem dX2_placeIn_26 : decode cX2_placeIn 26 = .ok (.bipush 100, 2) := by decide +kernel
theorem dX2_placeIn_28 : decode cX2_placeIn 28 = .ok (.iadd, 1) := by decide +kernel
theorem dX2_placeIn_29 : decode cX2_placeIn 29 = .ok (.goto 5, 3) := by decide +kernel
theorem dX2_placeIn_32 : decode cX2_placeIn 32 = .ok (.iload 4, 2) := by decide +kernel
theorem dX2_placeIn_34 : decode cX2_placeIn 34 = .ok (.ireturn, 1) := by decide +kernel
theorem dX2_lyingIn_0 : decode cX2_lyingIn 0 = .ok (.aload_n 0, 1) := by decide +kernel
theorem dX2_lyingIn_1 : decode cX2_lyingIn 1 = .ok (.iload_n 1, 1) := by decide +kernel
theorem dX2_lyingIn_2 : decode cX2_lyingIn 2 = .ok (.invokevirtual 103, 3) := by decide +kernel
theorem dX2_lyingIn_5 : decode cX2_lyingIn 5 = .ok (.getfield 40, 3) := by decide +kernel
theorem dX2_lyingIn_8 : decode cX2_lyingIn 8 = .ok (.invokevirtual 114, 3) := by decide +kernel
theorem dX2_lyingIn_11 : decode cX2_lyingIn 11 = .ok (.ireturn, 1) := by decide +kernel
theorem dX2_areAlike_0 : decode cX2_areAlike 0 = .ok (.aload_n 0, 1) := by decide +kernel
theorem dX2_areAlike_1 : decode cX2_areAlike 1 = .ok (.iload_n 1, 1) := by decide +kernel
theorem dX2_areAlike_2 : decode cX2_areAlike 2 = .ok (.invokevirtual 103, 3) := by decide +kernel
theorem dX2_areAlike_5 : decode cX2_areAlike 5 = .ok (.getfield 40, 3) := by decide +kernel
theorem dX2_areAlike_8 : decode cX2_areAlike 8 = .ok (.astore_n 3, 1) := by decide +kernel
theorem dX2_areAlike_9 : decode cX2_areAlike 9 = .ok (.aload_n 0, 1) := by decide +kernel
theorem dX2_areAlike_10 : decode cX2_areAlike 10 = .ok (.iload_n 2, 1) := by decide +kernel
theorem dX2_areAlike_11 : decode cX2_areAlike 11 = .ok (.invokevirtual 103, 3) := by decide +kernel
theorem dX2_areAlike_14 : decode cX2_areAlike 14 = .ok (.getfield 40, 3) := by decide +kernel
theorem dX2_areAlike_17 : decode cX2_areAlike 17 = .ok (.astore 4, 2) := by decide +kernel
theorem dX2_areAlike_19 : decode cX2_areAlike 19 = .ok (.aload_n 3, 1) := by decide +kernel
theorem dX2_areAlike_20 : decode cX2_areAlike 20 = .ok (.aload 4, 2) := by decide +kernel
theorem dX2_areAlike_22 : decode cX2_areAlike 22 = .ok (.invokevirtual 164, 3) := by decide +kernel
theorem dX2_areAlike_25 : decode cX2_areAlike 25 = .ok (.ireturn, 1) := by decide +kernel
theorem dX2_mostKnocked_0 : decode cX2_mostKnocked 0 = .ok (.iconst (-1), 1) := by decide +kernel
theorem dX2_mostKnocked_1 : decode cX2_mostKnocked 1 = .ok (.istore_n 1, 1) := by decide +kernel
theorem dX2_mostKnocked_2 : decode cX2_mostKnocked 2 = .ok (.iconst (-1), 1) := by decide +kernel
theorem dX2_mostKnocked_3 : decode cX2_mostKnocked 3 = .ok (.istore_n 2, 1) := by decide +kernel
theorem dX2_mostKnocked_4 : decode cX2_mostKnocked 4 = .ok (.iconst 0, 1) := by decide +kernel
theorem dX2_mostKnocked_5 : decode cX2_mostKnocked 5 = .ok (.istore_n 3, 1) := by decide +kernel
theorem dX2_mostKnocked_6 : decode cX2_mostKnocked 6 = .ok (.iload_n 3, 1) := by decide +kernel
theorem dX2_mostKnocked_7 : decode cX2_mostKnocked 7 = .ok (.aload_n 0, 1) := by decide +kernel
theorem dX2_mostKnocked_8 : decode cX2_mostKnocked 8 = .ok (.invokevirtual 168, 3) := by decide +kernel
theorem dX2_mostKnocked_11 : decode cX2_mostKnocked 11 = .ok (.if_icmp .ge 27, 3) := by decide +kernel
theorem dX2_mostKnocked_14 : decode cX2_mostKnocked 14 = .ok (.aload_n 0, 1) := by decide +kernel
theorem dX2_mostKnocked_15 : decode cX2_mostKnocked 15 = .ok (.iload_n 3, 1) := by decide +kernel
theorem dX2_mostKnocked_16 : decode cX2_mostKnocked 16 = .ok (.invokevirtual 171, 3) := by decide +kernel
theorem dX2_mostKnocked_19 : decode cX2_mostKnocked 19 = .ok (.istore 4, 2) := by decide +kernel
theorem dX2_mostKnocked_21 : decode cX2_mostKnocked 21 = .ok (.iload 4, 2) := by decide +kernel
theorem dX2_mostKnocked_23 : decode cX2_mostKnocked 23 = .ok (.iload_n 2, 1) := by decide +kernel
theorem dX2_mostKnocked_24 : decode cX2_mostKnocked 24 = .ok (.if_icmp .le 8, 3) := by decide +kernel
theorem dX2_mostKnocked_27 : decode cX2_mostKnocked 27 = .ok (.iload 4, 2) := by decide +kernel
theorem dX2_mostKnocked_29 : decode cX2_mostKnocked 29 = .ok (.istore_n 2, 1) := by decide +kernel
theorem dX2_mostKnocked_30 : decode cX2_mostKnocked 30 = .ok (.iload_n 3, 1) := by decide +kernel
theorem dX2_mostKnocked_31 : decode cX2_mostKnocked 31 = .ok (.istore_n 1, 1) := by decide +kernel
theorem dX2_mostKnocked_32 : decode cX2_mostKnocked 32 = .ok (.iinc 3 1, 3) := by decide +kernel
theorem dX2_mostKnocked_35 : decode cX2_mostKnocked 35 = .ok (.goto (-29), 3) := by decide +kernel
theorem dX2_mostKnocked_38 : decode cX2_mostKnocked 38 = .ok (.iload_n 1, 1) := by decide +kernel
theorem dX2_mostKnocked_39 : decode cX2_mostKnocked 39 = .ok (.ireturn, 1) := by decide +kernel
theorem dX2_meanDepth_0 : decode cX2_meanDepth 0 = .ok (.iconst 0, 1) := by decide +kernel
theorem dX2_meanDepth_1 : decode cX2_meanDepth 1 = .ok (.istore_n 1, 1) := by decide +kernel
theorem dX2_meanDepth_2 : decode cX2_meanDepth 2 = .ok (.iconst 0, 1) := by decide +kernel
theorem dX2_meanDepth_3 : decode cX2_meanDepth 3 = .ok (.istore_n 2, 1) := by decide +kernel
theorem dX2_meanDepth_4 : decode cX2_meanDepth 4 = .ok (.iconst 0, 1) := by decide +kernel
theorem dX2_meanDepth_5 : decode cX2_meanDepth 5 = .ok (.istore_n 3, 1) := by decide +kernel
theorem dX2_meanDepth_6 : decode cX2_meanDepth 6 = .ok (.iload_n 3, 1) := by decide +kernel
theorem dX2_meanDepth_7 : decode cX2_meanDepth 7 = .ok (.aload_n 0, 1) := by decide +kernel
theorem dX2_meanDepth_8 : decode cX2_meanDepth 8 = .ok (.getfield 26, 3) := by decide +kernel
theorem dX2_meanDepth_11 : decode cX2_meanDepth 11 = .ok (.invokeinterface 55 1, 5) := by decide +kernel
theorem dX2_meanDepth_16 : decode cX2_meanDepth 16 = .ok (.if_icmp .ge 43, 3) := by decide +kernel
theorem dX2_meanDepth_19 : decode cX2_meanDepth 19 = .ok (.aload_n 0, 1) := by decide +kernel
theorem dX2_meanDepth_20 : decode cX2_meanDepth 20 = .ok (.getfield 26, 3) := by decide +kernel
theorem dX2_meanDepth_23 : decode cX2_meanDepth 23 = .ok (.iload_n 3, 1) := by decide +kernel
theorem dX2_meanDepth_24 : decode cX2_meanDepth 24 = .ok (.invokeinterface 156 2, 5) := by decide +kernel
theorem dX2_meanDepth_29 : decode cX2_meanDepth 29 = .ok (.checkcast 7, 3) := by decide +kernel
theorem dX2_meanDepth_32 : decode cX2_meanDepth 32 = .ok (.astore 4, 2) := by decide +kernel
theorem dX2_meanDepth_34 : decode cX2_meanDepth 34 = .ok (.aload 4, 2) := by decide +kernel
theorem dX2_meanDepth_36 : decode cX2_meanDepth 36 = .ok (.invokevirtual 160, 3) := by decide +kernel
theorem dX2_meanDepth_39 : decode cX2_meanDepth 39 = .ok (.ifCond .eq 14, 3) := by decide +kernel
theorem dX2_meanDepth_42 : decode cX2_meanDepth 42 = .ok (.iinc 1 1, 3) := by decide +kernel
theorem dX2_meanDepth_45 : decode cX2_meanDepth 45 = .ok (.iload_n 2, 1) := by decide +kernel
theorem dX2_meanDepth_46 : decode cX2_meanDepth 46 = .ok (.aload 4, 2) := by decide +kernel
theorem dX2_meanDepth_48 : decode cX2_meanDepth 48 = .ok (.getfield 143, 3) := by decide +kernel
theorem dX2_meanDepth_51 : decode cX2_meanDepth 51 = .ok (.iadd, 1) := by decide +kernel
theorem dX2_meanDepth_52 : decode cX2_meanDepth 52 = .ok (.istore_n 2, 1) := by decide +kernel
theorem dX2_meanDepth_53 : decode cX2_meanDepth 53 = .ok (.iinc 3 1, 3) := by decide +kernel
theorem dX2_meanDepth_56 : decode cX2_meanDepth 56 = .ok (.goto (-50), 3) := by decide +kernel
theorem dX2_meanDepth_59 : decode cX2_meanDepth 59 = .ok (.iload_n 1, 1) := by decide +kernel
theorem dX2_meanDepth_60 : decode cX2_meanDepth 60 = .ok (.ifCond .ne 7, 3) := by decide +kernel
theorem dX2_meanDepth_63 : decode cX2_meanDepth 63 = .ok (.dconst 0, 1) := by decide +kernel
theorem dX2_meanDepth_64 : decode cX2_meanDepth 64 = .ok (.goto 8, 3) := by decide +kernel
theorem dX2_meanDepth_67 : decode cX2_meanDepth 67 = .ok (.iload_n 2, 1) := by decide +kernel
theorem dX2_meanDepth_68 : decode cX2_meanDepth 68 = .ok (.i2d, 1) := by decide +kernel
theorem dX2_meanDepth_69 : decode cX2_meanDepth 69 = .ok (.iload_n 1, 1) := by decide +kernel
theorem dX2_meanDepth_70 : decode cX2_meanDepth 70 = .ok (.i2d, 1) := by decide +kernel
theorem dX2_meanDepth_71 : decode cX2_meanDepth 71 = .ok (.ddiv, 1) := by decide +kernel
theorem dX2_meanDepth_72 : decode cX2_meanDepth 72 = .ok (.dreturn, 1) := by decide +kernel
theorem dX2_digest_0 : decode cX2_digest 0 = .ok (.ldc2_w 174, 3) := by decide +kernel
theorem dX2_digest_3 : decode cX2_digest 3 = .ok (.lstore_n 1, 1) := by decide +kernel
theorem dX2_digest_4 : decode cX2_digest 4 = .ok (.lload_n 1, 1) := by decide +kernel
theorem dX2_digest_5 : decode cX2_digest 5 = .ok (.aload_n 0, 1) := by decide +kernel
theorem dX2_digest_6 : decode cX2_digest 6 = .ok (.invokevirtual 176, 3) := by decide +kernel
theorem dX2_digest_9 : decode cX2_digest 9 = .ok (.i2l, 1) := by decide +kernel
theorem dX2_digest_10 : decode cX2_digest 10 = .ok (.invokestatic 179, 3) := by decide +kernel
theorem dX2_digest_13 : decode cX2_digest 13 = .ok (.lstore_n 1, 1) := by decide +kernel
theorem dX2_digest_14 : decode cX2_digest 14 = .ok (.lload_n 1, 1) := by decide +kernel
theorem dX2_digest_15 : decode cX2_digest 15 = .ok (.aload_n 0, 1) := by decide +kernel
theorem dX2_digest_16 : decode cX2_digest 16 = .ok (.invokevirtual 183, 3) := by decide +kernel
theorem dX2_digest_19 : decode cX2_digest 19 = .ok (.i2l, 1) := by decide +kernel
theorem dX2_digest_20 : decode cX2_digest 20 = .ok (.invokestatic 179, 3) := by decide +kernel
theorem dX2_digest_23 : decode cX2_digest 23 = .ok (.lstore_n 1, 1) := by decide +kernel
theorem dX2_digest_24 : decode cX2_digest 24 = .ok (.lload_n 1, 1) := by decide +kernel
theorem dX2_digest_25 : decode cX2_digest 25 = .ok (.aload_n 0, 1) := by decide +kernel
theorem dX2_digest_26 : decode cX2_digest 26 = .ok (.invokevirtual 168, 3) := by decide +kernel
theorem dX2_digest_29 : decode cX2_digest 29 = .ok (.i2l, 1) := by decide +kernel
theorem dX2_digest_30 : decode cX2_digest 30 = .ok (.invokestatic 179, 3) := by decide +kernel
theorem dX2_digest_33 : decode cX2_digest 33 = .ok (.lstore_n 1, 1) := by decide +kernel
theorem dX2_digest_34 : decode cX2_digest 34 = .ok (.lload_n 1, 1) := by decide +kernel
theorem dX2_digest_35 : decode cX2_digest 35 = .ok (.aload_n 0, 1) := by decide +kernel
theorem dX2_digest_36 : decode cX2_digest 36 = .ok (.invokevirtual 186, 3) := by decide +kernel
theorem dX2_digest_39 : decode cX2_digest 39 = .ok (.i2l, 1) := by decide +kernel
theorem dX2_digest_40 : decode cX2_digest 40 = .ok (.invokestatic 179, 3) := by decide +kernel
theorem dX2_digest_43 : decode cX2_digest 43 = .ok (.lstore_n 1, 1) := by decide +kernel
theorem dX2_digest_44 : decode cX2_digest 44 = .ok (.lload_n 1, 1) := by decide +kernel
theorem dX2_digest_45 : decode cX2_digest 45 = .ok (.aload_n 0, 1) := by decide +kernel
theorem dX2_digest_46 : decode cX2_digest 46 = .ok (.invokevirtual 189, 3) := by decide +kernel
theorem dX2_digest_49 : decode cX2_digest 49 = .ok (.i2l, 1) := by decide +kernel
theorem dX2_digest_50 : decode cX2_digest 50 = .ok (.invokestatic 179, 3) := by decide +kernel
theorem dX2_digest_53 : decode cX2_digest 53 = .ok (.lstore_n 1, 1) := by decide +kernel
theorem dX2_digest_54 : decode cX2_digest 54 = .ok (.lload_n 1, 1) := by decide +kernel
theorem dX2_digest_55 : decode cX2_digest 55 = .ok (.aload_n 0, 1) := by decide +kernel
theorem dX2_digest_56 : decode cX2_digest 56 = .ok (.invokevirtual 192, 3) := by decide +kernel
theorem dX2_digest_59 : decode cX2_digest 59 = .ok (.i2l, 1) := by decide +kernel
theorem dX2_digest_60 : decode cX2_digest 60 = .ok (.invokestatic 179, 3) := by decide +kernel
theorem dX2_digest_63 : decode cX2_digest 63 = .ok (.lstore_n 1, 1) := by decide +kernel
theorem dX2_digest_64 : decode cX2_digest 64 = .ok (.lload_n 1, 1) := by decide +kernel
theorem dX2_digest_65 : decode cX2_digest 65 = .ok (.aload_n 0, 1) := by decide +kernel
theorem dX2_digest_66 : decode cX2_digest 66 = .ok (.invokevirtual 195, 3) := by decide +kernel
theorem dX2_digest_69 : decode cX2_digest 69 = .ok (.i2l, 1) := by decide +kernel
theorem dX2_digest_70 : decode cX2_digest 70 = .ok (.invokestatic 179, 3) := by decide +kernel
theorem dX2_digest_73 : decode cX2_digest 73 = .ok (.lstore_n 1, 1) := by decide +kernel
theorem dX2_digest_74 : decode cX2_digest 74 = .ok (.lload_n 1, 1) := by decide +kernel
theorem dX2_digest_75 : decode cX2_digest 75 = .ok (.aload_n 0, 1) := by decide +kernel
theorem dX2_digest_76 : decode cX2_digest 76 = .ok (.invokevirtual 198, 3) := by decide +kernel
theorem dX2_digest_79 : decode cX2_digest 79 = .ok (.i2l, 1) := by decide +kernel
theorem dX2_digest_80 : decode cX2_digest 80 = .ok (.invokestatic 179, 3) := by decide +kernel
theorem dX2_digest_83 : decode cX2_digest 83 = .ok (.lstore_n 1, 1) := by decide +kernel
theorem dX2_digest_84 : decode cX2_digest 84 = .ok (.iconst 0, 1) := by decide +kernel
theorem dX2_digest_85 : decode cX2_digest 85 = .ok (.istore_n 3, 1) := by decide +kernel
theorem dX2_digest_86 : decode cX2_digest 86 = .ok (.iload_n 3, 1) := by decide +kernel
theorem dX2_digest_87 : decode cX2_digest 87 = .ok (.aload_n 0, 1) := by decide +kernel
theorem dX2_digest_88 : decode cX2_digest 88 = .ok (.invokevirtual 168, 3) := by decide +kernel
theorem dX2_digest_91 : decode cX2_digest 91 = .ok (.if_icmp .ge 38, 3) := by decide +kernel
theorem dX2_digest_94 : decode cX2_digest 94 = .ok (.lload_n 1, 1) := by decide +kernel
theorem dX2_digest_95 : decode cX2_digest 95 = .ok (.aload_n 0, 1) := by decide +kernel
theorem dX2_digest_96 : decode cX2_digest 96 = .ok (.iload_n 3, 1) := by decide +kernel
theorem dX2_digest_97 : decode cX2_digest 97 = .ok (.invokevirtual 201, 3) := by decide +kernel
theorem dX2_digest_100 : decode cX2_digest 100 = .ok (.i2l, 1) := by decide +kernel
theorem dX2_digest_101 : decode cX2_digest 101 = .ok (.invokestatic 179, 3) := by decide +kernel
theorem dX2_digest_104 : decode cX2_digest 104 = .ok (.lstore_n 1, 1) := by decide +kernel
theorem dX2_digest_105 : decode cX2_digest 105 = .ok (.lload_n 1, 1) := by decide +kernel
theorem dX2_digest_106 : decode cX2_digest 106 = .ok (.aload_n 0, 1) := by decide +kernel
theorem dX2_digest_107 : decode cX2_digest 107 = .ok (.iload_n 3, 1) := by decide +kernel
theorem dX2_digest_108 : decode cX2_digest 108 = .ok (.invokevirtual 204, 3) := by decide +kernel
theorem dX2_digest_111 : decode cX2_digest 111 = .ok (.ifCond .eq 7, 3) := by decide +kernel
theorem dX2_digest_114 : decode cX2_digest 114 = .ok (.lconst 1, 1) := by decide +kernel
theorem dX2_digest_115 : decode cX2_digest 115 = .ok (.goto 4, 3) := by decide +kernel
theorem dX2_digest_118 : decode cX2_digest 118 = .ok (.lconst 0, 1) := by decide +kernel
theorem dX2_digest_119 : decode cX2_digest 119 = .ok (.invokestatic 179, 3) := by decide +kernel
theorem dX2_digest_122 : decode cX2_digest 122 = .ok (.lstore_n 1, 1) := by decide +kernel
theorem dX2_digest_123 : decode cX2_digest 123 = .ok (.iinc 3 1, 3) := by decide +kernel
theorem dX2_digest_126 : decode cX2_digest 126 = .ok (.goto (-40), 3) := by decide +kernel
theorem dX2_digest_129 : decode cX2_digest 129 = .ok (.iconst 0, 1) := by decide +kernel
theorem dX2_digest_130 : decode cX2_digest 130 = .ok (.istore_n 3, 1) := by decide +kernel
theorem dX2_digest_131 : decode cX2_digest 131 = .ok (.iload_n 3, 1) := by decide +kernel
theorem dX2_digest_132 : decode cX2_digest 132 = .ok (.aload_n 0, 1) := by decide +kernel
theorem dX2_digest_133 : decode cX2_digest 133 = .ok (.getfield 26, 3) := by decide +kernel
theorem dX2_digest_136 : decode cX2_digest 136 = .ok (.invokeinterface 55 1, 5) := by decide +kernel
theorem dX2_digest_141 : decode cX2_digest 141 = .ok (.if_icmp .ge 28, 3) := by decide +kernel
theorem dX2_digest_144 : decode cX2_digest 144 = .ok (.aload_n 0, 1) := by decide +kernel
theorem dX2_digest_145 : decode cX2_digest 145 = .ok (.lload_n 1, 1) := by decide +kernel
theorem dX2_digest_146 : decode cX2_digest 146 = .ok (.aload_n 0, 1) := by decide +kernel
theorem dX2_digest_147 : decode cX2_digest 147 = .ok (.getfield 26, 3) := by decide +kernel
theorem dX2_digest_150 : decode cX2_digest 150 = .ok (.iload_n 3, 1) := by decide +kernel
theorem dX2_digest_151 : decode cX2_digest 151 = .ok (.invokeinterface 156 2, 5) := by decide +kernel
theorem dX2_digest_156 : decode cX2_digest 156 = .ok (.checkcast 7, 3) := by decide +kernel
theorem dX2_digest_159 : decode cX2_digest 159 = .ok (.invokevirtual 207, 3) := by decide +kernel
theorem dX2_digest_162 : decode cX2_digest 162 = .ok (.lstore_n 1, 1) := by decide +kernel
theorem dX2_digest_163 : decode cX2_digest 163 = .ok (.iinc 3 1, 3) := by decide +kernel
theorem dX2_digest_166 : decode cX2_digest 166 = .ok (.goto (-35), 3) := by decide +kernel
theorem dX2_digest_169 : decode cX2_digest 169 = .ok (.lload_n 1, 1) := by decide +kernel
theorem dX2_digest_170 : decode cX2_digest 170 = .ok (.lreturn, 1) := by decide +kernel
theorem dX2_withEvening_0 : decode cX2_withEvening 0 = .ok (.lload_n 1, 1) := by decide +kernel
theorem dX2_withEvening_1 : decode cX2_withEvening 1 = .ok (.lstore 4, 2) := by decide +kernel
theorem dX2_withEvening_3 : decode cX2_withEvening 3 = .ok (.lload 4, 2) := by decide +kernel
theorem dX2_withEvening_5 : decode cX2_withEvening 5 = .ok (.aload_n 3, 1) := by decide +kernel
theorem dX2_withEvening_6 : decode cX2_withEvening 6 = .ok (.getfield 93, 3) := by decide +kernel
theorem dX2_withEvening_9 : decode cX2_withEvening 9 = .ok (.invokestatic 133, 3) := by decide +kernel
theorem dX2_withEvening_12 : decode cX2_withEvening 12 = .ok (.i2l, 1) := by decide +kernel
theorem dX2_withEvening_13 : decode cX2_withEvening 13 = .ok (.invokestatic 179, 3) := by decide +kernel
theorem dX2_withEvening_16 : decode cX2_withEvening 16 = .ok (.lstore 4, 2) := by decide +kernel
theorem dX2_withEvening_18 : decode cX2_withEvening 18 = .ok (.lload 4, 2) := by decide +kernel
theorem dX2_withEvening_20 : decode cX2_withEvening 20 = .ok (.aload_n 3, 1) := by decide +kernel
theorem dX2_withEvening_21 : decode cX2_withEvening 21 = .ok (.getfield 137, 3) := by decide +kernel
theorem dX2_withEvening_24 : decode cX2_withEvening 24 = .ok (.i2l, 1) := by decide +kernel
theorem dX2_withEvening_25 : decode cX2_withEvening 25 = .ok (.invokestatic 179, 3) := by decide +kernel
theorem dX2_withEvening_28 : decode cX2_withEvening 28 = .ok (.lstore 4, 2) := by decide +kernel
theorem dX2_withEvening_30 : decode cX2_withEvening 30 = .ok (.lload 4, 2) := by decide +kernel
theorem dX2_withEvening_32 : decode cX2_withEvening 32 = .ok (.aload_n 3, 1) := by decide +kernel
theorem dX2_withEvening_33 : decode cX2_withEvening 33 = .ok (.getfield 140, 3) := by decide +kernel
theorem dX2_withEvening_36 : decode cX2_withEvening 36 = .ok (.i2l, 1) := by decide +kernel
theorem dX2_withEvening_37 : decode cX2_withEvening 37 = .ok (.invokestatic 179, 3) := by decide +kernel
theorem dX2_withEvening_40 : decode cX2_withEvening 40 = .ok (.lstore 4, 2) := by decide +kernel
theorem dX2_withEvening_42 : decode cX2_withEvening 42 = .ok (.lload 4, 2) := by decide +kernel
theorem dX2_withEvening_44 : decode cX2_withEvening 44 = .ok (.aload_n 3, 1) := by decide +kernel
theorem dX2_withEvening_45 : decode cX2_withEvening 45 = .ok (.getfield 143, 3) := by decide +kernel
theorem dX2_withEvening_48 : decode cX2_withEvening 48 = .ok (.i2l, 1) := by decide +kernel
theorem dX2_withEvening_49 : decode cX2_withEvening 49 = .ok (.invokestatic 179, 3) := by decide +kernel
theorem dX2_withEvening_52 : decode cX2_withEvening 52 = .ok (.lstore 4, 2) := by decide +kernel
theorem dX2_withEvening_54 : decode cX2_withEvening 54 = .ok (.lload 4, 2) := by decide +kernel
theorem dX2_withEvening_56 : decode cX2_withEvening 56 = .ok (.aload_n 3, 1) := by decide +kernel
theorem dX2_withEvening_57 : decode cX2_withEvening 57 = .ok (.getfield 146, 3) := by decide +kernel
theorem dX2_withEvening_60 : decode cX2_withEvening 60 = .ok (.i2l, 1) := by decide +kernel
theorem dX2_withEvening_61 : decode cX2_withEvening 61 = .ok (.invokestatic 179, 3) := by decide +kernel
theorem dX2_withEvening_64 : decode cX2_withEvening 64 = .ok (.lstore 4, 2) := by decide +kernel
theorem dX2_withEvening_66 : decode cX2_withEvening 66 = .ok (.lload 4, 2) := by decide +kernel
theorem dX2_withEvening_68 : decode cX2_withEvening 68 = .ok (.aload_n 3, 1) := by decide +kernel
theorem dX2_withEvening_69 : decode cX2_withEvening 69 = .ok (.getfield 149, 3) := by decide +kernel
theorem dX2_withEvening_72 : decode cX2_withEvening 72 = .ok (.i2l, 1) := by decide +kernel
theorem dX2_withEvening_73 : decode cX2_withEvening 73 = .ok (.invokestatic 179, 3) := by decide +kernel
theorem dX2_withEvening_76 : decode cX2_withEvening 76 = .ok (.lstore 4, 2) := by decide +kernel
theorem dX2_withEvening_78 : decode cX2_withEvening 78 = .ok (.lload 4, 2) := by decide +kernel
theorem dX2_withEvening_80 : decode cX2_withEvening 80 = .ok (.aload_n 3, 1) := by decide +kernel
theorem dX2_withEvening_81 : decode cX2_withEvening 81 = .ok (.getfield 98, 3) := by decide +kernel
theorem dX2_withEvening_84 : decode cX2_withEvening 84 = .ok (.invokestatic 133, 3) := by decide +kernel
theorem dX2_withEvening_87 : decode cX2_withEvening 87 = .ok (.i2l, 1) := by decide +kernel
theorem dX2_withEvening_88 : decode cX2_withEvening 88 = .ok (.invokestatic 179, 3) := by decide +kernel
theorem dX2_withEvening_91 : decode cX2_withEvening 91 = .ok (.lstore 4, 2) := by decide +kernel
theorem dX2_withEvening_93 : decode cX2_withEvening 93 = .ok (.lload 4, 2) := by decide +kernel
theorem dX2_withEvening_95 : decode cX2_withEvening 95 = .ok (.aload_n 3, 1) := by decide +kernel
theorem dX2_withEvening_96 : decode cX2_withEvening 96 = .ok (.getfield 40, 3) := by decide +kernel
theorem dX2_withEvening_99 : decode cX2_withEvening 99 = .ok (.invokevirtual 114, 3) := by decide +kernel
theorem dX2_withEvening_102 : decode cX2_withEvening 102 = .ok (.i2l, 1) := by decide +kernel
theorem dX2_withEvening_103 : decode cX2_withEvening 103 = .ok (.invokestatic 179, 3) := by decide +kernel
theorem dX2_withEvening_106 : decode cX2_withEvening 106 = .ok (.lstore 4, 2) := by decide +kernel
theorem dX2_withEvening_108 : decode cX2_withEvening 108 = .ok (.lload 4, 2) := by decide +kernel
theorem dX2_withEvening_110 : decode cX2_withEvening 110 = .ok (.aload_n 3, 1) := by decide +kernel
theorem dX2_withEvening_111 : decode cX2_withEvening 111 = .ok (.aload_n 0, 1) := by decide +kernel
theorem dX2_withEvening_112 : decode cX2_withEvening 112 = .ok (.getfield 19, 3) := by decide +kernel
theorem dX2_withEvening_115 : decode cX2_withEvening 115 = .ok (.invokestatic 107, 3) := by decide +kernel
theorem dX2_withEvening_118 : decode cX2_withEvening 118 = .ok (.i2l, 1) := by decide +kernel
theorem dX2_withEvening_119 : decode cX2_withEvening 119 = .ok (.invokestatic 179, 3) := by decide +kernel
theorem dX2_withEvening_122 : decode cX2_withEvening 122 = .ok (.lstore 4, 2) := by decide +kernel
theorem dX2_withEvening_124 : decode cX2_withEvening 124 = .ok (.lload 4, 2) := by decide +kernel
theorem dX2_withEvening_126 : decode cX2_withEvening 126 = .ok (.aload_n 3, 1) := by decide +kernel
theorem dX2_withEvening_127 : decode cX2_withEvening 127 = .ok (.getfield 40, 3) := by decide +kernel
theorem dX2_withEvening_130 : decode cX2_withEvening 130 = .ok (.aload_n 0, 1) := by decide +kernel
theorem dX2_withEvening_131 : decode cX2_withEvening 131 = .ok (.getfield 19, 3) := by decide +kernel
theorem dX2_withEvening_134 : decode cX2_withEvening 134 = .ok (.getfield 40, 3) := by decide +kernel
theorem dX2_withEvening_137 : decode cX2_withEvening 137 = .ok (.invokevirtual 164, 3) := by decide +kernel
theorem dX2_withEvening_140 : decode cX2_withEvening 140 = .ok (.ifCond .eq 7, 3) := by decide +kernel
theorem dX2_withEvening_143 : decode cX2_withEvening 143 = .ok (.lconst 1, 1) := by decide +kernel
theorem dX2_withEvening_144 : decode cX2_withEvening 144 = .ok (.goto 4, 3) := by decide +kernel
theorem dX2_withEvening_147 : decode cX2_withEvening 147 = .ok (.lconst 0, 1) := by decide +kernel
theorem dX2_withEvening_148 : decode cX2_withEvening 148 = .ok (.invokestatic 179, 3) := by decide +kernel
theorem dX2_withEvening_151 : decode cX2_withEvening 151 = .ok (.lreturn, 1) := by decide +kernel
theorem dX2_mixed_0 : decode cX2_mixed 0 = .ok (.lload_n 0, 1) := by decide +kernel
theorem dX2_mixed_1 : decode cX2_mixed 1 = .ok (.ldc2_w 211, 3) := by decide +kernel
theorem dX2_mixed_4 : decode cX2_mixed 4 = .ok (.lmul, 1) := by decide +kernel
theorem dX2_mixed_5 : decode cX2_mixed 5 = .ok (.lload_n 2, 1) := by decide +kernel
theorem dX2_mixed_6 : decode cX2_mixed 6 = .ok (.ladd, 1) := by decide +kernel
theorem dX2_mixed_7 : decode cX2_mixed 7 = .ok (.lreturn, 1) := by decide +kernel
theorem dX2_existing_0 : decode cX2_existing 0 = .ok (.iload_n 1, 1) := by decide +kernel
theorem dX2_existing_1 : decode cX2_existing 1 = .ok (.ifCond .lt 16, 3) := by decide +kernel
theorem dX2_existing_4 : decode cX2_existing 4 = .ok (.iload_n 1, 1) := by decide +kernel
theorem dX2_existing_5 : decode cX2_existing 5 = .ok (.aload_n 0, 1) := by decide +kernel
theorem dX2_existing_6 : decode cX2_existing 6 = .ok (.getfield 26, 3) := by decide +kernel
theorem dX2_existing_9 : decode cX2_existing 9 = .ok (.invokeinterface 55 1, 5) := by decide +kernel
theorem dX2_existing_14 : decode cX2_existing 14 = .ok (.if_icmp .lt 13, 3) := by decide +kernel
theorem dX2_existing_17 : decode cX2_existing 17 = .ok (.new 125, 3) := by decide +kernel
theorem dX2_existing_20 : decode cX2_existing 20 = .ok (.dup, 1) := by decide +kernel
theorem dX2_existing_21 : decode cX2_existing 21 = .ok (.ldc 213, 2) := by decide +kernel
theorem dX2_existing_23 : decode cX2_existing 23 = .ok (.invokespecial 129, 3) := by decide +kernel
theorem dX2_existing_26 : decode cX2_existing 26 = .ok (.athrow, 1) := by decide +kernel
theorem dX2_existing_27 : decode cX2_existing 27 = .ok (.aload_n 0, 1) := by decide +kernel
theorem dX2_existing_28 : decode cX2_existing 28 = .ok (.getfield 26, 3) := by decide +kernel
theorem dX2_existing_31 : decode cX2_existing 31 = .ok (.iload_n 1, 1) := by decide +kernel
theorem dX2_existing_32 : decode cX2_existing 32 = .ok (.invokeinterface 156 2, 5) := by decide +kernel
theorem dX2_existing_37 : decode cX2_existing 37 = .ok (.checkcast 7, 3) := by decide +kernel
theorem dX2_existing_40 : decode cX2_existing 40 = .ok (.areturn, 1) := by decide +kernel
theorem dX2_sceneAfter_0 : decode cX2_sceneAfter 0 = .ok (.iload_n 1, 1) := by decide +kernel
theorem dX2_sceneAfter_1 : decode cX2_sceneAfter 1 = .ok (.iload_n 2, 1) := by decide +kernel
theorem dX2_sceneAfter_2 : decode cX2_sceneAfter 2 = .ok (.invokestatic 215, 3) := by decide +kernel
theorem dX2_sceneAfter_5 : decode cX2_sceneAfter 5 = .ok (.ifCond .ne 13, 3) := by decide +kernel
theorem dX2_sceneAfter_8 : decode cX2_sceneAfter 8 = .ok (.new 219, 3) := by decide +kernel
theorem dX2_sceneAfter_11 : decode cX2_sceneAfter 11 = .ok (.dup, 1) := by decide +kernel
theorem dX2_sceneAfter_12 : decode cX2_sceneAfter 12 = .ok (.ldc 221, 2) := by decide +kernel
theorem dX2_sceneAfter_14 : decode cX2_sceneAfter 14 = .ok (.invokespecial 223, 3) := by decide +kernel
theorem dX2_sceneAfter_17 : decode cX2_sceneAfter 17 = .ok (.athrow, 1) := by decide +kernel
theorem dX2_sceneAfter_18 : decode cX2_sceneAfter 18 = .ok (.aload_n 0, 1) := by decide +kernel
theorem dX2_sceneAfter_19 : decode cX2_sceneAfter 19 = .ok (.getfield 19, 3) := by decide +kernel
theorem dX2_sceneAfter_22 : decode cX2_sceneAfter 22 = .ok (.getfield 40, 3) := by decide +kernel
theorem dX2_sceneAfter_25 : decode cX2_sceneAfter 25 = .ok (.iload_n 1, 1) := by decide +kernel
theorem dX2_sceneAfter_26 : decode cX2_sceneAfter 26 = .ok (.iload_n 2, 1) := by decide +kernel
theorem dX2_sceneAfter_27 : decode cX2_sceneAfter 27 = .ok (.invokevirtual 224, 3) := by decide +kernel
theorem dX2_sceneAfter_30 : decode cX2_sceneAfter 30 = .ok (.areturn, 1) := by decide +kernel
theorem dX2_knocksOf_0 : decode cX2_knocksOf 0 = .ok (.iconst 0, 1) := by decide +kernel
theorem dX2_knocksOf_1 : decode cX2_knocksOf 1 = .ok (.istore_n 2, 1) := by decide +kernel
theorem dX2_knocksOf_2 : decode cX2_knocksOf 2 = .ok (.iconst 0, 1) := by decide +kernel
theorem dX2_knocksOf_3 : decode cX2_knocksOf 3 = .ok (.istore_n 3, 1) := by decide +kernel
theorem dX2_knocksOf_4 : decode cX2_knocksOf 4 = .ok (.iload_n 3, 1) := by decide +kernel
theorem dX2_knocksOf_5 : decode cX2_knocksOf 5 = .ok (.aload_n 0, 1) := by decide +kernel
theorem dX2_knocksOf_6 : decode cX2_knocksOf 6 = .ok (.getfield 26, 3) := by decide +kernel
theorem dX2_knocksOf_9 : decode cX2_knocksOf 9 = .ok (.invokeinterface 55 1, 5) := by decide +kernel
theorem dX2_knocksOf_14 : decode cX2_knocksOf 14 = .ok (.if_icmp .ge 45, 3) := by decide +kernel
theorem dX2_knocksOf_17 : decode cX2_knocksOf 17 = .ok (.aload_n 0, 1) := by decide +kernel
theorem dX2_knocksOf_18 : decode cX2_knocksOf 18 = .ok (.getfield 26, 3) := by decide +kernel
theorem dX2_knocksOf_21 : decode cX2_knocksOf 21 = .ok (.iload_n 3, 1) := by decide +kernel
theorem dX2_knocksOf_22 : decode cX2_knocksOf 22 = .ok (.invokeinterface 156 2, 5) := by decide +kernel
theorem dX2_knocksOf_27 : decode cX2_knocksOf 27 = .ok (.checkcast 7, 3) := by decide +kernel
theorem dX2_knocksOf_30 : decode cX2_knocksOf 30 = .ok (.astore 4, 2) := by decide +kernel
theorem dX2_knocksOf_32 : decode cX2_knocksOf 32 = .ok (.aload 4, 2) := by decide +kernel
theorem dX2_knocksOf_34 : decode cX2_knocksOf 34 = .ok (.getfield 137, 3) := by decide +kernel
theorem dX2_knocksOf_37 : decode cX2_knocksOf 37 = .ok (.iconst 1, 1) := by decide +kernel
theorem dX2_knocksOf_38 : decode cX2_knocksOf 38 = .ok (.if_icmp .ne 15, 3) := by decide +kernel
theorem dX2_knocksOf_41 : decode cX2_knocksOf 41 = .ok (.aload 4, 2) := by decide +kernel
theorem dX2_knocksOf_43 : decode cX2_knocksOf 43 = .ok (.getfield 140, 3) := by decide +kernel
theorem dX2_knocksOf_46 : decode cX2_knocksOf 46 = .ok (.iload_n 1, 1) := by decide +kernel
theorem dX2_knocksOf_47 : decode cX2_knocksOf 47 = .ok (.if_icmp .ne 6, 3) := by decide +kernel
theorem dX2_knocksOf_50 : decode cX2_knocksOf 50 = .ok (.iinc 2 1, 3) := by decide +kernel
theorem dX2_knocksOf_53 : decode cX2_knocksOf 53 = .ok (.iinc 3 1, 3) := by decide +kernel
theorem dX2_knocksOf_56 : decode cX2_knocksOf 56 = .ok (.goto (-52), 3) := by decide +kernel
theorem dX2_knocksOf_59 : decode cX2_knocksOf 59 = .ok (.iload_n 2, 1) := by decide +kernel
theorem dX2_knocksOf_60 : decode cX2_knocksOf 60 = .ok (.ireturn, 1) := by decide +kernel
theorem dX2_placeInScene_0 : decode cX2_placeInScene 0 = .ok (.aload_n 0, 1) := by decide +kernel
theorem dX2_placeInScene_1 : decode cX2_placeInScene 1 = .ok (.iload_n 1, 1) := by decide +kernel
theorem dX2_placeInScene_2 : decode cX2_placeInScene 2 = .ok (.invokevirtual 121, 3) := by decide +kernel
theorem dX2_placeInScene_5 : decode cX2_placeInScene 5 = .ok (.ifCond .ne 13, 3) := by decide +kernel
theorem dX2_placeInScene_8 : decode cX2_placeInScene 8 = .ok (.new 125, 3) := by decide +kernel
theorem dX2_placeInScene_11 : decode cX2_placeInScene 11 = .ok (.dup, 1) := by decide +kernel
theorem dX2_placeInScene_12 : decode cX2_placeInScene 12 = .ok (.ldc 127, 2) := by decide +kernel
theorem dX2_placeInScene_14 : decode cX2_placeInScene 14 = .ok (.invokespecial 129, 3) := by decide +kernel
theorem dX2_placeInScene_17 : decode cX2_placeInScene 17 = .ok (.athrow, 1) := by decide +kernel
theorem dX2_placeInScene_18 : decode cX2_placeInScene 18 = .ok (.aload_n 0, 1) := by decide +kernel
theorem dX2_placeInScene_19 : decode cX2_placeInScene 19 = .ok (.getfield 44, 3) := by decide +kernel
theorem dX2_placeInScene_22 : decode cX2_placeInScene 22 = .ok (.iload_n 1, 1) := by decide +kernel
theorem dX2_placeInScene_23 : decode cX2_placeInScene 23 = .ok (.iaload, 1) := by decide +kernel
theorem dX2_placeInScene_24 : decode cX2_placeInScene 24 = .ok (.ireturn, 1) := by decide +kernel
theorem dX2_labelOf_0 : decode cX2_labelOf 0 = .ok (.aload_n 0, 1) := by decide +kernel
theorem dX2_labelOf_1 : decode cX2_labelOf 1 = .ok (.ifnonnull 7, 3) := by decide +kernel
theorem dX2_labelOf_4 : decode cX2_labelOf 4 = .ok (.iconst (-1), 1) := by decide +kernel
theorem dX2_labelOf_5 : decode cX2_labelOf 5 = .ok (.goto 7, 3) := by decide +kernel
theorem dX2_labelOf_8 : decode cX2_labelOf 8 = .ok (.aload_n 0, 1) := by decide +kernel
theorem dX2_labelOf_9 : decode cX2_labelOf 9 = .ok (.getfield 85, 3) := by decide +kernel
theorem dX2_labelOf_12 : decode cX2_labelOf 12 = .ok (.ireturn, 1) := by decide +kernel
theorem dX2_checkMany_0 : decode cX2_checkMany 0 = .ok (.iload_n 0, 1) := by decide +kernel
theorem dX2_checkMany_1 : decode cX2_checkMany 1 = .ok (.iconst 1, 1) := by decide +kernel
theorem dX2_checkMany_2 : decode cX2_checkMany 2 = .ok (.if_icmp .lt 9, 3) := by decide +kernel
theorem dX2_checkMany_5 : decode cX2_checkMany 5 = .ok (.iload_n 0, 1) := by decide +kernel
theorem dX2_checkMany_6 : decode cX2_checkMany 6 = .ok (.bipush 60, 2) := by decide +kernel
theorem dX2_checkMany_8 : decode cX2_checkMany 8 = .ok (.if_icmp .le 13, 3) := by decide +kernel
theorem dX2_checkMany_11 : decode cX2_checkMany 11 = .ok (.new 219, 3) := by decide +kernel
theorem dX2_checkMany_14 : decode cX2_checkMany 14 = .ok (.dup, 1) := by decide +kernel
theorem dX2_checkMany_15 : decode cX2_checkMany 15 = .ok (.ldc 227, 2) := by decide +kernel
theorem dX2_checkMany_17 : decode cX2_checkMany 17 = .ok (.invokespecial 223, 3) := by decide +kernel
theorem dX2_checkMany_20 : decode cX2_checkMany 20 = .ok (.athrow, 1) := by decide +kernel
theorem dX2_checkMany_21 : decode cX2_checkMany 21 = .ok (.return_, 1) := by decide +kernel
theorem dX2_isPaw_0 : decode cX2_isPaw 0 = .ok (.iload_n 0, 1) := by decide +kernel
theorem dX2_isPaw_1 : decode cX2_isPaw 1 = .ok (.tableswitch 63 0 3 #[31, 47, 47, 31], 31) := by decide +kernel
theorem dX2_isPaw_32 : decode cX2_isPaw 32 = .ok (.iload_n 1, 1) := by decide +kernel
theorem dX2_isPaw_33 : decode cX2_isPaw 33 = .ok (.ifCond .lt 13, 3) := by decide +kernel
theorem dX2_isPaw_36 : decode cX2_isPaw 36 = .ok (.iload_n 1, 1) := by decide +kernel
theorem dX2_isPaw_37 : decode cX2_isPaw 37 = .ok (.bipush 8, 2) := by decide +kernel
theorem dX2_isPaw_39 : decode cX2_isPaw 39 = .ok (.if_icmp .ge 7, 3) := by decide +kernel
theorem dX2_isPaw_42 : decode cX2_isPaw 42 = .ok (.iconst 1, 1) := by decide +kernel
theorem dX2_isPaw_43 : decode cX2_isPaw 43 = .ok (.goto 4, 3) := by decide +kernel
theorem dX2_isPaw_46 : decode cX2_isPaw 46 = .ok (.iconst 0, 1) := by decide +kernel
theorem dX2_isPaw_47 : decode cX2_isPaw 47 = .ok (.ireturn, 1) := by decide +kernel
theorem dX2_isPaw_48 : decode cX2_isPaw 48 = .ok (.iload_n 1, 1) := by decide +kernel
theorem dX2_isPaw_49 : decode cX2_isPaw 49 = .ok (.ifCond .lt 13, 3) := by decide +kernel
theorem dX2_isPaw_52 : decode cX2_isPaw 52 = .ok (.iload_n 1, 1) := by decide +kernel
theorem dX2_isPaw_53 : decode cX2_isPaw 53 = .ok (.bipush 16, 2) := by decide +kernel
theorem dX2_isPaw_55 : decode cX2_isPaw 55 = .ok (.if_icmp .ge 7, 3) := by decide +kernel
theorem dX2_isPaw_58 : decode cX2_isPaw 58 = .ok (.iconst 1, 1) := by decide +kernel
theorem dX2_isPaw_59 : decode cX2_isPaw 59 = .ok (.goto 4, 3) := by decide +kernel
theorem dX2_isPaw_62 : decode cX2_isPaw 62 = .ok (.iconst 0, 1) := by decide +kernel
theorem dX2_isPaw_63 : decode cX2_isPaw 63 = .ok (.ireturn, 1) := by decide +kernel
theorem dX2_isPaw_64 : decode cX2_isPaw 64 = .ok (.iconst 0, 1) := by decide +kernel
theorem dX2_isPaw_65 : decode cX2_isPaw 65 = .ok (.ireturn, 1) := by decide +kernel
theorem dX2_isOnBoard_0 : decode cX2_isOnBoard 0 = .ok (.iload_n 0, 1) := by decide +kernel
theorem dX2_isOnBoard_1 : decode cX2_isOnBoard 1 = .ok (.ifCond .lt 23, 3) := by decide +kernel
theorem dX2_isOnBoard_4 : decode cX2_isOnBoard 4 = .ok (.iload_n 0, 1) := by decide +kernel
theorem dX2_isOnBoard_5 : decode cX2_isOnBoard 5 = .ok (.bipush 8, 2) := by decide +kernel
theorem dX2_isOnBoard_7 : decode cX2_isOnBoard 7 = .ok (.if_icmp .ge 17, 3) := by decide +kernel
theorem dX2_isOnBoard_10 : decode cX2_isOnBoard 10 = .ok (.iload_n 1, 1) := by decide +kernel
theorem dX2_isOnBoard_11 : decode cX2_isOnBoard 11 = .ok (.ifCond .lt 13, 3) := by decide +kernel
theorem dX2_isOnBoard_14 : decode cX2_isOnBoard 14 = .ok (.iload_n 1, 1) := by decide +kernel
theorem dX2_isOnBoard_15 : decode cX2_isOnBoard 15 = .ok (.bipush 8, 2) := by decide +kernel
theorem dX2_isOnBoard_17 : decode cX2_isOnBoard 17 = .ok (.if_icmp .ge 7, 3) := by decide +kernel
theorem dX2_isOnBoard_20 : decode cX2_isOnBoard 20 = .ok (.iconst 1, 1) := by decide +kernel
theorem dX2_isOnBoard_21 : decode cX2_isOnBoard 21 = .ok (.goto 4, 3) := by decide +kernel
theorem dX2_isOnBoard_24 : decode cX2_isOnBoard 24 = .ok (.iconst 0, 1) := by decide +kernel
theorem dX2_isOnBoard_25 : decode cX2_isOnBoard 25 = .ok (.ireturn, 1) := by decide +kernel
theorem dX2_boardPlace_0 : decode cX2_boardPlace 0 = .ok (.iload_n 0, 1) := by decide +kernel
theorem dX2_boardPlace_1 : decode cX2_boardPlace 1 = .ok (.iload_n 1, 1) := by decide +kernel
theorem dX2_boardPlace_2 : decode cX2_boardPlace 2 = .ok (.invokestatic 229, 3) := by decide +kernel
theorem dX2_boardPlace_5 : decode cX2_boardPlace 5 = .ok (.ifCond .ne 13, 3) := by decide +kernel
theorem dX2_boardPlace_8 : decode cX2_boardPlace 8 = .ok (.new 219, 3) := by decide +kernel
theorem dX2_boardPlace_11 : decode cX2_boardPlace 11 = .ok (.dup, 1) := by decide +kernel
theorem dX2_boardPlace_12 : decode cX2_boardPlace 12 = .ok (.ldc 232, 2) := by decide +kernel
theorem dX2_boardPlace_14 : decode cX2_boardPlace 14 = .ok (.invokespecial 223, 3) := by decide +kernel
theorem dX2_boardPlace_17 : decode cX2_boardPlace 17 = .ok (.athrow, 1) := by decide +kernel
theorem dX2_boardPlace_18 : decode cX2_boardPlace 18 = .ok (.iload_n 0, 1) := by decide +kernel
theorem dX2_boardPlace_19 : decode cX2_boardPlace 19 = .ok (.bipush 8, 2) := by decide +kernel
theorem dX2_boardPlace_21 : decode cX2_boardPlace 21 = .ok (.imul, 1) := by decide +kernel
theorem dX2_boardPlace_22 : decode cX2_boardPlace 22 = .ok (.iload_n 1, 1) := by decide +kernel
theorem dX2_boardPlace_23 : decode cX2_boardPlace 23 = .ok (.iadd, 1) := by decide +kernel
theorem dX2_boardPlace_24 : decode cX2_boardPlace 24 = .ok (.ireturn, 1) := by decide +kernel
theorem dX2_farther_0 : decode cX2_farther 0 = .ok (.iload_n 0, 1) := by decide +kernel
theorem dX2_farther_1 : decode cX2_farther 1 = .ok (.ifCond .lt 23, 3) := by decide +kernel
theorem dX2_farther_4 : decode cX2_farther 4 = .ok (.iload_n 1, 1) := by decide +kernel
theorem dX2_farther_5 : decode cX2_farther 5 = .ok (.ifCond .lt 19, 3) := by decide +kernel
theorem dX2_farther_8 : decode cX2_farther 8 = .ok (.iload_n 1, 1) := by decide +kernel
theorem dX2_farther_9 : decode cX2_farther 9 = .ok (.getstatic 234, 3) := by decide +kernel
theorem dX2_farther_12 : decode cX2_farther 12 = .ok (.arraylength, 1) := by decide +kernel
theorem dX2_farther_13 : decode cX2_farther 13 = .ok (.if_icmp .ge 11, 3) := by decide +kernel
theorem dX2_farther_16 : decode cX2_farther 16 = .ok (.iload_n 1, 1) := by decide +kernel
theorem dX2_farther_17 : decode cX2_farther 17 = .ok (.getstatic 237, 3) := by decide +kernel
theorem dX2_farther_20 : decode cX2_farther 20 = .ok (.arraylength, 1) := by decide +kernel
theorem dX2_farther_21 : decode cX2_farther 21 = .ok (.if_icmp .lt 5, 3) := by decide +kernel
theorem dX2_farther_24 : decode cX2_farther 24 = .ok (.iconst (-1), 1) := by decide +kernel
theorem dX2_farther_25 : decode cX2_farther 25 = .ok (.ireturn, 1) := by decide +kernel
theorem dX2_farther_26 : decode cX2_farther 26 = .ok (.iload_n 0, 1) := by decide +kernel
theorem dX2_farther_27 : decode cX2_farther 27 = .ok (.bipush 8, 2) := by decide +kernel
theorem dX2_farther_29 : decode cX2_farther 29 = .ok (.idiv, 1) := by decide +kernel
theorem dX2_farther_30 : decode cX2_farther 30 = .ok (.getstatic 234, 3) := by decide +kernel
theorem dX2_farther_33 : decode cX2_farther 33 = .ok (.iload_n 1, 1) := by decide +kernel
theorem dX2_farther_34 : decode cX2_farther 34 = .ok (.iaload, 1) := by decide +kernel
theorem dX2_farther_35 : decode cX2_farther 35 = .ok (.iadd, 1) := by decide +kernel
theorem dX2_farther_36 : decode cX2_farther 36 = .ok (.istore_n 2, 1) := by decide +kernel
theorem dX2_farther_37 : decode cX2_farther 37 = .ok (.iload_n 0, 1) := by decide +kernel
theorem dX2_farther_38 : decode cX2_farther 38 = .ok (.bipush 8, 2) := by decide +kernel
theorem dX2_farther_40 : decode cX2_farther 40 = .ok (.irem, 1) := by decide +kernel
theorem dX2_farther_41 : decode cX2_farther 41 = .ok (.getstatic 237, 3) := by decide +kernel
theorem dX2_farther_44 : decode cX2_farther 44 = .ok (.iload_n 1, 1) := by decide +kernel
theorem dX2_farther_45 : decode cX2_farther 45 = .ok (.iaload, 1) := by decide +kernel
theorem dX2_farther_46 : decode cX2_farther 46 = .ok (.iadd, 1) := by decide +kernel
theorem dX2_farther_47 : decode cX2_farther 47 = .ok (.istore_n 3, 1) := by decide +kernel
theorem dX2_farther_48 : decode cX2_farther 48 = .ok (.iload_n 2, 1) := by decide +kernel
theorem dX2_farther_49 : decode cX2_farther 49 = .ok (.iload_n 3, 1) := by decide +kernel
theorem dX2_farther_50 : decode cX2_farther 50 = .ok (.invokestatic 229, 3) := by decide +kernel
theorem dX2_farther_53 : decode cX2_farther 53 = .ok (.ifCond .eq 12, 3) := by decide +kernel
theorem dX2_farther_56 : decode cX2_farther 56 = .ok (.iload_n 2, 1) := by decide +kernel
theorem dX2_farther_57 : decode cX2_farther 57 = .ok (.bipush 8, 2) := by decide +kernel
theorem dX2_farther_59 : decode cX2_farther 59 = .ok (.imul, 1) := by decide +kernel
theorem dX2_farther_60 : decode cX2_farther 60 = .ok (.iload_n 3, 1) := by decide +kernel
theorem dX2_farther_61 : decode cX2_farther 61 = .ok (.iadd, 1) := by decide +kernel
theorem dX2_farther_62 : decode cX2_farther 62 = .ok (.goto 4, 3) := by decide +kernel
theorem dX2_farther_65 : decode cX2_farther 65 = .ok (.iconst (-1), 1) := by decide +kernel
theorem dX2_farther_66 : decode cX2_farther 66 = .ok (.ireturn, 1) := by decide +kernel
theorem dX2_meetingOf_0 : decode cX2_meetingOf 0 = .ok (.aload_n 0, 1) := by decide +kernel
theorem dX2_meetingOf_1 : decode cX2_meetingOf 1 = .ok (.astore_n 2, 1) := by decide +kernel
theorem dX2_meetingOf_2 : decode cX2_meetingOf 2 = .ok (.aload_n 1, 1) := by decide +kernel
theorem dX2_meetingOf_3 : decode cX2_meetingOf 3 = .ok (.astore_n 3, 1) := by decide +kernel
theorem dX2_meetingOf_4 : decode cX2_meetingOf 4 = .ok (.iconst 0, 1) := by decide +kernel
theorem dX2_meetingOf_5 : decode cX2_meetingOf 5 = .ok (.istore 4, 2) := by decide +kernel
theorem dX2_meetingOf_7 : decode cX2_meetingOf 7 = .ok (.aload_n 2, 1) := by decide +kernel
theorem dX2_meetingOf_8 : decode cX2_meetingOf 8 = .ok (.aload_n 3, 1) := by decide +kernel
theorem dX2_meetingOf_9 : decode cX2_meetingOf 9 = .ok (.if_acmp .eq 40, 3) := by decide +kernel
theorem dX2_meetingOf_12 : decode cX2_meetingOf 12 = .ok (.iload 4, 2) := by decide +kernel
theorem dX2_meetingOf_14 : decode cX2_meetingOf 14 = .ok (.bipush 120, 2) := by decide +kernel
theorem dX2_meetingOf_16 : decode cX2_meetingOf 16 = .ok (.if_icmp .ge 33, 3) := by decide +kernel
theorem dX2_meetingOf_19 : decode cX2_meetingOf 19 = .ok (.aload_n 2, 1) := by decide +kernel
theorem dX2_meetingOf_20 : decode cX2_meetingOf 20 = .ok (.getfield 85, 3) := by decide +kernel
theorem dX2_meetingOf_23 : decode cX2_meetingOf 23 = .ok (.aload_n 3, 1) := by decide +kernel
theorem dX2_meetingOf_24 : decode cX2_meetingOf 24 = .ok (.getfield 85, 3) := by decide +kernel
theorem dX2_meetingOf_27 : decode cX2_meetingOf 27 = .ok (.if_icmp .le 11, 3) := by decide +kernel
theorem dX2_meetingOf_30 : decode cX2_meetingOf 30 = .ok (.aload_n 2, 1) := by decide +kernel
theorem dX2_meetingOf_31 : decode cX2_meetingOf 31 = .ok (.invokevirtual 240, 3) := by decide +kernel
theorem dX2_meetingOf_34 : decode cX2_meetingOf 34 = .ok (.astore_n 2, 1) := by decide +kernel
theorem dX2_meetingOf_35 : decode cX2_meetingOf 35 = .ok (.goto 8, 3) := by decide +kernel
theorem dX2_meetingOf_38 : decode cX2_meetingOf 38 = .ok (.aload_n 3, 1) := by decide +kernel
theorem dX2_meetingOf_39 : decode cX2_meetingOf 39 = .ok (.invokevirtual 240, 3) := by decide +kernel
theorem dX2_meetingOf_42 : decode cX2_meetingOf 42 = .ok (.astore_n 3, 1) := by decide +kernel
theorem dX2_meetingOf_43 : decode cX2_meetingOf 43 = .ok (.iinc 4 1, 3) := by decide +kernel
theorem dX2_meetingOf_46 : decode cX2_meetingOf 46 = .ok (.goto (-39), 3) := by decide +kernel
theorem dX2_meetingOf_49 : decode cX2_meetingOf 49 = .ok (.aload_n 2, 1) := by decide +kernel
theorem dX2_meetingOf_50 : decode cX2_meetingOf 50 = .ok (.areturn, 1) := by decide +kernel
theorem dX2_wayLength_0 : decode cX2_wayLength 0 = .ok (.aload_n 0, 1) := by decide +kernel
theorem dX2_wayLength_1 : decode cX2_wayLength 1 = .ok (.getfield 143, 3) := by decide +kernel
theorem dX2_wayLength_4 : decode cX2_wayLength 4 = .ok (.aload_n 1, 1) := by decide +kernel
theorem dX2_wayLength_5 : decode cX2_wayLength 5 = .ok (.getfield 143, 3) := by decide +kernel
theorem dX2_wayLength_8 : decode cX2_wayLength 8 = .ok (.iadd, 1) := by decide +kernel
theorem dX2_wayLength_9 : decode cX2_wayLength 9 = .ok (.iconst 2, 1) := by decide +kernel
theorem dX2_wayLength_10 : decode cX2_wayLength 10 = .ok (.aload_n 0, 1) := by decide +kernel
theorem dX2_wayLength_11 : decode cX2_wayLength 11 = .ok (.aload_n 1, 1) := by decide +kernel
theorem dX2_wayLength_12 : decode cX2_wayLength 12 = .ok (.invokestatic 152, 3) := by decide +kernel
theorem dX2_wayLength_15 : decode cX2_wayLength 15 = .ok (.getfield 143, 3) := by decide +kernel
theorem dX2_wayLength_18 : decode cX2_wayLength 18 = .ok (.imul, 1) := by decide +kernel
theorem dX2_wayLength_19 : decode cX2_wayLength 19 = .ok (.isub, 1) := by decide +kernel
theorem dX2_wayLength_20 : decode cX2_wayLength 20 = .ok (.ireturn, 1) := by decide +kernel
theorem dJ6_bitCount_0f7a4_0 : decode cJ6_bitCount_0f7a4 0 = .ok (.iload_n 0, 1) := by decide +kernel
theorem dJ6_bitCount_0f7a4_1 : decode cJ6_bitCount_0f7a4 1 = .ok (.iload_n 0, 1) := by decide +kernel
theorem dJ6_bitCount_0f7a4_2 : decode cJ6_bitCount_0f7a4 2 = .ok (.iconst 1, 1) := by decide +kernel
theorem dJ6_bitCount_0f7a4_3 : decode cJ6_bitCount_0f7a4 3 = .ok (.iushr, 1) := by decide +kernel
theorem dJ6_bitCount_0f7a4_4 : decode cJ6_bitCount_0f7a4 4 = .ok (.ldc_w 265, 3) := by decide +kernel
theorem dJ6_bitCount_0f7a4_7 : decode cJ6_bitCount_0f7a4 7 = .ok (.iand, 1) := by decide +kernel
theorem dJ6_bitCount_0f7a4_8 : decode cJ6_bitCount_0f7a4 8 = .ok (.isub, 1) := by decide +kernel
theorem dJ6_bitCount_0f7a4_9 : decode cJ6_bitCount_0f7a4 9 = .ok (.istore_n 0, 1) := by decide +kernel
theorem dJ6_bitCount_0f7a4_10 : decode cJ6_bitCount_0f7a4 10 = .ok (.iload_n 0, 1) := by decide +kernel
theorem dJ6_bitCount_0f7a4_11 : decode cJ6_bitCount_0f7a4 11 = .ok (.ldc_w 266, 3) := by decide +kernel
theorem dJ6_bitCount_0f7a4_14 : decode cJ6_bitCount_0f7a4 14 = .ok (.iand, 1) := by decide +kernel
theorem dJ6_bitCount_0f7a4_15 : decode cJ6_bitCount_0f7a4 15 = .ok (.iload_n 0, 1) := by decide +kernel
theorem dJ6_bitCount_0f7a4_16 : decode cJ6_bitCount_0f7a4 16 = .ok (.iconst 2, 1) := by decide +kernel
theorem dJ6_bitCount_0f7a4_17 : decode cJ6_bitCount_0f7a4 17 = .ok (.iushr, 1) := by decide +kernel
theorem dJ6_bitCount_0f7a4_18 : decode cJ6_bitCount_0f7a4 18 = .ok (.ldc_w 266, 3) := by decide +kernel
theorem dJ6_bitCount_0f7a4_21 : decode cJ6_bitCount_0f7a4 21 = .ok (.iand, 1) := by decide +kernel
theorem dJ6_bitCount_0f7a4_22 : decode cJ6_bitCount_0f7a4 22 = .ok (.iadd, 1) := by decide +kernel
theorem dJ6_bitCount_0f7a4_23 : decode cJ6_bitCount_0f7a4 23 = .ok (.istore_n 0, 1) := by decide +kernel
theorem dJ6_bitCount_0f7a4_24 : decode cJ6_bitCount_0f7a4 24 = .ok (.iload_n 0, 1) := by decide +kernel
theorem dJ6_bitCount_0f7a4_25 : decode cJ6_bitCount_0f7a4 25 = .ok (.iload_n 0, 1) := by decide +kernel
theorem dJ6_bitCount_0f7a4_26 : decode cJ6_bitCount_0f7a4 26 = .ok (.iconst 4, 1) := by decide +kernel
theorem dJ6_bitCount_0f7a4_27 : decode cJ6_bitCount_0f7a4 27 = .ok (.iushr, 1) := by decide +kernel
theorem dJ6_bitCount_0f7a4_28 : decode cJ6_bitCount_0f7a4 28 = .ok (.iadd, 1) := by decide +kernel
theorem dJ6_bitCount_0f7a4_29 : decode cJ6_bitCount_0f7a4 29 = .ok (.ldc_w 267, 3) := by decide +kernel
theorem dJ6_bitCount_0f7a4_32 : decode cJ6_bitCount_0f7a4 32 = .ok (.iand, 1) := by decide +kernel
theorem dJ6_bitCount_0f7a4_33 : decode cJ6_bitCount_0f7a4 33 = .ok (.istore_n 0, 1) := by decide +kernel
theorem dJ6_bitCount_0f7a4_34 : decode cJ6_bitCount_0f7a4 34 = .ok (.iload_n 0, 1) := by decide +kernel
theorem dJ6_bitCount_0f7a4_35 : decode cJ6_bitCount_0f7a4 35 = .ok (.iload_n 0, 1) := by decide +kernel
theorem dJ6_bitCount_0f7a4_36 : decode cJ6_bitCount_0f7a4 36 = .ok (.bipush 8, 2) := by decide +kernel
theorem dJ6_bitCount_0f7a4_38 : decode cJ6_bitCount_0f7a4 38 = .ok (.iushr, 1) := by decide +kernel
theorem dJ6_bitCount_0f7a4_39 : decode cJ6_bitCount_0f7a4 39 = .ok (.iadd, 1) := by decide +kernel
theorem dJ6_bitCount_0f7a4_40 : decode cJ6_bitCount_0f7a4 40 = .ok (.istore_n 0, 1) := by decide +kernel
theorem dJ6_bitCount_0f7a4_41 : decode cJ6_bitCount_0f7a4 41 = .ok (.iload_n 0, 1) := by decide +kernel
theorem dJ6_bitCount_0f7a4_42 : decode cJ6_bitCount_0f7a4 42 = .ok (.iload_n 0, 1) := by decide +kernel
theorem dJ6_bitCount_0f7a4_43 : decode cJ6_bitCount_0f7a4 43 = .ok (.bipush 16, 2) := by decide +kernel
theorem dJ6_bitCount_0f7a4_45 : decode cJ6_bitCount_0f7a4 45 = .ok (.iushr, 1) := by decide +kernel
theorem dJ6_bitCount_0f7a4_46 : decode cJ6_bitCount_0f7a4 46 = .ok (.iadd, 1) := by decide +kernel
theorem dJ6_bitCount_0f7a4_47 : decode cJ6_bitCount_0f7a4 47 = .ok (.istore_n 0, 1) := by decide +kernel
theorem dJ6_bitCount_0f7a4_48 : decode cJ6_bitCount_0f7a4 48 = .ok (.iload_n 0, 1) := by decide +kernel
theorem dJ6_bitCount_0f7a4_49 : decode cJ6_bitCount_0f7a4 49 = .ok (.bipush 63, 2) := by decide +kernel
theorem dJ6_bitCount_0f7a4_51 : decode cJ6_bitCount_0f7a4 51 = .ok (.iand, 1) := by decide +kernel
theorem dJ6_bitCount_0f7a4_52 : decode cJ6_bitCount_0f7a4 52 = .ok (.ireturn, 1) := by decide +kernel
theorem dJ9_abs_0f7a4_0 : decode cJ9_abs_0f7a4 0 = .ok (.iload_n 0, 1) := by decide +kernel
theorem dJ9_abs_0f7a4_1 : decode cJ9_abs_0f7a4 1 = .ok (.ifCond .ge 8, 3) := by decide +kernel
theorem dJ9_abs_0f7a4_4 : decode cJ9_abs_0f7a4 4 = .ok (.iload_n 0, 1) := by decide +kernel
theorem dJ9_abs_0f7a4_5 : decode cJ9_abs_0f7a4 5 = .ok (.ineg, 1) := by decide +kernel
theorem dJ9_abs_0f7a4_6 : decode cJ9_abs_0f7a4 6 = .ok (.goto 4, 3) := by decide +kernel
theorem dJ9_abs_0f7a4_9 : decode cJ9_abs_0f7a4 9 = .ok (.iload_n 0, 1) := by decide +kernel
theorem dJ9_abs_0f7a4_10 : decode cJ9_abs_0f7a4 10 = .ok (.ireturn, 1) := by decide +kernel
theorem dJ9_max_7cf53_0 : decode cJ9_max_7cf53 0 = .ok (.iload_n 0, 1) := by decide +kernel
theorem dJ9_max_7cf53_1 : decode cJ9_max_7cf53 1 = .ok (.iload_n 1, 1) := by decide +kernel
theorem dJ9_max_7cf53_2 : decode cJ9_max_7cf53 2 = .ok (.if_icmp .lt 7, 3) := by decide +kernel
theorem dJ9_max_7cf53_5 : decode cJ9_max_7cf53 5 = .ok (.iload_n 0, 1) := by decide +kernel
theorem dJ9_max_7cf53_6 : decode cJ9_max_7cf53 6 = .ok (.goto 4, 3) := by decide +kernel
theorem dJ9_max_7cf53_9 : decode cJ9_max_7cf53 9 = .ok (.iload_n 1, 1) := by decide +kernel
theorem dJ9_max_7cf53_10 : decode cJ9_max_7cf53 10 = .ok (.ireturn, 1) := by decide +kernel
theorem dJ9_min_7cf53_0 : decode cJ9_min_7cf53 0 = .ok (.iload_n 0, 1) := by decide +kernel
theorem dJ9_min_7cf53_1 : decode cJ9_min_7cf53 1 = .ok (.iload_n 1, 1) := by decide +kernel
theorem dJ9_min_7cf53_2 : decode cJ9_min_7cf53 2 = .ok (.if_icmp .gt 7, 3) := by decide +kernel
theorem dJ9_min_7cf53_5 : decode cJ9_min_7cf53 5 = .ok (.iload_n 0, 1) := by decide +kernel
theorem dJ9_min_7cf53_6 : decode cJ9_min_7cf53 6 = .ok (.goto 4, 3) := by decide +kernel
theorem dJ9_min_7cf53_9 : decode cJ9_min_7cf53 9 = .ok (.iload_n 1, 1) := by decide +kernel
theorem dJ9_min_7cf53_10 : decode cJ9_min_7cf53 10 = .ok (.ireturn, 1) := by decide +kernel
theorem dJxa1e45_init_da8c8_0 : decode cJxa1e45_init_da8c8 0 = .ok (.aload_n 0, 1) := by decide +kernel
theorem dJxa1e45_init_da8c8_1 : decode cJxa1e45_init_da8c8 1 = .ok (.invokespecial 1, 3) := by decide +kernel
theorem dJxa1e45_init_da8c8_4 : decode cJxa1e45_init_da8c8 4 = .ok (.return_, 1) := by decide +kernel
theorem dJxc12de_init_da8c8_0 : decode cJxc12de_init_da8c8 0 = .ok (.aload_n 0, 1) := by decide +kernel
theorem dJxc12de_init_da8c8_1 : decode cJxc12de_init_da8c8 1 = .ok (.invokespecial 1, 3) := by decide +kernel
theorem dJxc12de_init_da8c8_4 : decode cJxc12de_init_da8c8 4 = .ok (.aload_n 0, 1) := by decide +kernel
theorem dJxc12de_init_da8c8_5 : decode cJxc12de_init_da8c8 5 = .ok (.iconst 0, 1) := by decide +kernel
theorem dJxc12de_init_da8c8_6 : decode cJxc12de_init_da8c8 6 = .ok (.putfield 7, 3) := by decide +kernel
theorem dJxc12de_init_da8c8_9 : decode cJxc12de_init_da8c8 9 = .ok (.return_, 1) := by decide +kernel
theorem dJx4a65c_init_da8c8_0 : decode cJx4a65c_init_da8c8 0 = .ok (.aload_n 0, 1) := by decide +kernel
theorem dJx4a65c_init_da8c8_1 : decode cJx4a65c_init_da8c8 1 = .ok (.invokespecial 1, 3) := by decide +kernel
theorem dJx4a65c_init_da8c8_4 : decode cJx4a65c_init_da8c8 4 = .ok (.aload_n 0, 1) := by decide +kernel
theorem dJx4a65c_init_da8c8_5 : decode cJx4a65c_init_da8c8 5 = .ok (.getstatic 39, 3) := by decide +kernel
theorem dJx4a65c_init_da8c8_8 : decode cJx4a65c_init_da8c8 8 = .ok (.putfield 9, 3) := by decide +kernel
theorem dJx4a65c_init_da8c8_11 : decode cJx4a65c_init_da8c8 11 = .ok (.return_, 1) := by decide +kernel
theorem dJx4a65c_grow_92f84_0 : decode cJx4a65c_grow_92f84 0 = .ok (.aload_n 0, 1) := by decide +kernel
theorem dJx4a65c_grow_92f84_1 : decode cJx4a65c_grow_92f84 1 = .ok (.getfield 9, 3) := by decide +kernel
theorem dJx4a65c_grow_92f84_4 : decode cJx4a65c_grow_92f84 4 = .ok (.arraylength, 1) := by decide +kernel
theorem dJx4a65c_grow_92f84_5 : decode cJx4a65c_grow_92f84 5 = .ok (.istore_n 2, 1) := by decide +kernel
theorem dJx4a65c_grow_92f84_6 : decode cJx4a65c_grow_92f84 6 = .ok (.iload_n 2, 1) := by decide +kernel
theorem dJx4a65c_grow_92f84_7 : decode cJx4a65c_grow_92f84 7 = .ok (.ifCond .gt 13, 3) := by decide +kernel
theorem dJx4a65c_grow_92f84_10 : decode cJx4a65c_grow_92f84 10 = .ok (.aload_n 0, 1) := by decide +kernel
theorem dJx4a65c_grow_92f84_11 : decode cJx4a65c_grow_92f84 11 = .ok (.getfield 9, 3) := by decide +kernel
theorem dJx4a65c_grow_92f84_14 : decode cJx4a65c_grow_92f84 14 = .ok (.getstatic 39, 3) := by decide +kernel
theorem dJx4a65c_grow_92f84_17 : decode cJx4a65c_grow_92f84 17 = .ok (.if_acmp .eq 28, 3) := by decide +kernel
theorem dJx4a65c_grow_92f84_20 : decode cJx4a65c_grow_92f84 20 = .ok (.iload_n 2, 1) := by decide +kernel
theorem dJx4a65c_grow_92f84_21 : decode cJx4a65c_grow_92f84 21 = .ok (.iload_n 1, 1) := by decide +kernel
theorem dJx4a65c_grow_92f84_22 : decode cJx4a65c_grow_92f84 22 = .ok (.iload_n 2, 1) := by decide +kernel
theorem dJx4a65c_grow_92f84_23 : decode cJx4a65c_grow_92f84 23 = .ok (.isub, 1) := by decide +kernel
theorem dJx4a65c_grow_92f84_24 : decode cJx4a65c_grow_92f84 24 = .ok (.iload_n 2, 1) := by decide +kernel
theorem dJx4a65c_grow_92f84_25 : decode cJx4a65c_grow_92f84 25 = .ok (.iconst 1, 1) := by decide +kernel
theorem dJx4a65c_grow_92f84_26 : decode cJx4a65c_grow_92f84 26 = .ok (.ishr, 1) := by decide +kernel
theorem dJx4a65c_grow_92f84_27 : decode cJx4a65c_grow_92f84 27 = .ok (.invokestatic 73, 3) := by decide +kernel
theorem dJx4a65c_grow_92f84_30 : decode cJx4a65c_grow_92f84 30 = .ok (.istore_n 3, 1) := by decide +kernel
theorem dJx4a65c_grow_92f84_31 : decode cJx4a65c_grow_92f84 31 = .ok (.aload_n 0, 1) := by decide +kernel
theorem dJx4a65c_grow_92f84_32 : decode cJx4a65c_grow_92f84 32 = .ok (.aload_n 0, 1) := by decide +kernel
theorem dJx4a65c_grow_92f84_33 : decode cJx4a65c_grow_92f84 33 = .ok (.getfield 9, 3) := by decide +kernel
theorem dJx4a65c_grow_92f84_36 : decode cJx4a65c_grow_92f84 36 = .ok (.iload_n 3, 1) := by decide +kernel
theorem dJx4a65c_grow_92f84_37 : decode cJx4a65c_grow_92f84 37 = .ok (.invokestatic 66, 3) := by decide +kernel
theorem dJx4a65c_grow_92f84_40 : decode cJx4a65c_grow_92f84 40 = .ok (.dup_x1, 1) := by decide +kernel
theorem dJx4a65c_grow_92f84_41 : decode cJx4a65c_grow_92f84 41 = .ok (.putfield 9, 3) := by decide +kernel
theorem dJx4a65c_grow_92f84_44 : decode cJx4a65c_grow_92f84 44 = .ok (.areturn, 1) := by decide +kernel
theorem dJx4a65c_grow_92f84_45 : decode cJx4a65c_grow_92f84 45 = .ok (.aload_n 0, 1) := by decide +kernel
theorem dJx4a65c_grow_92f84_46 : decode cJx4a65c_grow_92f84 46 = .ok (.bipush 10, 2) := by decide +kernel
theorem dJx4a65c_grow_92f84_48 : decode cJx4a65c_grow_92f84 48 = .ok (.iload_n 1, 1) := by decide +kernel
theorem dJx4a65c_grow_92f84_49 : decode cJx4a65c_grow_92f84 49 = .ok (.invokestatic 79, 3) := by decide +kernel
theorem dJx4a65c_grow_92f84_52 : decode cJx4a65c_grow_92f84 52 = .ok (.anewarray 7, 3) := by decide +kernel
theorem dJx4a65c_grow_92f84_55 : decode cJx4a65c_grow_92f84 55 = .ok (.dup_x1, 1) := by decide +kernel
theorem dJx4a65c_grow_92f84_56 : decode cJx4a65c_grow_92f84 56 = .ok (.putfield 9, 3) := by decide +kernel
theorem dJx4a65c_grow_92f84_59 : decode cJx4a65c_grow_92f84 59 = .ok (.areturn, 1) := by decide +kernel
theorem dJx4a65c_grow_d5877_0 : decode cJx4a65c_grow_d5877 0 = .ok (.aload_n 0, 1) := by decide +kernel
theorem dJx4a65c_grow_d5877_1 : decode cJx4a65c_grow_d5877 1 = .ok (.aload_n 0, 1) := by decide +kernel
theorem dJx4a65c_grow_d5877_2 : decode cJx4a65c_grow_d5877 2 = .ok (.getfield 48, 3) := by decide +kernel
theorem dJx4a65c_grow_d5877_5 : decode cJx4a65c_grow_d5877 5 = .ok (.iconst 1, 1) := by decide +kernel
theorem dJx4a65c_grow_d5877_6 : decode cJx4a65c_grow_d5877 6 = .ok (.iadd, 1) := by decide +kernel
theorem dJx4a65c_grow_d5877_7 : decode cJx4a65c_grow_d5877 7 = .ok (.invokevirtual 69, 3) := by decide +kernel
theorem dJx4a65c_grow_d5877_10 : decode cJx4a65c_grow_d5877 10 = .ok (.areturn, 1) := by decide +kernel
theorem dJx4a65c_size_8abf5_0 : decode cJx4a65c_size_8abf5 0 = .ok (.aload_n 0, 1) := by decide +kernel
theorem dJx4a65c_size_8abf5_1 : decode cJx4a65c_size_8abf5 1 = .ok (.getfield 48, 3) := by decide +kernel
theorem dJx4a65c_size_8abf5_4 : decode cJx4a65c_size_8abf5 4 = .ok (.ireturn, 1) := by decide +kernel
theorem dJx4a65c_elementData_915e3_0 : decode cJx4a65c_elementData_915e3 0 = .ok (.aload_n 0, 1) := by decide +kernel
theorem dJx4a65c_elementData_915e3_1 : decode cJx4a65c_elementData_915e3 1 = .ok (.getfield 9, 3) := by decide +kernel
theorem dJx4a65c_elementData_915e3_4 : decode cJx4a65c_elementData_915e3 4 = .ok (.iload_n 1, 1) := by decide +kernel
theorem dJx4a65c_elementData_915e3_5 : decode cJx4a65c_elementData_915e3 5 = .ok (.aaload, 1) := by decide +kernel
theorem dJx4a65c_elementData_915e3_6 : decode cJx4a65c_elementData_915e3 6 = .ok (.areturn, 1) := by decide +kernel
theorem dJx4a65c_get_915e3_0 : decode cJx4a65c_get_915e3 0 = .ok (.iload_n 1, 1) := by decide +kernel
theorem dJx4a65c_get_915e3_1 : decode cJx4a65c_get_915e3 1 = .ok (.aload_n 0, 1) := by decide +kernel
theorem dJx4a65c_get_915e3_2 : decode cJx4a65c_get_915e3 2 = .ok (.getfield 48, 3) := by decide +kernel
theorem dJx4a65c_get_915e3_5 : decode cJx4a65c_get_915e3 5 = .ok (.invokestatic 118, 3) := by decide +kernel
theorem dJx4a65c_get_915e3_8 : decode cJx4a65c_get_915e3 8 = .ok (.pop, 1) := by decide +kernel
theorem dJx4a65c_get_915e3_9 : decode cJx4a65c_get_915e3 9 = .ok (.aload_n 0, 1) := by decide +kernel
theorem dJx4a65c_get_915e3_10 : decode cJx4a65c_get_915e3 10 = .ok (.iload_n 1, 1) := by decide +kernel
theorem dJx4a65c_get_915e3_11 : decode cJx4a65c_get_915e3 11 = .ok (.invokevirtual 123, 3) := by decide +kernel
theorem dJx4a65c_get_915e3_14 : decode cJx4a65c_get_915e3 14 = .ok (.areturn, 1) := by decide +kernel
theorem dJx4a65c_add_72be8_0 : decode cJx4a65c_add_72be8 0 = .ok (.iload_n 3, 1) := by decide +kernel
theorem dJx4a65c_add_72be8_1 : decode cJx4a65c_add_72be8 1 = .ok (.aload_n 2, 1) := by decide +kernel
theorem dJx4a65c_add_72be8_2 : decode cJx4a65c_add_72be8 2 = .ok (.arraylength, 1) := by decide +kernel
theorem dJx4a65c_add_72be8_3 : decode cJx4a65c_add_72be8 3 = .ok (.if_icmp .ne 8, 3) := by decide +kernel
theorem dJx4a65c_add_72be8_6 : decode cJx4a65c_add_72be8 6 = .ok (.aload_n 0, 1) := by decide +kernel
theorem dJx4a65c_add_72be8_7 : decode cJx4a65c_add_72be8 7 = .ok (.invokevirtual 129, 3) := by decide +kernel
theorem dJx4a65c_add_72be8_10 : decode cJx4a65c_add_72be8 10 = .ok (.astore_n 2, 1) := by decide +kernel
theorem dJx4a65c_add_72be8_11 : decode cJx4a65c_add_72be8 11 = .ok (.aload_n 2, 1) := by decide +kernel
theorem dJx4a65c_add_72be8_12 : decode cJx4a65c_add_72be8 12 = .ok (.iload_n 3, 1) := by decide +kernel
theorem dJx4a65c_add_72be8_13 : decode cJx4a65c_add_72be8 13 = .ok (.aload_n 1, 1) := by decide +kernel
theorem dJx4a65c_add_72be8_14 : decode cJx4a65c_add_72be8 14 = .ok (.aastore, 1) := by decide +kernel
theorem dJx4a65c_add_72be8_15 : decode cJx4a65c_add_72be8 15 = .ok (.aload_n 0, 1) := by decide +kernel
theorem dJx4a65c_add_72be8_16 : decode cJx4a65c_add_72be8 16 = .ok (.iload_n 3, 1) := by decide +kernel
theorem dJx4a65c_add_72be8_17 : decode cJx4a65c_add_72be8 17 = .ok (.iconst 1, 1) := by decide +kernel
theorem dJx4a65c_add_72be8_18 : decode cJx4a65c_add_72be8 18 = .ok (.iadd, 1) := by decide +kernel
theorem dJx4a65c_add_72be8_19 : decode cJx4a65c_add_72be8 19 = .ok (.putfield 48, 3) := by decide +kernel
theorem dJx4a65c_add_72be8_22 : decode cJx4a65c_add_72be8 22 = .ok (.return_, 1) := by decide +kernel
theorem dJx4a65c_add_9ea2d_0 : decode cJx4a65c_add_9ea2d 0 = .ok (.aload_n 0, 1) := by decide +kernel
theorem dJx4a65c_add_9ea2d_1 : decode cJx4a65c_add_9ea2d 1 = .ok (.dup, 1) := by decide +kernel
theorem dJx4a65c_add_9ea2d_2 : decode cJx4a65c_add_9ea2d 2 = .ok (.getfield 63, 3) := by decide +kernel
theorem dJx4a65c_add_9ea2d_5 : decode cJx4a65c_add_9ea2d 5 = .ok (.iconst 1, 1) := by decide +kernel
theorem dJx4a65c_add_9ea2d_6 : decode cJx4a65c_add_9ea2d 6 = .ok (.iadd, 1) := by decide +kernel
theorem dJx4a65c_add_9ea2d_7 : decode cJx4a65c_add_9ea2d 7 = .ok (.putfield 63, 3) := by decide +kernel
theorem dJx4a65c_add_9ea2d_10 : decode cJx4a65c_add_9ea2d 10 = .ok (.aload_n 0, 1) := by decide +kernel
theorem dJx4a65c_add_9ea2d_11 : decode cJx4a65c_add_9ea2d 11 = .ok (.aload_n 1, 1) := by decide +kernel
theorem dJx4a65c_add_9ea2d_12 : decode cJx4a65c_add_9ea2d 12 = .ok (.aload_n 0, 1) := by decide +kernel
theorem dJx4a65c_add_9ea2d_13 : decode cJx4a65c_add_9ea2d 13 = .ok (.getfield 9, 3) := by decide +kernel
theorem dJx4a65c_add_9ea2d_16 : decode cJx4a65c_add_9ea2d 16 = .ok (.aload_n 0, 1) := by decide +kernel
theorem dJx4a65c_add_9ea2d_17 : decode cJx4a65c_add_9ea2d 17 = .ok (.getfield 48, 3) := by decide +kernel
theorem dJx4a65c_add_9ea2d_20 : decode cJx4a65c_add_9ea2d 20 = .ok (.invokevirtual 131, 3) := by decide +kernel
theorem dJx4a65c_add_9ea2d_23 : decode cJx4a65c_add_9ea2d 23 = .ok (.iconst 1, 1) := by decide +kernel
theorem dJx4a65c_add_9ea2d_24 : decode cJx4a65c_add_9ea2d 24 = .ok (.ireturn, 1) := by decide +kernel
theorem dJ7_copyOf_1904c_0 : decode cJ7_copyOf_1904c 0 = .ok (.aload_n 0, 1) := by decide +kernel
theorem dJ7_copyOf_1904c_1 : decode cJ7_copyOf_1904c 1 = .ok (.iload_n 1, 1) := by decide +kernel
theorem dJ7_copyOf_1904c_2 : decode cJ7_copyOf_1904c 2 = .ok (.aload_n 0, 1) := by decide +kernel
theorem dJ7_copyOf_1904c_3 : decode cJ7_copyOf_1904c 3 = .ok (.invokevirtual 86, 3) := by decide +kernel
theorem dJ7_copyOf_1904c_6 : decode cJ7_copyOf_1904c 6 = .ok (.invokestatic 300, 3) := by decide +kernel
theorem dJ7_copyOf_1904c_9 : decode cJ7_copyOf_1904c 9 = .ok (.areturn, 1) := by decide +kernel
theorem dJ7_copyOf_6403c_0 : decode cJ7_copyOf_6403c 0 = .ok (.aload_n 2, 1) := by decide +kernel
theorem dJ7_copyOf_6403c_1 : decode cJ7_copyOf_6403c 1 = .ok (.ldc 110, 2) := by decide +kernel
theorem dJ7_copyOf_6403c_3 : decode cJ7_copyOf_6403c 3 = .ok (.if_acmp .ne 10, 3) := by decide +kernel
theorem dJ7_copyOf_6403c_6 : decode cJ7_copyOf_6403c 6 = .ok (.iload_n 1, 1) := by decide +kernel
theorem dJ7_copyOf_6403c_7 : decode cJ7_copyOf_6403c 7 = .ok (.anewarray 2, 3) := by decide +kernel
theorem dJ7_copyOf_6403c_10 : decode cJ7_copyOf_6403c 10 = .ok (.goto 14, 3) := by decide +kernel
theorem dJ7_copyOf_6403c_13 : decode cJ7_copyOf_6403c 13 = .ok (.aload_n 2, 1) := by decide +kernel
theorem dJ7_copyOf_6403c_14 : decode cJ7_copyOf_6403c 14 = .ok (.invokevirtual 90, 3) := by decide +kernel
theorem dJ7_copyOf_6403c_17 : decode cJ7_copyOf_6403c 17 = .ok (.iload_n 1, 1) := by decide +kernel
theorem dJ7_copyOf_6403c_18 : decode cJ7_copyOf_6403c 18 = .ok (.invokestatic 95, 3) := by decide +kernel
theorem dJ7_copyOf_6403c_21 : decode cJ7_copyOf_6403c 21 = .ok (.checkcast 110, 3) := by decide +kernel
theorem dJ7_copyOf_6403c_24 : decode cJ7_copyOf_6403c 24 = .ok (.astore_n 3, 1) := by decide +kernel
theorem dJ7_copyOf_6403c_25 : decode cJ7_copyOf_6403c 25 = .ok (.aload_n 0, 1) := by decide +kernel
theorem dJ7_copyOf_6403c_26 : decode cJ7_copyOf_6403c 26 = .ok (.iconst 0, 1) := by decide +kernel
theorem dJ7_copyOf_6403c_27 : decode cJ7_copyOf_6403c 27 = .ok (.aload_n 3, 1) := by decide +kernel
theorem dJ7_copyOf_6403c_28 : decode cJ7_copyOf_6403c 28 = .ok (.iconst 0, 1) := by decide +kernel
theorem dJ7_copyOf_6403c_29 : decode cJ7_copyOf_6403c 29 = .ok (.aload_n 0, 1) := by decide +kernel
theorem dJ7_copyOf_6403c_30 : decode cJ7_copyOf_6403c 30 = .ok (.arraylength, 1) := by decide +kernel
theorem dJ7_copyOf_6403c_31 : decode cJ7_copyOf_6403c 31 = .ok (.iload_n 1, 1) := by decide +kernel
theorem dJ7_copyOf_6403c_32 : decode cJ7_copyOf_6403c 32 = .ok (.invokestatic 304, 3) := by decide +kernel
theorem dJ7_copyOf_6403c_35 : decode cJ7_copyOf_6403c 35 = .ok (.invokestatic 150, 3) := by decide +kernel
theorem dJ7_copyOf_6403c_38 : decode cJ7_copyOf_6403c 38 = .ok (.aload_n 3, 1) := by decide +kernel
theorem dJ7_copyOf_6403c_39 : decode cJ7_copyOf_6403c 39 = .ok (.areturn, 1) := by decide +kernel
theorem dJ15_checkIndex_7cf53_0 : decode cJ15_checkIndex_7cf53 0 = .ok (.iload_n 0, 1) := by decide +kernel
theorem dJ15_checkIndex_7cf53_1 : decode cJ15_checkIndex_7cf53 1 = .ok (.iload_n 1, 1) := by decide +kernel
theorem dJ15_checkIndex_7cf53_2 : decode cJ15_checkIndex_7cf53 2 = .ok (.aconst_null, 1) := by decide +kernel
theorem dJ15_checkIndex_7cf53_3 : decode cJ15_checkIndex_7cf53 3 = .ok (.invokestatic 105, 3) := by decide +kernel
theorem dJ15_checkIndex_7cf53_6 : decode cJ15_checkIndex_7cf53 6 = .ok (.ireturn, 1) := by decide +kernel
theorem dJ8_newLength_cabcc_0 : decode cJ8_newLength_cabcc 0 = .ok (.iload_n 0, 1) := by decide +kernel
theorem dJ8_newLength_cabcc_1 : decode cJ8_newLength_cabcc 1 = .ok (.iload_n 1, 1) := by decide +kernel
theorem dJ8_newLength_cabcc_2 : decode cJ8_newLength_cabcc 2 = .ok (.iload_n 2, 1) := by decide +kernel
theorem dJ8_newLength_cabcc_3 : decode cJ8_newLength_cabcc 3 = .ok (.invokestatic 194, 3) := by decide +kernel
theorem dJ8_newLength_cabcc_6 : decode cJ8_newLength_cabcc 6 = .ok (.iadd, 1) := by decide +kernel
theorem dJ8_newLength_cabcc_7 : decode cJ8_newLength_cabcc 7 = .ok (.istore_n 3, 1) := by decide +kernel
theorem dJ8_newLength_cabcc_8 : decode cJ8_newLength_cabcc 8 = .ok (.iconst 0, 1) := by decide +kernel
theorem dJ8_newLength_cabcc_9 : decode cJ8_newLength_cabcc 9 = .ok (.iload_n 3, 1) := by decide +kernel
theorem dJ8_newLength_cabcc_10 : decode cJ8_newLength_cabcc 10 = .ok (.if_icmp .ge 11, 3) := by decide +kernel
theorem dJ8_newLength_cabcc_13 : decode cJ8_newLength_cabcc 13 = .ok (.iload_n 3, 1) := by decide +kernel
theorem dJ8_newLength_cabcc_14 : decode cJ8_newLength_cabcc 14 = .ok (.ldc 200, 2) := by decide +kernel
theorem dJ8_newLength_cabcc_16 : decode cJ8_newLength_cabcc 16 = .ok (.if_icmp .gt 5, 3) := by decide +kernel
theorem dJ8_newLength_cabcc_19 : decode cJ8_newLength_cabcc 19 = .ok (.iload_n 3, 1) := by decide +kernel
theorem dJ8_newLength_cabcc_20 : decode cJ8_newLength_cabcc 20 = .ok (.ireturn, 1) := by decide +kernel
theorem dJ8_newLength_cabcc_21 : decode cJ8_newLength_cabcc 21 = .ok (.iload_n 0, 1) := by decide +kernel
theorem dJ8_newLength_cabcc_22 : decode cJ8_newLength_cabcc 22 = .ok (.iload_n 1, 1) := by decide +kernel
theorem dJ8_newLength_cabcc_23 : decode cJ8_newLength_cabcc 23 = .ok (.invokestatic 201, 3) := by decide +kernel
theorem dJ8_newLength_cabcc_26 : decode cJ8_newLength_cabcc 26 = .ok (.ireturn, 1) := by decide +kernel
theorem dJ8_hugeLength_7cf53_0 : decode cJ8_hugeLength_7cf53 0 = .ok (.iload_n 0, 1) := by decide +kernel
theorem dJ8_hugeLength_7cf53_1 : decode cJ8_hugeLength_7cf53 1 = .ok (.iload_n 1, 1) := by decide +kernel
theorem dJ8_hugeLength_7cf53_2 : decode cJ8_hugeLength_7cf53 2 = .ok (.iadd, 1) := by decide +kernel
theorem dJ8_hugeLength_7cf53_3 : decode cJ8_hugeLength_7cf53 3 = .ok (.istore_n 2, 1) := by decide +kernel
theorem dJ8_hugeLength_7cf53_4 : decode cJ8_hugeLength_7cf53 4 = .ok (.iload_n 2, 1) := by decide +kernel
theorem dJ8_hugeLength_7cf53_5 : decode cJ8_hugeLength_7cf53 5 = .ok (.ifCond .ge 44, 3) := by decide +kernel
theorem dJ8_hugeLength_7cf53_8 : decode cJ8_hugeLength_7cf53 8 = .ok (.new 204, 3) := by decide +kernel
theorem dJ8_hugeLength_7cf53_11 : decode cJ8_hugeLength_7cf53 11 = .ok (.dup, 1) := by decide +kernel
theorem dJ8_hugeLength_7cf53_12 : decode cJ8_hugeLength_7cf53 12 = .ok (.new 89, 3) := by decide +kernel
theorem dJ8_hugeLength_7cf53_15 : decode cJ8_hugeLength_7cf53 15 = .ok (.dup, 1) := by decide +kernel
theorem dJ8_hugeLength_7cf53_16 : decode cJ8_hugeLength_7cf53 16 = .ok (.invokespecial 91, 3) := by decide +kernel
theorem dJ8_hugeLength_7cf53_19 : decode cJ8_hugeLength_7cf53 19 = .ok (.ldc 206, 2) := by decide +kernel
theorem dJ8_hugeLength_7cf53_21 : decode cJ8_hugeLength_7cf53 21 = .ok (.invokevirtual 94, 3) := by decide +kernel
theorem dJ8_hugeLength_7cf53_24 : decode cJ8_hugeLength_7cf53 24 = .ok (.iload_n 0, 1) := by decide +kernel
theorem dJ8_hugeLength_7cf53_25 : decode cJ8_hugeLength_7cf53 25 = .ok (.invokevirtual 98, 3) := by decide +kernel
theorem dJ8_hugeLength_7cf53_28 : decode cJ8_hugeLength_7cf53 28 = .ok (.ldc 208, 2) := by decide +kernel
theorem dJ8_hugeLength_7cf53_30 : decode cJ8_hugeLength_7cf53 30 = .ok (.invokevirtual 94, 3) := by decide +kernel
theorem dJ8_hugeLength_7cf53_33 : decode cJ8_hugeLength_7cf53 33 = .ok (.iload_n 1, 1) := by decide +kernel
theorem dJ8_hugeLength_7cf53_34 : decode cJ8_hugeLength_7cf53 34 = .ok (.invokevirtual 98, 3) := by decide +kernel
theorem dJ8_hugeLength_7cf53_37 : decode cJ8_hugeLength_7cf53 37 = .ok (.ldc 210, 2) := by decide +kernel
theorem dJ8_hugeLength_7cf53_39 : decode cJ8_hugeLength_7cf53 39 = .ok (.invokevirtual 94, 3) := by decide +kernel
theorem dJ8_hugeLength_7cf53_42 : decode cJ8_hugeLength_7cf53 42 = .ok (.invokevirtual 101, 3) := by decide +kernel
theorem dJ8_hugeLength_7cf53_45 : decode cJ8_hugeLength_7cf53 45 = .ok (.invokespecial 212, 3) := by decide +kernel
theorem dJ8_hugeLength_7cf53_48 : decode cJ8_hugeLength_7cf53 48 = .ok (.athrow, 1) := by decide +kernel
theorem dJ8_hugeLength_7cf53_49 : decode cJ8_hugeLength_7cf53 49 = .ok (.iload_n 2, 1) := by decide +kernel
theorem dJ8_hugeLength_7cf53_50 : decode cJ8_hugeLength_7cf53 50 = .ok (.ldc 200, 2) := by decide +kernel
theorem dJ8_hugeLength_7cf53_52 : decode cJ8_hugeLength_7cf53 52 = .ok (.if_icmp .gt 6, 3) := by decide +kernel
theorem dJ8_hugeLength_7cf53_55 : decode cJ8_hugeLength_7cf53 55 = .ok (.ldc 200, 2) := by decide +kernel
theorem dJ8_hugeLength_7cf53_57 : decode cJ8_hugeLength_7cf53 57 = .ok (.ireturn, 1) := by decide +kernel
theorem dJ8_hugeLength_7cf53_58 : decode cJ8_hugeLength_7cf53 58 = .ok (.iload_n 2, 1) := by decide +kernel
theorem dJ8_hugeLength_7cf53_59 : decode cJ8_hugeLength_7cf53 59 = .ok (.ireturn, 1) := by decide +kernel
theorem dJ3_checkIndex_8e157_0 : decode cJ3_checkIndex_8e157 0 = .ok (.iload_n 0, 1) := by decide +kernel
theorem dJ3_checkIndex_8e157_1 : decode cJ3_checkIndex_8e157 1 = .ok (.ifCond .lt 8, 3) := by decide +kernel
theorem dJ3_checkIndex_8e157_4 : decode cJ3_checkIndex_8e157 4 = .ok (.iload_n 0, 1) := by decide +kernel
theorem dJ3_checkIndex_8e157_5 : decode cJ3_checkIndex_8e157 5 = .ok (.iload_n 1, 1) := by decide +kernel
theorem dJ3_checkIndex_8e157_6 : decode cJ3_checkIndex_8e157 6 = .ok (.if_icmp .lt 10, 3) := by decide +kernel
theorem dJ3_checkIndex_8e157_9 : decode cJ3_checkIndex_8e157 9 = .ok (.aload_n 2, 1) := by decide +kernel
theorem dJ3_checkIndex_8e157_10 : decode cJ3_checkIndex_8e157 10 = .ok (.iload_n 0, 1) := by decide +kernel
theorem dJ3_checkIndex_8e157_11 : decode cJ3_checkIndex_8e157 11 = .ok (.iload_n 1, 1) := by decide +kernel
theorem dJ3_checkIndex_8e157_12 : decode cJ3_checkIndex_8e157 12 = .ok (.invokestatic 95, 3) := by decide +kernel
theorem dJ3_checkIndex_8e157_15 : decode cJ3_checkIndex_8e157 15 = .ok (.athrow, 1) := by decide +kernel
theorem dJ3_checkIndex_8e157_16 : decode cJ3_checkIndex_8e157 16 = .ok (.iload_n 0, 1) := by decide +kernel
theorem dJ3_checkIndex_8e157_17 : decode cJ3_checkIndex_8e157 17 = .ok (.ireturn, 1) := by decide +kernel
