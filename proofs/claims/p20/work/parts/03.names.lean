def RX0 : String := "RhymeTax$Flow"
def TX0 : u_T := fun k => match k with
  | 0 => ("RhymeTax$Flow", "cells", "[J", true)
  | _ => ("RhymeTax$Flow", "end", "I", false)
def tyX0 : Nat → FieldType := fun k => match k with
  | 0 => .array .long
  | _ => .int
abbrev wsX00 : List Cond := u_ws RX0 TX0 2
theorem nmX0 : ∀ a, a < 2 → ∀ b, b < 2 → a ≠ b → (TX0 a).2.1 ≠ (TX0 b).2.1 := by decide +kernel
theorem tyX0_ok : ∀ k, k < 2 → parseFieldDescriptor (TX0 k).2.2.1 = some (tyX0 k) := by decide +kernel
abbrev cX0_init : ByteArray := prog_2_method_1_code
def yX0_init : MethodName := ⟨RX0, "<init>", "()V"⟩
abbrev cX0_cutBehind : ByteArray := prog_2_method_2_code
def yX0_cutBehind : MethodName := ⟨RX0, "cutBehind", "(I)V"⟩
abbrev cX0_add : ByteArray := prog_2_method_3_code
def yX0_add : MethodName := ⟨RX0, "add", "(JI)V"⟩
abbrev cX0_read : ByteArray := prog_2_method_4_code
def yX0_read : MethodName := ⟨RX0, "read", "(II)J"⟩
abbrev cX0_addTo : ByteArray := prog_2_method_5_code
def yX0_addTo : MethodName := ⟨RX0, "addTo", "(IJ)V"⟩
abbrev cX0_cellAt : ByteArray := prog_2_method_6_code
def yX0_cellAt : MethodName := ⟨RX0, "cellAt", "(I)J"⟩
def RX1 : String := "RhymeTax$Line"
def TX1 : u_T := fun k => match k with
  | 0 => ("RhymeTax$Line", "metre", "I", true)
  | 1 => ("RhymeTax$Line", "feet", "I", true)
  | 2 => ("RhymeTax$Line", "mark", "I", true)
  | 3 => ("RhymeTax$Line", "partner", "LRhymeTax$Line;", true)
  | 4 => ("RhymeTax$Line", "row", "Ljava/util/ArrayList;", true)
  | 5 => ("RhymeTax$Line", "ownStress", "J", false)
  | 6 => ("RhymeTax$Line", "own", "I", false)
  | 7 => ("RhymeTax$Line", "melted", "I", false)
  | 8 => ("RhymeTax$Line", "start", "I", false)
  | 9 => ("RhymeTax$Line", "carried", "I", false)
  | 10 => ("RhymeTax$Line", "stays", "I", false)
  | 11 => ("RhymeTax$Line", "over", "I", false)
  | 12 => ("RhymeTax$Line", "staying", "J", false)
  | 13 => ("RhymeTax$Line", "off", "I", false)
  | 14 => ("RhymeTax$Line", "lacks", "I", false)
  | 15 => ("RhymeTax$Line", "paid", "I", false)
  | _ => ("RhymeTax$Line", "tax", "I", false)
def tyX1 : Nat → FieldType := fun k => match k with
  | 0 => .int
  | 1 => .int
  | 2 => .int
  | 3 => .object "RhymeTax$Line"
  | 4 => .object "java/util/ArrayList"
  | 5 => .long
  | 6 => .int
  | 7 => .int
  | 8 => .int
  | 9 => .int
  | 10 => .int
  | 11 => .int
  | 12 => .long
  | 13 => .int
  | 14 => .int
  | 15 => .int
  | _ => .int
abbrev wsX10 : List Cond := u_ws RX1 TX1 17
theorem nmX1 : ∀ a, a < 17 → ∀ b, b < 17 → a ≠ b → (TX1 a).2.1 ≠ (TX1 b).2.1 := by decide +kernel
theorem tyX1_ok : ∀ k, k < 17 → parseFieldDescriptor (TX1 k).2.2.1 = some (tyX1 k) := by decide +kernel
abbrev cX1_init : ByteArray := prog_3_method_1_code
def yX1_init : MethodName := ⟨RX1, "<init>", "(IIILRhymeTax$Line;)V"⟩
abbrev cX1_lastWord : ByteArray := prog_3_method_2_code
def yX1_lastWord : MethodName := ⟨RX1, "lastWord", "()LRhymeTax$Word;"⟩
abbrev cX1_usesOf : ByteArray := prog_3_method_3_code
def yX1_usesOf : MethodName := ⟨RX1, "usesOf", "(LRhymeTax$Word;)I"⟩
abbrev cX1_addWord : ByteArray := prog_3_method_4_code
def yX1_addWord : MethodName := ⟨RX1, "addWord", "(LRhymeTax$Word;)V"⟩
abbrev cX1_replaceWord : ByteArray := prog_3_method_5_code
def yX1_replaceWord : MethodName := ⟨RX1, "replaceWord", "(ILRhymeTax$Word;)V"⟩
abbrev cX1_dropLast : ByteArray := prog_3_method_6_code
def yX1_dropLast : MethodName := ⟨RX1, "dropLast", "()V"⟩
abbrev cX1_joinWords : ByteArray := prog_3_method_7_code
def yX1_joinWords : MethodName := ⟨RX1, "joinWords", "()V"⟩
abbrev cX1_scanIn : ByteArray := prog_3_method_8_code
def yX1_scanIn : MethodName := ⟨RX1, "scanIn", "(LRhymeTax$Flow;I)V"⟩
abbrev cX1_payRhyme : ByteArray := prog_3_method_9_code
def yX1_payRhyme : MethodName := ⟨RX1, "payRhyme", "(I)V"⟩
abbrev cX1_faultsBy : ByteArray := prog_3_method_10_code
def yX1_faultsBy : MethodName := ⟨RX1, "faultsBy", "(ILRhymeTax$Flow;)I"⟩
abbrev cX1_offBy : ByteArray := prog_3_method_11_code
def yX1_offBy : MethodName := ⟨RX1, "offBy", "(IJI)I"⟩
abbrev cX1_isFaultless : ByteArray := prog_3_method_12_code
def yX1_isFaultless : MethodName := ⟨RX1, "isFaultless", "()Z"⟩
abbrev cX1_stressAt : ByteArray := prog_3_method_13_code
def yX1_stressAt : MethodName := ⟨RX1, "stressAt", "(I)I"⟩
abbrev cX1_tells : ByteArray := prog_3_method_14_code
def yX1_tells : MethodName := ⟨RX1, "tells", "(I)I"⟩
def RX2 : String := "RhymeTax$Word"
def TX2 : u_T := fun k => match k with
  | 0 => ("RhymeTax$Word", "number", "I", true)
  | 1 => ("RhymeTax$Word", "syllables", "I", true)
  | 2 => ("RhymeTax$Word", "stress", "I", true)
  | 3 => ("RhymeTax$Word", "vowel", "I", true)
  | 4 => ("RhymeTax$Word", "end", "I", true)
  | _ => ("RhymeTax$Word", "open", "Z", true)
def tyX2 : Nat → FieldType := fun k => match k with
  | 0 => .int
  | 1 => .int
  | 2 => .int
  | 3 => .int
  | 4 => .int
  | _ => .boolean
abbrev wsX20 : List Cond := u_ws RX2 TX2 6
theorem nmX2 : ∀ a, a < 6 → ∀ b, b < 6 → a ≠ b → (TX2 a).2.1 ≠ (TX2 b).2.1 := by decide +kernel
theorem tyX2_ok : ∀ k, k < 6 → parseFieldDescriptor (TX2 k).2.2.1 = some (tyX2 k) := by decide +kernel
abbrev cX2_init : ByteArray := prog_4_method_1_code
def yX2_init : MethodName := ⟨RX2, "<init>", "(IIIIIZ)V"⟩
abbrev cX2_meltsInto : ByteArray := prog_4_method_2_code
def yX2_meltsInto : MethodName := ⟨RX2, "meltsInto", "(LRhymeTax$Word;)Z"⟩
abbrev cX2_lastStress : ByteArray := prog_4_method_3_code
def yX2_lastStress : MethodName := ⟨RX2, "lastStress", "()I"⟩
abbrev cX2_rhymeWith : ByteArray := prog_4_method_4_code
def yX2_rhymeWith : MethodName := ⟨RX2, "rhymeWith", "(LRhymeTax$Word;)I"⟩
def RX3 : String := "RhymeTax"
def TX3 : u_T := fun k => match k with
  | 0 => ("RhymeTax", "words", "Ljava/util/ArrayList;", true)
  | 1 => ("RhymeTax", "lines", "Ljava/util/ArrayList;", true)
  | _ => ("RhymeTax", "flow", "LRhymeTax$Flow;", true)
def tyX3 : Nat → FieldType := fun k => match k with
  | 0 => .object "java/util/ArrayList"
  | 1 => .object "java/util/ArrayList"
  | _ => .object "RhymeTax$Flow"
abbrev wsX30 : List Cond := u_ws RX3 TX3 3
theorem nmX3 : ∀ a, a < 3 → ∀ b, b < 3 → a ≠ b → (TX3 a).2.1 ≠ (TX3 b).2.1 := by decide +kernel
theorem tyX3_ok : ∀ k, k < 3 → parseFieldDescriptor (TX3 k).2.2.1 = some (tyX3 k) := by decide +kernel
abbrev cX3_init : ByteArray := prog_1_method_1_code
def yX3_init : MethodName := ⟨RX3, "<init>", "()V"⟩
abbrev cX3_word : ByteArray := prog_1_method_2_code
def yX3_word : MethodName := ⟨RX3, "word", "(IIIIZ)I"⟩
abbrev cX3_about : ByteArray := prog_1_method_3_code
def yX3_about : MethodName := ⟨RX3, "about", "(II)I"⟩
abbrev cX3_line : ByteArray := prog_1_method_4_code
def yX3_line : MethodName := ⟨RX3, "line", "(III)I"⟩
abbrev cX3_write : ByteArray := prog_1_method_5_code
def yX3_write : MethodName := ⟨RX3, "write", "(III)I"⟩
abbrev cX3_strike : ByteArray := prog_1_method_6_code
def yX3_strike : MethodName := ⟨RX3, "strike", "(I)I"⟩
abbrev cX3_written : ByteArray := prog_1_method_7_code
def yX3_written : MethodName := ⟨RX3, "written", "(II)I"⟩
abbrev cX3_told : ByteArray := prog_1_method_8_code
def yX3_told : MethodName := ⟨RX3, "told", "(II)I"⟩
abbrev cX3_stress : ByteArray := prog_1_method_9_code
def yX3_stress : MethodName := ⟨RX3, "stress", "(II)I"⟩
abbrev cX3_scans : ByteArray := prog_1_method_12_code
def yX3_scans : MethodName := ⟨RX3, "scans", "(I)I"⟩
abbrev cX3_count : ByteArray := prog_1_method_13_code
def yX3_count : MethodName := ⟨RX3, "count", "(I)I"⟩
abbrev cX3_tries : ByteArray := prog_1_method_14_code
def yX3_tries : MethodName := ⟨RX3, "tries", "(III)I"⟩
abbrev cX3_best : ByteArray := prog_1_method_15_code
def yX3_best : MethodName := ⟨RX3, "best", "(II)I"⟩
abbrev cX3_worst : ByteArray := prog_1_method_16_code
def yX3_worst : MethodName := ⟨RX3, "worst", "()I"⟩
abbrev cX3_mean : ByteArray := prog_1_method_17_code
def yX3_mean : MethodName := ⟨RX3, "mean", "()D"⟩
abbrev cX3_digest : ByteArray := prog_1_method_18_code
def yX3_digest : MethodName := ⟨RX3, "digest", "()J"⟩
abbrev cX3_mixLine : ByteArray := prog_1_method_19_code
def yX3_mixLine : MethodName := ⟨RX3, "mixLine", "(JLRhymeTax$Line;)J"⟩
abbrev cX3_mix : ByteArray := prog_1_method_20_code
def yX3_mix : MethodName := ⟨RX3, "mix", "(JJ)J"⟩
abbrev cX3_isBelow : ByteArray := prog_1_method_21_code
def yX3_isBelow : MethodName := ⟨RX3, "isBelow", "(II)Z"⟩
abbrev cX3_refuseOutside : ByteArray := prog_1_method_22_code
def yX3_refuseOutside : MethodName := ⟨RX3, "refuseOutside", "(II)V"⟩
abbrev cX3_neededWord : ByteArray := prog_1_method_23_code
def yX3_neededWord : MethodName := ⟨RX3, "neededWord", "(I)LRhymeTax$Word;"⟩
abbrev cX3_neededLine : ByteArray := prog_1_method_24_code
def yX3_neededLine : MethodName := ⟨RX3, "neededLine", "(I)LRhymeTax$Line;"⟩
abbrev cX3_neededWordOf : ByteArray := prog_1_method_25_code
def yX3_neededWordOf : MethodName := ⟨RX3, "neededWordOf", "(LRhymeTax$Line;I)LRhymeTax$Word;"⟩
abbrev cX3_lastWithMark : ByteArray := prog_1_method_26_code
def yX3_lastWithMark : MethodName := ⟨RX3, "lastWithMark", "(I)LRhymeTax$Line;"⟩
abbrev cX3_aboutWord : ByteArray := prog_1_method_27_code
def yX3_aboutWord : MethodName := ⟨RX3, "aboutWord", "(LRhymeTax$Word;I)I"⟩
abbrev cX3_usesOf : ByteArray := prog_1_method_28_code
def yX3_usesOf : MethodName := ⟨RX3, "usesOf", "(LRhymeTax$Word;)I"⟩
abbrev cX3_countAll : ByteArray := prog_1_method_29_code
def yX3_countAll : MethodName := ⟨RX3, "countAll", "(I)I"⟩
abbrev cX3_countInLines : ByteArray := prog_1_method_30_code
def yX3_countInLines : MethodName := ⟨RX3, "countInLines", "(I)I"⟩
abbrev cX3_lost : ByteArray := prog_1_method_31_code
def yX3_lost : MethodName := ⟨RX3, "lost", "()I"⟩
abbrev cX3_allTaxes : ByteArray := prog_1_method_32_code
def yX3_allTaxes : MethodName := ⟨RX3, "allTaxes", "()I"⟩
abbrev cX3_rhymeBetween : ByteArray := prog_1_method_33_code
def yX3_rhymeBetween : MethodName := ⟨RX3, "rhymeBetween", "(LRhymeTax$Line;LRhymeTax$Line;)I"⟩
abbrev cX3_replaceWord : ByteArray := prog_1_method_34_code
def yX3_replaceWord : MethodName := ⟨RX3, "replaceWord", "(IILRhymeTax$Word;)V"⟩
abbrev cX3_taxesWith : ByteArray := prog_1_method_35_code
def yX3_taxesWith : MethodName := ⟨RX3, "taxesWith", "(IILRhymeTax$Word;LRhymeTax$Word;)I"⟩
abbrev cX3_bestWord : ByteArray := prog_1_method_36_code
def yX3_bestWord : MethodName := ⟨RX3, "bestWord", "(IILRhymeTax$Word;)LRhymeTax$Word;"⟩
abbrev cX3_scanFrom : ByteArray := prog_1_method_37_code
def yX3_scanFrom : MethodName := ⟨RX3, "scanFrom", "(I)V"⟩
abbrev cX3_lowBits : ByteArray := prog_1_method_38_code
def yX3_lowBits : MethodName := ⟨RX3, "lowBits", "(I)J"⟩
abbrev cX3_footSize : ByteArray := prog_1_method_39_code
def yX3_footSize : MethodName := ⟨RX3, "footSize", "(I)I"⟩
abbrev cX3_askedBy : ByteArray := prog_1_method_40_code
def yX3_askedBy : MethodName := ⟨RX3, "askedBy", "(I)J"⟩
def RX4 : String := "RhymeTaxModel"
def TX4 : u_T := fun k => match k with
  | _ => ("", "", "", false)
def tyX4 : Nat → FieldType := fun k => match k with
  | _ => .int
abbrev wsX40 : List Cond := u_ws RX4 TX4 0
theorem nmX4 : ∀ a, a < 0 → ∀ b, b < 0 → a ≠ b → (TX4 a).2.1 ≠ (TX4 b).2.1 := by decide +kernel
theorem tyX4_ok : ∀ k, k < 0 → parseFieldDescriptor (TX4 k).2.2.1 = some (tyX4 k) := by decide +kernel
def RJx145de : String := "java/io/Serializable"
def TJx145de : u_T := fun k => match k with
  | _ => ("", "", "", false)
def tyJx145de : Nat → FieldType := fun k => match k with
  | _ => .int
abbrev wsJx145de0 : List Cond := u_ws RJx145de TJx145de 0
theorem nmJx145de : ∀ a, a < 0 → ∀ b, b < 0 → a ≠ b → (TJx145de a).2.1 ≠ (TJx145de b).2.1 := by decide +kernel
theorem tyJx145de_ok : ∀ k, k < 0 → parseFieldDescriptor (TJx145de k).2.2.1 = some (tyJx145de k) := by decide +kernel
def RJx8e188 : String := "java/lang/Cloneable"
def TJx8e188 : u_T := fun k => match k with
  | _ => ("", "", "", false)
def tyJx8e188 : Nat → FieldType := fun k => match k with
  | _ => .int
abbrev wsJx8e1880 : List Cond := u_ws RJx8e188 TJx8e188 0
theorem nmJx8e188 : ∀ a, a < 0 → ∀ b, b < 0 → a ≠ b → (TJx8e188 a).2.1 ≠ (TJx8e188 b).2.1 := by decide +kernel
theorem tyJx8e188_ok : ∀ k, k < 0 → parseFieldDescriptor (TJx8e188 k).2.2.1 = some (tyJx8e188 k) := by decide +kernel
def RJxab1ab : String := "java/lang/Iterable"
def TJxab1ab : u_T := fun k => match k with
  | _ => ("", "", "", false)
def tyJxab1ab : Nat → FieldType := fun k => match k with
  | _ => .int
abbrev wsJxab1ab0 : List Cond := u_ws RJxab1ab TJxab1ab 0
theorem nmJxab1ab : ∀ a, a < 0 → ∀ b, b < 0 → a ≠ b → (TJxab1ab a).2.1 ≠ (TJxab1ab b).2.1 := by decide +kernel
theorem tyJxab1ab_ok : ∀ k, k < 0 → parseFieldDescriptor (TJxab1ab k).2.2.1 = some (tyJxab1ab k) := by decide +kernel
def RJ13 : String := "java/lang/Long"
def TJ13 : u_T := fun k => match k with
  | _ => ("", "", "", false)
def tyJ13 : Nat → FieldType := fun k => match k with
  | _ => .int
abbrev wsJ130 : List Cond := u_ws RJ13 TJ13 0
theorem nmJ13 : ∀ a, a < 0 → ∀ b, b < 0 → a ≠ b → (TJ13 a).2.1 ≠ (TJ13 b).2.1 := by decide +kernel
theorem tyJ13_ok : ∀ k, k < 0 → parseFieldDescriptor (TJ13 k).2.2.1 = some (tyJ13 k) := by decide +kernel
abbrev cJ13_bitCount_95d88 : ByteArray := prog_14_method_50_code
def yJ13_bitCount_95d88 : MethodName := ⟨RJ13, "bitCount", "(J)I"⟩
def RJ9 : String := "java/lang/Math"
def TJ9 : u_T := fun k => match k with
  | _ => ("", "", "", false)
def tyJ9 : Nat → FieldType := fun k => match k with
  | _ => .int
abbrev wsJ90 : List Cond := u_ws RJ9 TJ9 0
theorem nmJ9 : ∀ a, a < 0 → ∀ b, b < 0 → a ≠ b → (TJ9 a).2.1 ≠ (TJ9 b).2.1 := by decide +kernel
theorem tyJ9_ok : ∀ k, k < 0 → parseFieldDescriptor (TJ9 k).2.2.1 = some (tyJ9 k) := by decide +kernel
abbrev cJ9_max_7cf53 : ByteArray := prog_15_method_65_code
def yJ9_max_7cf53 : MethodName := ⟨RJ9, "max", "(II)I"⟩
abbrev cJ9_min_7cf53 : ByteArray := prog_15_method_69_code
def yJ9_min_7cf53 : MethodName := ⟨RJ9, "min", "(II)I"⟩
def RJ0 : String := "java/lang/String"
def TJ0 : u_T := fun k => match k with
  | _ => ("", "", "", false)
def tyJ0 : Nat → FieldType := fun k => match k with
  | _ => .int
abbrev wsJ00 : List Cond := u_ws RJ0 TJ0 0
theorem nmJ0 : ∀ a, a < 0 → ∀ b, b < 0 → a ≠ b → (TJ0 a).2.1 ≠ (TJ0 b).2.1 := by decide +kernel
theorem tyJ0_ok : ∀ k, k < 0 → parseFieldDescriptor (TJ0 k).2.2.1 = some (tyJ0 k) := by decide +kernel
def RJ10 : String := "java/lang/System"
def TJ10 : u_T := fun k => match k with
  | _ => ("", "", "", false)
def tyJ10 : Nat → FieldType := fun k => match k with
  | _ => .int
abbrev wsJ100 : List Cond := u_ws RJ10 TJ10 0
theorem nmJ10 : ∀ a, a < 0 → ∀ b, b < 0 → a ≠ b → (TJ10 a).2.1 ≠ (TJ10 b).2.1 := by decide +kernel
theorem tyJ10_ok : ∀ k, k < 0 → parseFieldDescriptor (TJ10 k).2.2.1 = some (tyJ10 k) := by decide +kernel
def RJxa1e45 : String := "java/util/AbstractCollection"
def TJxa1e45 : u_T := fun k => match k with
  | _ => ("", "", "", false)
def tyJxa1e45 : Nat → FieldType := fun k => match k with
  | _ => .int
abbrev wsJxa1e450 : List Cond := u_ws RJxa1e45 TJxa1e45 0
theorem nmJxa1e45 : ∀ a, a < 0 → ∀ b, b < 0 → a ≠ b → (TJxa1e45 a).2.1 ≠ (TJxa1e45 b).2.1 := by decide +kernel
theorem tyJxa1e45_ok : ∀ k, k < 0 → parseFieldDescriptor (TJxa1e45 k).2.2.1 = some (tyJxa1e45 k) := by decide +kernel
abbrev cJxa1e45_init_da8c8 : ByteArray := prog_20_method_1_code
def yJxa1e45_init_da8c8 : MethodName := ⟨RJxa1e45, "<init>", "()V"⟩
def RJxc12de : String := "java/util/AbstractList"
def TJxc12de : u_T := fun k => match k with
  | _ => ("", "", "", false)
def tyJxc12de : Nat → FieldType := fun k => match k with
  | _ => .int
abbrev wsJxc12de0 : List Cond := u_ws RJxc12de TJxc12de 0
theorem nmJxc12de : ∀ a, a < 0 → ∀ b, b < 0 → a ≠ b → (TJxc12de a).2.1 ≠ (TJxc12de b).2.1 := by decide +kernel
theorem tyJxc12de_ok : ∀ k, k < 0 → parseFieldDescriptor (TJxc12de k).2.2.1 = some (tyJxc12de k) := by decide +kernel
abbrev cJxc12de_init_da8c8 : ByteArray := prog_21_method_1_code
def yJxc12de_init_da8c8 : MethodName := ⟨RJxc12de, "<init>", "()V"⟩
def RJx4a65c : String := "java/util/ArrayList"
def TJx4a65c : u_T := fun k => match k with
  | 0 => ("java/util/AbstractList", "modCount", "I", false)
  | 1 => ("java/util/ArrayList", "elementData", "[Ljava/lang/Object;", false)
  | _ => ("java/util/ArrayList", "size", "I", false)
def tyJx4a65c : Nat → FieldType := fun k => match k with
  | 0 => .int
  | 1 => .array (.object "java/lang/Object")
  | _ => .int
abbrev wsJx4a65c0 : List Cond := u_ws RJx4a65c TJx4a65c 3
theorem nmJx4a65c : ∀ a, a < 3 → ∀ b, b < 3 → a ≠ b → (TJx4a65c a).2.1 ≠ (TJx4a65c b).2.1 := by decide +kernel
theorem tyJx4a65c_ok : ∀ k, k < 3 → parseFieldDescriptor (TJx4a65c k).2.2.1 = some (tyJx4a65c k) := by decide +kernel
abbrev cJx4a65c_init_da8c8 : ByteArray := prog_22_method_2_code
def yJx4a65c_init_da8c8 : MethodName := ⟨RJx4a65c, "<init>", "()V"⟩
abbrev cJx4a65c_grow_92f84 : ByteArray := prog_22_method_6_code
def yJx4a65c_grow_92f84 : MethodName := ⟨RJx4a65c, "grow", "(I)[Ljava/lang/Object;"⟩
abbrev cJx4a65c_grow_d5877 : ByteArray := prog_22_method_7_code
def yJx4a65c_grow_d5877 : MethodName := ⟨RJx4a65c, "grow", "()[Ljava/lang/Object;"⟩
abbrev cJx4a65c_size_8abf5 : ByteArray := prog_22_method_8_code
def yJx4a65c_size_8abf5 : MethodName := ⟨RJx4a65c, "size", "()I"⟩
abbrev cJx4a65c_isEmpty_aae02 : ByteArray := prog_22_method_9_code
def yJx4a65c_isEmpty_aae02 : MethodName := ⟨RJx4a65c, "isEmpty", "()Z"⟩
abbrev cJx4a65c_elementData_915e3 : ByteArray := prog_22_method_18_code
def yJx4a65c_elementData_915e3 : MethodName := ⟨RJx4a65c, "elementData", "(I)Ljava/lang/Object;"⟩
abbrev cJx4a65c_get_915e3 : ByteArray := prog_22_method_20_code
def yJx4a65c_get_915e3 : MethodName := ⟨RJx4a65c, "get", "(I)Ljava/lang/Object;"⟩
abbrev cJx4a65c_set_bcc79 : ByteArray := prog_22_method_23_code
def yJx4a65c_set_bcc79 : MethodName := ⟨RJx4a65c, "set", "(ILjava/lang/Object;)Ljava/lang/Object;"⟩
abbrev cJx4a65c_add_72be8 : ByteArray := prog_22_method_24_code
def yJx4a65c_add_72be8 : MethodName := ⟨RJx4a65c, "add", "(Ljava/lang/Object;[Ljava/lang/Object;I)V"⟩
abbrev cJx4a65c_add_9ea2d : ByteArray := prog_22_method_25_code
def yJx4a65c_add_9ea2d : MethodName := ⟨RJx4a65c, "add", "(Ljava/lang/Object;)Z"⟩
abbrev cJx4a65c_remove_915e3 : ByteArray := prog_22_method_29_code
def yJx4a65c_remove_915e3 : MethodName := ⟨RJx4a65c, "remove", "(I)Ljava/lang/Object;"⟩
abbrev cJx4a65c_fastRemove_b59b0 : ByteArray := prog_22_method_39_code
def yJx4a65c_fastRemove_b59b0 : MethodName := ⟨RJx4a65c, "fastRemove", "([Ljava/lang/Object;I)V"⟩
def RJ7 : String := "java/util/Arrays"
def TJ7 : u_T := fun k => match k with
  | _ => ("", "", "", false)
def tyJ7 : Nat → FieldType := fun k => match k with
  | _ => .int
abbrev wsJ70 : List Cond := u_ws RJ7 TJ7 0
theorem nmJ7 : ∀ a, a < 0 → ∀ b, b < 0 → a ≠ b → (TJ7 a).2.1 ≠ (TJ7 b).2.1 := by decide +kernel
theorem tyJ7_ok : ∀ k, k < 0 → parseFieldDescriptor (TJ7 k).2.2.1 = some (tyJ7 k) := by decide +kernel
abbrev cJ7_copyOf_1904c : ByteArray := prog_23_method_119_code
def yJ7_copyOf_1904c : MethodName := ⟨RJ7, "copyOf", "([Ljava/lang/Object;I)[Ljava/lang/Object;"⟩
abbrev cJ7_copyOf_6403c : ByteArray := prog_23_method_120_code
def yJ7_copyOf_6403c : MethodName := ⟨RJ7, "copyOf", "([Ljava/lang/Object;ILjava/lang/Class;)[Ljava/lang/Object;"⟩
def RJx5ef63 : String := "java/util/Collection"
def TJx5ef63 : u_T := fun k => match k with
  | _ => ("", "", "", false)
def tyJx5ef63 : Nat → FieldType := fun k => match k with
  | _ => .int
abbrev wsJx5ef630 : List Cond := u_ws RJx5ef63 TJx5ef63 0
theorem nmJx5ef63 : ∀ a, a < 0 → ∀ b, b < 0 → a ≠ b → (TJx5ef63 a).2.1 ≠ (TJx5ef63 b).2.1 := by decide +kernel
theorem tyJx5ef63_ok : ∀ k, k < 0 → parseFieldDescriptor (TJx5ef63 k).2.2.1 = some (tyJx5ef63 k) := by decide +kernel
def RJxbd725 : String := "java/util/List"
def TJxbd725 : u_T := fun k => match k with
  | _ => ("", "", "", false)
def tyJxbd725 : Nat → FieldType := fun k => match k with
  | _ => .int
abbrev wsJxbd7250 : List Cond := u_ws RJxbd725 TJxbd725 0
theorem nmJxbd725 : ∀ a, a < 0 → ∀ b, b < 0 → a ≠ b → (TJxbd725 a).2.1 ≠ (TJxbd725 b).2.1 := by decide +kernel
theorem tyJxbd725_ok : ∀ k, k < 0 → parseFieldDescriptor (TJxbd725 k).2.2.1 = some (tyJxbd725 k) := by decide +kernel
def RJ15 : String := "java/util/Objects"
def TJ15 : u_T := fun k => match k with
  | _ => ("", "", "", false)
def tyJ15 : Nat → FieldType := fun k => match k with
  | _ => .int
abbrev wsJ150 : List Cond := u_ws RJ15 TJ15 0
theorem nmJ15 : ∀ a, a < 0 → ∀ b, b < 0 → a ≠ b → (TJ15 a).2.1 ≠ (TJ15 b).2.1 := by decide +kernel
theorem tyJ15_ok : ∀ k, k < 0 → parseFieldDescriptor (TJ15 k).2.2.1 = some (tyJ15 k) := by decide +kernel
abbrev cJ15_checkIndex_7cf53 : ByteArray := prog_26_method_17_code
def yJ15_checkIndex_7cf53 : MethodName := ⟨RJ15, "checkIndex", "(II)I"⟩
def RJxf0a74 : String := "java/util/RandomAccess"
def TJxf0a74 : u_T := fun k => match k with
  | _ => ("", "", "", false)
def tyJxf0a74 : Nat → FieldType := fun k => match k with
  | _ => .int
abbrev wsJxf0a740 : List Cond := u_ws RJxf0a74 TJxf0a74 0
theorem nmJxf0a74 : ∀ a, a < 0 → ∀ b, b < 0 → a ≠ b → (TJxf0a74 a).2.1 ≠ (TJxf0a74 b).2.1 := by decide +kernel
theorem tyJxf0a74_ok : ∀ k, k < 0 → parseFieldDescriptor (TJxf0a74 k).2.2.1 = some (tyJxf0a74 k) := by decide +kernel
def RJxa66e6 : String := "java/util/SequencedCollection"
def TJxa66e6 : u_T := fun k => match k with
  | _ => ("", "", "", false)
def tyJxa66e6 : Nat → FieldType := fun k => match k with
  | _ => .int
abbrev wsJxa66e60 : List Cond := u_ws RJxa66e6 TJxa66e6 0
theorem nmJxa66e6 : ∀ a, a < 0 → ∀ b, b < 0 → a ≠ b → (TJxa66e6 a).2.1 ≠ (TJxa66e6 b).2.1 := by decide +kernel
theorem tyJxa66e6_ok : ∀ k, k < 0 → parseFieldDescriptor (TJxa66e6 k).2.2.1 = some (tyJxa66e6 k) := by decide +kernel
def RJ8 : String := "jdk/internal/util/ArraysSupport"
def TJ8 : u_T := fun k => match k with
  | _ => ("", "", "", false)
def tyJ8 : Nat → FieldType := fun k => match k with
  | _ => .int
abbrev wsJ80 : List Cond := u_ws RJ8 TJ8 0
theorem nmJ8 : ∀ a, a < 0 → ∀ b, b < 0 → a ≠ b → (TJ8 a).2.1 ≠ (TJ8 b).2.1 := by decide +kernel
theorem tyJ8_ok : ∀ k, k < 0 → parseFieldDescriptor (TJ8 k).2.2.1 = some (tyJ8 k) := by decide +kernel
abbrev cJ8_newLength_cabcc : ByteArray := prog_29_method_27_code
def yJ8_newLength_cabcc : MethodName := ⟨RJ8, "newLength", "(III)I"⟩
abbrev cJ8_hugeLength_7cf53 : ByteArray := prog_29_method_28_code
def yJ8_hugeLength_7cf53 : MethodName := ⟨RJ8, "hugeLength", "(II)I"⟩
def RJ3 : String := "jdk/internal/util/Preconditions"
def TJ3 : u_T := fun k => match k with
  | _ => ("", "", "", false)
def tyJ3 : Nat → FieldType := fun k => match k with
  | _ => .int
abbrev wsJ30 : List Cond := u_ws RJ3 TJ3 0
theorem nmJ3 : ∀ a, a < 0 → ∀ b, b < 0 → a ≠ b → (TJ3 a).2.1 ≠ (TJ3 b).2.1 := by decide +kernel
theorem tyJ3_ok : ∀ k, k < 0 → parseFieldDescriptor (TJ3 k).2.2.1 = some (tyJ3 k) := by decide +kernel
abbrev cJ3_checkIndex_8e157 : ByteArray := prog_30_method_11_code
def yJ3_checkIndex_8e157 : MethodName := ⟨RJ3, "checkIndex", "(IILjava/util/function/BiFunction;)I"⟩
def RL : String := "RhymeTaxLaw"
abbrev cL_below : ByteArray := method_2_code
def yL_below : MethodName := ⟨RL, "below", "(II)I"⟩
abbrev cL_cell : ByteArray := method_3_code
def yL_cell : MethodName := ⟨RL, "cell", "([II)I"⟩
abbrev cL_poem : ByteArray := method_4_code
def yL_poem : MethodName := ⟨RL, "poem", "([I)LRhymeTax;"⟩
abbrev cL_law : ByteArray := code
def yL_law : MethodName := ⟨RL, "law", "([I)Z"⟩
abbrev cL_sum : ByteArray := method_6_code
def yL_sum : MethodName := ⟨RL, "sum", "(LRhymeTax;)I"⟩
abbrev vwCl : List vw_C := [(RJx4a65c, TJx4a65c, 3), (RX0, TX0, 2), (RX1, TX1, 17), (RX2, TX2, 6), (RX3, TX3, 3)]
