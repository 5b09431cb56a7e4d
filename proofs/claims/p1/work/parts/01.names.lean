/-! ===== BEGIN printed: names, fields, word lists, decode rows ===== -/
def RX0 : String := "Versorhall$Algebra"
def TX0 : u_T := fun k => match k with
  | 0 => ("Versorhall$Algebra", "number", "I", true)
  | 1 => ("Versorhall$Algebra", "kind", "I", true)
  | 2 => ("Versorhall$Algebra", "prime", "I", true)
  | 3 => ("Versorhall$Algebra", "dialCount", "I", false)
  | 4 => ("Versorhall$Algebra", "units", "I", false)
  | 5 => ("Versorhall$Algebra", "elementCount", "I", false)
  | 6 => ("Versorhall$Algebra", "mirrors", "LVersorhall$Pile;", true)
  | 7 => ("Versorhall$Algebra", "dials", "[I", true)
  | 8 => ("Versorhall$Algebra", "signs", "[I", true)
  | 9 => ("Versorhall$Algebra", "firstBreaks", "[I", true)
  | _ => ("Versorhall$Algebra", "gathered", "LVersorhall$Row;", true)
def tyX0 : Nat → FieldType := fun k => match k with
  | 0 => .int
  | 1 => .int
  | 2 => .int
  | 3 => .int
  | 4 => .int
  | 5 => .int
  | 6 => .object "Versorhall$Pile"
  | 7 => .array .int
  | 8 => .array .int
  | 9 => .array .int
  | _ => .object "Versorhall$Row"
abbrev wsX00 : List Cond := u_ws RX0 TX0 11
theorem nmX0 : ∀ a, a < 11 → ∀ b, b < 11 → a ≠ b → (TX0 a).2.1 ≠ (TX0 b).2.1 := by decide +kernel
theorem tyX0_ok : ∀ k, k < 11 → parseFieldDescriptor (TX0 k).2.2.1 = some (tyX0 k) := by decide +kernel
abbrev cX0_init : ByteArray := prog_2_method_1_code
def yX0_init : MethodName := ⟨RX0, "<init>", "(III)V"⟩
abbrev cX0_addDial : ByteArray := prog_2_method_2_code
def yX0_addDial : MethodName := ⟨RX0, "addDial", "(I)V"⟩
abbrev cX0_dialOf : ByteArray := prog_2_method_3_code
def yX0_dialOf : MethodName := ⟨RX0, "dialOf", "(I)I"⟩
abbrev cX0_signOf : ByteArray := prog_2_method_4_code
def yX0_signOf : MethodName := ⟨RX0, "signOf", "(II)I"⟩
abbrev cX0_putSign : ByteArray := prog_2_method_5_code
def yX0_putSign : MethodName := ⟨RX0, "putSign", "(III)V"⟩
abbrev cX0_doubleSigns : ByteArray := prog_2_method_6_code
def yX0_doubleSigns : MethodName := ⟨RX0, "doubleSigns", "(II)V"⟩
abbrev cX0_reckonBladeSigns : ByteArray := prog_2_method_7_code
def yX0_reckonBladeSigns : MethodName := ⟨RX0, "reckonBladeSigns", "()V"⟩
abbrev cX0_bladeSign : ByteArray := prog_2_method_8_code
def yX0_bladeSign : MethodName := ⟨RX0, "bladeSign", "(II)I"⟩
abbrev cX0_conjugateSign : ByteArray := prog_2_method_9_code
def yX0_conjugateSign : MethodName := ⟨RX0, "conjugateSign", "(I)I"⟩
abbrev cX0_reduced : ByteArray := prog_2_method_10_code
def yX0_reduced : MethodName := ⟨RX0, "reduced", "(I)I"⟩
abbrev cX0_signed : ByteArray := prog_2_method_11_code
def yX0_signed : MethodName := ⟨RX0, "signed", "(I)I"⟩
abbrev cX0_inverseNumber : ByteArray := prog_2_method_12_code
def yX0_inverseNumber : MethodName := ⟨RX0, "inverseNumber", "(I)I"⟩
abbrev cX0_add : ByteArray := prog_2_method_13_code
def yX0_add : MethodName := ⟨RX0, "add", "(LVersorhall$Row;LVersorhall$Row;LVersorhall$Row;I)V"⟩
abbrev cX0_makeMultiple : ByteArray := prog_2_method_14_code
def yX0_makeMultiple : MethodName := ⟨RX0, "makeMultiple", "(LVersorhall$Row;LVersorhall$Row;I)V"⟩
abbrev cX0_makeConjugate : ByteArray := prog_2_method_15_code
def yX0_makeConjugate : MethodName := ⟨RX0, "makeConjugate", "(LVersorhall$Row;LVersorhall$Row;)V"⟩
abbrev cX0_multiply : ByteArray := prog_2_method_16_code
def yX0_multiply : MethodName := ⟨RX0, "multiply", "(LVersorhall$Row;LVersorhall$Row;LVersorhall$Row;)V"⟩
abbrev cX0_gatherProducts : ByteArray := prog_2_method_17_code
def yX0_gatherProducts : MethodName := ⟨RX0, "gatherProducts", "(IILVersorhall$Row;)V"⟩
abbrev cX0_numberOfUnit0 : ByteArray := prog_2_method_18_code
def yX0_numberOfUnit0 : MethodName := ⟨RX0, "numberOfUnit0", "(LVersorhall$Row;LVersorhall$Row;)I"⟩
abbrev cX0_squareOf : ByteArray := prog_2_method_19_code
def yX0_squareOf : MethodName := ⟨RX0, "squareOf", "(LVersorhall$Row;)I"⟩
abbrev cX0_forgetBreaks : ByteArray := prog_2_method_20_code
def yX0_forgetBreaks : MethodName := ⟨RX0, "forgetBreaks", "()V"⟩
abbrev cX0_breakOf : ByteArray := prog_2_method_21_code
def yX0_breakOf : MethodName := ⟨RX0, "breakOf", "(I)I"⟩
abbrev cX0_findBreak : ByteArray := prog_2_method_22_code
def yX0_findBreak : MethodName := ⟨RX0, "findBreak", "(I)I"⟩
abbrev cX0_isKept : ByteArray := prog_2_method_23_code
def yX0_isKept : MethodName := ⟨RX0, "isKept", "(IIII)Z"⟩
abbrev cX0_gap : ByteArray := prog_2_method_24_code
def yX0_gap : MethodName := ⟨RX0, "gap", "(III)I"⟩
abbrev cX0_centre : ByteArray := prog_2_method_25_code
def yX0_centre : MethodName := ⟨RX0, "centre", "()I"⟩
abbrev cX0_isCentral : ByteArray := prog_2_method_26_code
def yX0_isCentral : MethodName := ⟨RX0, "isCentral", "(I)Z"⟩
abbrev cX0_smallestRowOfForm : ByteArray := prog_2_method_27_code
def yX0_smallestRowOfForm : MethodName := ⟨RX0, "smallestRowOfForm", "(I)I"⟩
abbrev cX0_formOf : ByteArray := prog_2_method_28_code
def yX0_formOf : MethodName := ⟨RX0, "formOf", "(I)I"⟩
abbrev cX0_scaleFrom : ByteArray := prog_2_method_29_code
def yX0_scaleFrom : MethodName := ⟨RX0, "scaleFrom", "(II)I"⟩
def RX1 : String := "Versorhall$Element"
def TX1 : u_T := fun k => match k with
  | 0 => ("Versorhall$Element", "home", "LVersorhall$Algebra;", true)
  | _ => ("Versorhall$Element", "row", "LVersorhall$Row;", true)
def tyX1 : Nat → FieldType := fun k => match k with
  | 0 => .object "Versorhall$Algebra"
  | _ => .object "Versorhall$Row"
abbrev wsX10 : List Cond := u_ws RX1 TX1 2
theorem nmX1 : ∀ a, a < 2 → ∀ b, b < 2 → a ≠ b → (TX1 a).2.1 ≠ (TX1 b).2.1 := by decide +kernel
theorem tyX1_ok : ∀ k, k < 2 → parseFieldDescriptor (TX1 k).2.2.1 = some (tyX1 k) := by decide +kernel
abbrev cX1_init : ByteArray := prog_3_method_1_code
def yX1_init : MethodName := ⟨RX1, "<init>", "(LVersorhall$Algebra;)V"⟩
abbrev cX1_leanInQuarters : ByteArray := prog_3_method_2_code
def yX1_leanInQuarters : MethodName := ⟨RX1, "leanInQuarters", "()I"⟩
def RX2 : String := "Versorhall$Matrix"
def TX2 : u_T := fun k => match k with
  | _ => ("Versorhall$Matrix", "cells", "[I", true)
def tyX2 : Nat → FieldType := fun k => match k with
  | _ => .array .int
abbrev wsX20 : List Cond := u_ws RX2 TX2 1
theorem nmX2 : ∀ a, a < 1 → ∀ b, b < 1 → a ≠ b → (TX2 a).2.1 ≠ (TX2 b).2.1 := by decide +kernel
theorem tyX2_ok : ∀ k, k < 1 → parseFieldDescriptor (TX2 k).2.2.1 = some (tyX2 k) := by decide +kernel
abbrev cX2_init : ByteArray := prog_4_method_1_code
def yX2_init : MethodName := ⟨RX2, "<init>", "()V"⟩
abbrev cX2_becomeMapOf : ByteArray := prog_4_method_2_code
def yX2_becomeMapOf : MethodName := ⟨RX2, "becomeMapOf", "(LVersorhall$Element;Z)V"⟩
abbrev cX2_get : ByteArray := prog_4_method_3_code
def yX2_get : MethodName := ⟨RX2, "get", "(II)I"⟩
abbrev cX2_put : ByteArray := prog_4_method_4_code
def yX2_put : MethodName := ⟨RX2, "put", "(III)V"⟩
abbrev cX2_reduceColumn : ByteArray := prog_4_method_5_code
def yX2_reduceColumn : MethodName := ⟨RX2, "reduceColumn", "(LVersorhall$Algebra;II)Z"⟩
abbrev cX2_swapLines : ByteArray := prog_4_method_6_code
def yX2_swapLines : MethodName := ⟨RX2, "swapLines", "(III)V"⟩
abbrev cX2_subtractLine : ByteArray := prog_4_method_7_code
def yX2_subtractLine : MethodName := ⟨RX2, "subtractLine", "(LVersorhall$Algebra;III)V"⟩
def RX3 : String := "Versorhall$Pile"
def TX3 : u_T := fun k => match k with
  | 0 => ("Versorhall$Pile", "rows", "[LVersorhall$Row;", true)
  | _ => ("Versorhall$Pile", "height", "I", false)
def tyX3 : Nat → FieldType := fun k => match k with
  | 0 => .array (.object "Versorhall$Row")
  | _ => .int
abbrev wsX30 : List Cond := u_ws RX3 TX3 2
theorem nmX3 : ∀ a, a < 2 → ∀ b, b < 2 → a ≠ b → (TX3 a).2.1 ≠ (TX3 b).2.1 := by decide +kernel
theorem tyX3_ok : ∀ k, k < 2 → parseFieldDescriptor (TX3 k).2.2.1 = some (tyX3 k) := by decide +kernel
abbrev cX3_init : ByteArray := prog_5_method_1_code
def yX3_init : MethodName := ⟨RX3, "<init>", "()V"⟩
abbrev cX3_fromBottom : ByteArray := prog_5_method_2_code
def yX3_fromBottom : MethodName := ⟨RX3, "fromBottom", "(I)LVersorhall$Row;"⟩
abbrev cX3_fromTop : ByteArray := prog_5_method_3_code
def yX3_fromTop : MethodName := ⟨RX3, "fromTop", "(I)LVersorhall$Row;"⟩
abbrev cX3_push : ByteArray := prog_5_method_4_code
def yX3_push : MethodName := ⟨RX3, "push", "(LVersorhall$Row;)Z"⟩
abbrev cX3_pop : ByteArray := prog_5_method_5_code
def yX3_pop : MethodName := ⟨RX3, "pop", "()V"⟩
abbrev cX3_clearAll : ByteArray := prog_5_method_6_code
def yX3_clearAll : MethodName := ⟨RX3, "clearAll", "()V"⟩
def RX4 : String := "Versorhall$Row"
def TX4 : u_T := fun k => match k with
  | _ => ("Versorhall$Row", "numbers", "[I", true)
def tyX4 : Nat → FieldType := fun k => match k with
  | _ => .array .int
abbrev wsX40 : List Cond := u_ws RX4 TX4 1
theorem nmX4 : ∀ a, a < 1 → ∀ b, b < 1 → a ≠ b → (TX4 a).2.1 ≠ (TX4 b).2.1 := by decide +kernel
theorem tyX4_ok : ∀ k, k < 1 → parseFieldDescriptor (TX4 k).2.2.1 = some (tyX4 k) := by decide +kernel
abbrev cX4_init : ByteArray := prog_6_method_1_code
def yX4_init : MethodName := ⟨RX4, "<init>", "()V"⟩
abbrev cX4_get : ByteArray := prog_6_method_2_code
def yX4_get : MethodName := ⟨RX4, "get", "(I)I"⟩
abbrev cX4_put : ByteArray := prog_6_method_3_code
def yX4_put : MethodName := ⟨RX4, "put", "(II)V"⟩
abbrev cX4_become : ByteArray := prog_6_method_4_code
def yX4_become : MethodName := ⟨RX4, "become", "(LVersorhall$Row;)V"⟩
abbrev cX4_becomeNumber : ByteArray := prog_6_method_5_code
def yX4_becomeNumber : MethodName := ⟨RX4, "becomeNumber", "(I)V"⟩
abbrev cX4_size : ByteArray := prog_6_method_6_code
def yX4_size : MethodName := ⟨RX4, "size", "()I"⟩
abbrev cX4_isPlain : ByteArray := prog_6_method_7_code
def yX4_isPlain : MethodName := ⟨RX4, "isPlain", "()Z"⟩
abbrev cX4_isNumber : ByteArray := prog_6_method_8_code
def yX4_isNumber : MethodName := ⟨RX4, "isNumber", "(I)Z"⟩
abbrev cX4_isOfGenerators : ByteArray := prog_6_method_9_code
def yX4_isOfGenerators : MethodName := ⟨RX4, "isOfGenerators", "()Z"⟩
def RX5 : String := "Versorhall$Workshop"
def TX5 : u_T := fun k => match k with
  | 0 => ("Versorhall$Workshop", "result", "LVersorhall$Row;", true)
  | 1 => ("Versorhall$Workshop", "work", "LVersorhall$Row;", true)
  | _ => ("Versorhall$Workshop", "matrix", "LVersorhall$Matrix;", true)
def tyX5 : Nat → FieldType := fun k => match k with
  | 0 => .object "Versorhall$Row"
  | 1 => .object "Versorhall$Row"
  | _ => .object "Versorhall$Matrix"
abbrev wsX50 : List Cond := u_ws RX5 TX5 3
theorem nmX5 : ∀ a, a < 3 → ∀ b, b < 3 → a ≠ b → (TX5 a).2.1 ≠ (TX5 b).2.1 := by decide +kernel
theorem tyX5_ok : ∀ k, k < 3 → parseFieldDescriptor (TX5 k).2.2.1 = some (tyX5 k) := by decide +kernel
abbrev cX5_init : ByteArray := prog_7_method_1_code
def yX5_init : MethodName := ⟨RX5, "<init>", "()V"⟩
abbrev cX5_makePower : ByteArray := prog_7_method_2_code
def yX5_makePower : MethodName := ⟨RX5, "makePower", "(LVersorhall$Element;I)V"⟩
abbrev cX5_firstPowerThatIs : ByteArray := prog_7_method_3_code
def yX5_firstPowerThatIs : MethodName := ⟨RX5, "firstPowerThatIs", "(ILVersorhall$Element;I)I"⟩
abbrev cX5_isItsOwnSquare : ByteArray := prog_7_method_4_code
def yX5_isItsOwnSquare : MethodName := ⟨RX5, "isItsOwnSquare", "(LVersorhall$Element;)Z"⟩
abbrev cX5_norm : ByteArray := prog_7_method_5_code
def yX5_norm : MethodName := ⟨RX5, "norm", "(LVersorhall$Element;)I"⟩
abbrev cX5_makeInverse : ByteArray := prog_7_method_6_code
def yX5_makeInverse : MethodName := ⟨RX5, "makeInverse", "(LVersorhall$Element;)Z"⟩
abbrev cX5_makeSeries : ByteArray := prog_7_method_7_code
def yX5_makeSeries : MethodName := ⟨RX5, "makeSeries", "(LVersorhall$Element;)Z"⟩
abbrev cX5_makeKiller : ByteArray := prog_7_method_8_code
def yX5_makeKiller : MethodName := ⟨RX5, "makeKiller", "(LVersorhall$Element;)I"⟩
abbrev cX5_rank : ByteArray := prog_7_method_9_code
def yX5_rank : MethodName := ⟨RX5, "rank", "(LVersorhall$Element;Z)I"⟩
abbrev cX5_makeMirrored : ByteArray := prog_7_method_10_code
def yX5_makeMirrored : MethodName := ⟨RX5, "makeMirrored", "(LVersorhall$Element;LVersorhall$Element;)V"⟩
abbrev cX5_makeTurned : ByteArray := prog_7_method_11_code
def yX5_makeTurned : MethodName := ⟨RX5, "makeTurned", "(LVersorhall$Element;)V"⟩
abbrev cX5_reflect : ByteArray := prog_7_method_12_code
def yX5_reflect : MethodName := ⟨RX5, "reflect", "(LVersorhall$Algebra;LVersorhall$Row;)V"⟩
abbrev cX5_makeVersor : ByteArray := prog_7_method_13_code
def yX5_makeVersor : MethodName := ⟨RX5, "makeVersor", "(LVersorhall$Algebra;)V"⟩
abbrev cX5_makeCommutator : ByteArray := prog_7_method_14_code
def yX5_makeCommutator : MethodName := ⟨RX5, "makeCommutator", "(LVersorhall$Element;LVersorhall$Element;)V"⟩
def RX6 : String := "Versorhall"
def TX6 : u_T := fun k => match k with
  | 0 => ("Versorhall", "prime", "I", false)
  | 1 => ("Versorhall", "algebras", "[LVersorhall$Algebra;", true)
  | 2 => ("Versorhall", "algebraCount", "I", false)
  | 3 => ("Versorhall", "elements", "[LVersorhall$Element;", true)
  | 4 => ("Versorhall", "elementCount", "I", false)
  | 5 => ("Versorhall", "knocks", "I", false)
  | 6 => ("Versorhall", "workshop", "LVersorhall$Workshop;", true)
  | 7 => ("Versorhall", "pile", "LVersorhall$Pile;", true)
  | _ => ("Versorhall", "order", "[I", true)
def tyX6 : Nat → FieldType := fun k => match k with
  | 0 => .int
  | 1 => .array (.object "Versorhall$Algebra")
  | 2 => .int
  | 3 => .array (.object "Versorhall$Element")
  | 4 => .int
  | 5 => .int
  | 6 => .object "Versorhall$Workshop"
  | 7 => .object "Versorhall$Pile"
  | _ => .array .int
abbrev wsX60 : List Cond := u_ws RX6 TX6 9
theorem nmX6 : ∀ a, a < 9 → ∀ b, b < 9 → a ≠ b → (TX6 a).2.1 ≠ (TX6 b).2.1 := by decide +kernel
theorem tyX6_ok : ∀ k, k < 9 → parseFieldDescriptor (TX6 k).2.2.1 = some (tyX6 k) := by decide +kernel
abbrev cX6_init : ByteArray := prog_1_method_1_code
def yX6_init : MethodName := ⟨RX6, "<init>", "()V"⟩
abbrev cX6_prime : ByteArray := prog_1_method_2_code
def yX6_prime : MethodName := ⟨RX6, "prime", "(I)I"⟩
abbrev cX6_algebra : ByteArray := prog_1_method_3_code
def yX6_algebra : MethodName := ⟨RX6, "algebra", "(I)I"⟩
abbrev cX6_dial : ByteArray := prog_1_method_4_code
def yX6_dial : MethodName := ⟨RX6, "dial", "(II)I"⟩
abbrev cX6_element : ByteArray := prog_1_method_5_code
def yX6_element : MethodName := ⟨RX6, "element", "(I)I"⟩
abbrev cX6_set : ByteArray := prog_1_method_6_code
def yX6_set : MethodName := ⟨RX6, "set", "(III)I"⟩
abbrev cX6_sum : ByteArray := prog_1_method_7_code
def yX6_sum : MethodName := ⟨RX6, "sum", "(III)I"⟩
abbrev cX6_product : ByteArray := prog_1_method_8_code
def yX6_product : MethodName := ⟨RX6, "product", "(III)I"⟩
abbrev cX6_scale : ByteArray := prog_1_method_9_code
def yX6_scale : MethodName := ⟨RX6, "scale", "(III)I"⟩
abbrev cX6_conjugate : ByteArray := prog_1_method_10_code
def yX6_conjugate : MethodName := ⟨RX6, "conjugate", "(II)I"⟩
abbrev cX6_power : ByteArray := prog_1_method_11_code
def yX6_power : MethodName := ⟨RX6, "power", "(III)I"⟩
abbrev cX6_invert : ByteArray := prog_1_method_12_code
def yX6_invert : MethodName := ⟨RX6, "invert", "(II)I"⟩
abbrev cX6_series : ByteArray := prog_1_method_13_code
def yX6_series : MethodName := ⟨RX6, "series", "(II)I"⟩
abbrev cX6_killer : ByteArray := prog_1_method_14_code
def yX6_killer : MethodName := ⟨RX6, "killer", "(II)I"⟩
abbrev cX6_hang : ByteArray := prog_1_method_15_code
def yX6_hang : MethodName := ⟨RX6, "hang", "(I)I"⟩
abbrev cX6_clear : ByteArray := prog_1_method_16_code
def yX6_clear : MethodName := ⟨RX6, "clear", "(I)I"⟩
abbrev cX6_mirror : ByteArray := prog_1_method_17_code
def yX6_mirror : MethodName := ⟨RX6, "mirror", "(III)I"⟩
abbrev cX6_turn : ByteArray := prog_1_method_18_code
def yX6_turn : MethodName := ⟨RX6, "turn", "(II)I"⟩
abbrev cX6_versor : ByteArray := prog_1_method_19_code
def yX6_versor : MethodName := ⟨RX6, "versor", "(I)I"⟩
abbrev cX6_run : ByteArray := prog_1_method_20_code
def yX6_run : MethodName := ⟨RX6, "run", "(II)I"⟩
abbrev cX6_at : ByteArray := prog_1_method_21_code
def yX6_at : MethodName := ⟨RX6, "at", "(II)I"⟩
abbrev cX6_ofElement : ByteArray := prog_1_method_22_code
def yX6_ofElement : MethodName := ⟨RX6, "ofElement", "(II)I"⟩
abbrev cX6_text : ByteArray := prog_1_method_23_code
def yX6_text : MethodName := ⟨RX6, "text", "(I)Ljava/lang/String;"⟩
abbrev cX6_ofAlgebra : ByteArray := prog_1_method_24_code
def yX6_ofAlgebra : MethodName := ⟨RX6, "ofAlgebra", "(II)I"⟩
abbrev cX6_sign : ByteArray := prog_1_method_25_code
def yX6_sign : MethodName := ⟨RX6, "sign", "(III)I"⟩
abbrev cX6_breaks : ByteArray := prog_1_method_26_code
def yX6_breaks : MethodName := ⟨RX6, "breaks", "(II)I"⟩
abbrev cX6_meanSize : ByteArray := prog_1_method_27_code
def yX6_meanSize : MethodName := ⟨RX6, "meanSize", "()D"⟩
abbrev cX6_lean : ByteArray := prog_1_method_28_code
def yX6_lean : MethodName := ⟨RX6, "lean", "(I)D"⟩
abbrev cX6_poise : ByteArray := prog_1_method_29_code
def yX6_poise : MethodName := ⟨RX6, "poise", "()D"⟩
abbrev cX6_many : ByteArray := prog_1_method_30_code
def yX6_many : MethodName := ⟨RX6, "many", "(I)I"⟩
abbrev cX6_apart : ByteArray := prog_1_method_31_code
def yX6_apart : MethodName := ⟨RX6, "apart", "(II)I"⟩
abbrev cX6_row : ByteArray := prog_1_method_32_code
def yX6_row : MethodName := ⟨RX6, "row", "(II)I"⟩
abbrev cX6_match : ByteArray := prog_1_method_33_code
def yX6_match : MethodName := ⟨RX6, "match", "(II)I"⟩
abbrev cX6_scaleOf : ByteArray := prog_1_method_34_code
def yX6_scaleOf : MethodName := ⟨RX6, "scaleOf", "(III)I"⟩
abbrev cX6_digest : ByteArray := prog_1_method_35_code
def yX6_digest : MethodName := ⟨RX6, "digest", "()J"⟩
abbrev cX6_digestWithAlgebra : ByteArray := prog_1_method_36_code
def yX6_digestWithAlgebra : MethodName := ⟨RX6, "digestWithAlgebra", "(JI)J"⟩
abbrev cX6_digestWithElement : ByteArray := prog_1_method_37_code
def yX6_digestWithElement : MethodName := ⟨RX6, "digestWithElement", "(JI)J"⟩
abbrev cX6_digestWith : ByteArray := prog_1_method_38_code
def yX6_digestWith : MethodName := ⟨RX6, "digestWith", "(JJ)J"⟩
abbrev cX6_algebraOf : ByteArray := prog_1_method_39_code
def yX6_algebraOf : MethodName := ⟨RX6, "algebraOf", "(I)LVersorhall$Algebra;"⟩
abbrev cX6_elementOrNull : ByteArray := prog_1_method_40_code
def yX6_elementOrNull : MethodName := ⟨RX6, "elementOrNull", "(I)LVersorhall$Element;"⟩
abbrev cX6_elementOf : ByteArray := prog_1_method_41_code
def yX6_elementOf : MethodName := ⟨RX6, "elementOf", "(I)LVersorhall$Element;"⟩
abbrev cX6_demandUnit : ByteArray := prog_1_method_42_code
def yX6_demandUnit : MethodName := ⟨RX6, "demandUnit", "(LVersorhall$Algebra;I)V"⟩
abbrev cX6_demandNumber : ByteArray := prog_1_method_43_code
def yX6_demandNumber : MethodName := ⟨RX6, "demandNumber", "(I)V"⟩
abbrev cX6_demandOneAlgebra : ByteArray := prog_1_method_44_code
def yX6_demandOneAlgebra : MethodName := ⟨RX6, "demandOneAlgebra", "(LVersorhall$Element;LVersorhall$Element;)V"⟩
abbrev cX6_demandMirroring : ByteArray := prog_1_method_45_code
def yX6_demandMirroring : MethodName := ⟨RX6, "demandMirroring", "(LVersorhall$Element;)V"⟩
abbrev cX6_demandBlades : ByteArray := prog_1_method_46_code
def yX6_demandBlades : MethodName := ⟨RX6, "demandBlades", "(LVersorhall$Algebra;)V"⟩
abbrev cX6_keep : ByteArray := prog_1_method_47_code
def yX6_keep : MethodName := ⟨RX6, "keep", "(LVersorhall$Element;)I"⟩
abbrev cX6_resultOfWord : ByteArray := prog_1_method_48_code
def yX6_resultOfWord : MethodName := ⟨RX6, "resultOfWord", "(LVersorhall$Algebra;I)LVersorhall$Row;"⟩
abbrev cX6_obeyDigit : ByteArray := prog_1_method_49_code
def yX6_obeyDigit : MethodName := ⟨RX6, "obeyDigit", "(LVersorhall$Algebra;I)Z"⟩
abbrev cX6_lettersOfText : ByteArray := prog_1_method_50_code
def yX6_lettersOfText : MethodName := ⟨RX6, "lettersOfText", "(LVersorhall$Element;)I"⟩
abbrev cX6_allUnits : ByteArray := prog_1_method_51_code
def yX6_allUnits : MethodName := ⟨RX6, "allUnits", "()I"⟩
abbrev cX6_plainElements : ByteArray := prog_1_method_52_code
def yX6_plainElements : MethodName := ⟨RX6, "plainElements", "()I"⟩
abbrev cX6_elementsWithoutNorm : ByteArray := prog_1_method_53_code
def yX6_elementsWithoutNorm : MethodName := ⟨RX6, "elementsWithoutNorm", "()I"⟩
abbrev cX6_sumOfLeansInQuarters : ByteArray := prog_1_method_54_code
def yX6_sumOfLeansInQuarters : MethodName := ⟨RX6, "sumOfLeansInQuarters", "()I"⟩
abbrev cX6_roundedToEven : ByteArray := prog_1_method_55_code
def yX6_roundedToEven : MethodName := ⟨RX6, "roundedToEven", "(II)I"⟩
abbrev cX6_findOrder : ByteArray := prog_1_method_56_code
def yX6_findOrder : MethodName := ⟨RX6, "findOrder", "(LVersorhall$Algebra;LVersorhall$Algebra;)Z"⟩
abbrev cX6_firstFreePartner : ByteArray := prog_1_method_57_code
def yX6_firstFreePartner : MethodName := ⟨RX6, "firstFreePartner", "(ILVersorhall$Algebra;I)I"⟩
abbrev cX6_partnerOf : ByteArray := prog_1_method_58_code
def yX6_partnerOf : MethodName := ⟨RX6, "partnerOf", "(I)I"⟩
def RX7 : String := "VersorhallLaw$Out"
def TX7 : u_T := fun k => match k with
  | 0 => ("VersorhallLaw$Out", "n", "J", false)
  | 1 => ("VersorhallLaw$Out", "d", "D", false)
  | _ => ("VersorhallLaw$Out", "s", "Ljava/lang/String;", false)
def tyX7 : Nat → FieldType := fun k => match k with
  | 0 => .long
  | 1 => .double
  | _ => .object "java/lang/String"
abbrev wsX70 : List Cond := u_ws RX7 TX7 3
theorem nmX7 : ∀ a, a < 3 → ∀ b, b < 3 → a ≠ b → (TX7 a).2.1 ≠ (TX7 b).2.1 := by decide +kernel
theorem tyX7_ok : ∀ k, k < 3 → parseFieldDescriptor (TX7 k).2.2.1 = some (tyX7 k) := by decide +kernel
abbrev cX7_init : ByteArray := prog_9_method_1_code
def yX7_init : MethodName := ⟨RX7, "<init>", "()V"⟩
def RX8 : String := "VersorhallModel$Algebra"
def TX8 : u_T := fun k => match k with
  | 0 => ("VersorhallModel$Algebra", "kind", "I", true)
  | 1 => ("VersorhallModel$Algebra", "dials", "[I", true)
  | 2 => ("VersorhallModel$Algebra", "signs", "[[I", false)
  | 3 => ("VersorhallModel$Algebra", "many", "I", false)
  | 4 => ("VersorhallModel$Algebra", "mirrors", "Ljava/util/List;", true)
  | _ => ("VersorhallModel$Algebra", "this$0", "LVersorhallModel;", true)
def tyX8 : Nat → FieldType := fun k => match k with
  | 0 => .int
  | 1 => .array .int
  | 2 => .array (.array .int)
  | 3 => .int
  | 4 => .object "java/util/List"
  | _ => .object "VersorhallModel"
abbrev wsX80 : List Cond := u_ws RX8 TX8 6
theorem nmX8 : ∀ a, a < 6 → ∀ b, b < 6 → a ≠ b → (TX8 a).2.1 ≠ (TX8 b).2.1 := by decide +kernel
theorem tyX8_ok : ∀ k, k < 6 → parseFieldDescriptor (TX8 k).2.2.1 = some (tyX8 k) := by decide +kernel
abbrev cX8_init : ByteArray := prog_11_method_1_code
def yX8_init : MethodName := ⟨RX8, "<init>", "(LVersorhallModel;I)V"⟩
abbrev cX8_units : ByteArray := prog_11_method_2_code
def yX8_units : MethodName := ⟨RX8, "units", "()I"⟩
abbrev cX8_dial : ByteArray := prog_11_method_3_code
def yX8_dial : MethodName := ⟨RX8, "dial", "(I)V"⟩
abbrev cX8_doubled : ByteArray := prog_11_method_4_code
def yX8_doubled : MethodName := ⟨RX8, "doubled", "(IIII)I"⟩
abbrev cX8_blade : ByteArray := prog_11_method_5_code
def yX8_blade : MethodName := ⟨RX8, "blade", "(II)I"⟩
abbrev cX8_conjugate : ByteArray := prog_11_method_6_code
def yX8_conjugate : MethodName := ⟨RX8, "conjugate", "(I)I"⟩
abbrev cX8_times : ByteArray := prog_11_method_7_code
def yX8_times : MethodName := ⟨RX8, "times", "([I[I)[I"⟩
abbrev cX8_conjugated : ByteArray := prog_11_method_8_code
def yX8_conjugated : MethodName := ⟨RX8, "conjugated", "([I)[I"⟩
abbrev cX8_scaled : ByteArray := prog_11_method_9_code
def yX8_scaled : MethodName := ⟨RX8, "scaled", "([II)[I"⟩
abbrev cX8_one : ByteArray := prog_11_method_10_code
def yX8_one : MethodName := ⟨RX8, "one", "()[I"⟩
abbrev cX8_power : ByteArray := prog_11_method_11_code
def yX8_power : MethodName := ⟨RX8, "power", "([II)[I"⟩
abbrev cX8_mirrored : ByteArray := prog_11_method_12_code
def yX8_mirrored : MethodName := ⟨RX8, "mirrored", "([I[I)[I"⟩
abbrev cX8_gap : ByteArray := prog_11_method_13_code
def yX8_gap : MethodName := ⟨RX8, "gap", "(III)I"⟩
abbrev cX8_keeps : ByteArray := prog_11_method_14_code
def yX8_keeps : MethodName := ⟨RX8, "keeps", "(IIII)Z"⟩
abbrev cX8_form : ByteArray := prog_11_method_15_code
def yX8_form : MethodName := ⟨RX8, "form", "(I)I"⟩
def RX9 : String := "VersorhallModel$Element"
def TX9 : u_T := fun k => match k with
  | 0 => ("VersorhallModel$Element", "algebra", "I", true)
  | _ => ("VersorhallModel$Element", "row", "[I", false)
def tyX9 : Nat → FieldType := fun k => match k with
  | 0 => .int
  | _ => .array .int
abbrev wsX90 : List Cond := u_ws RX9 TX9 2
theorem nmX9 : ∀ a, a < 2 → ∀ b, b < 2 → a ≠ b → (TX9 a).2.1 ≠ (TX9 b).2.1 := by decide +kernel
theorem tyX9_ok : ∀ k, k < 2 → parseFieldDescriptor (TX9 k).2.2.1 = some (tyX9 k) := by decide +kernel
abbrev cX9_init : ByteArray := prog_12_method_1_code
def yX9_init : MethodName := ⟨RX9, "<init>", "(II)V"⟩
def RX10 : String := "VersorhallModel"
def TX10 : u_T := fun k => match k with
  | 0 => ("VersorhallModel", "thrown", "I", false)
  | 1 => ("VersorhallModel", "p", "I", false)
  | 2 => ("VersorhallModel", "knocks", "I", false)
  | 3 => ("VersorhallModel", "algebras", "Ljava/util/List;", true)
  | _ => ("VersorhallModel", "elements", "Ljava/util/List;", true)
def tyX10 : Nat → FieldType := fun k => match k with
  | 0 => .int
  | 1 => .int
  | 2 => .int
  | 3 => .object "java/util/List"
  | _ => .object "java/util/List"
abbrev wsX100 : List Cond := u_ws RX10 TX10 5
theorem nmX10 : ∀ a, a < 5 → ∀ b, b < 5 → a ≠ b → (TX10 a).2.1 ≠ (TX10 b).2.1 := by decide +kernel
theorem tyX10_ok : ∀ k, k < 5 → parseFieldDescriptor (TX10 k).2.2.1 = some (tyX10 k) := by decide +kernel
abbrev cX10_init : ByteArray := prog_10_method_1_code
def yX10_init : MethodName := ⟨RX10, "<init>", "()V"⟩
abbrev cX10_thrown : ByteArray := prog_10_method_2_code
def yX10_thrown : MethodName := ⟨RX10, "thrown", "()I"⟩
abbrev cX10_no : ByteArray := prog_10_method_3_code
def yX10_no : MethodName := ⟨RX10, "no", "(I)I"⟩
abbrev cX10_in : ByteArray := prog_10_method_4_code
def yX10_in : MethodName := ⟨RX10, "in", "(III)Z"⟩
abbrev cX10_mod : ByteArray := prog_10_method_5_code
def yX10_mod : MethodName := ⟨RX10, "mod", "(I)I"⟩
abbrev cX10_inverse : ByteArray := prog_10_method_6_code
def yX10_inverse : MethodName := ⟨RX10, "inverse", "(I)I"⟩
abbrev cX10_grade : ByteArray := prog_10_method_7_code
def yX10_grade : MethodName := ⟨RX10, "grade", "(I)I"⟩
abbrev cX10_isAlgebra : ByteArray := prog_10_method_8_code
def yX10_isAlgebra : MethodName := ⟨RX10, "isAlgebra", "(I)Z"⟩
abbrev cX10_isElement : ByteArray := prog_10_method_9_code
def yX10_isElement : MethodName := ⟨RX10, "isElement", "(I)Z"⟩
abbrev cX10_areOne : ByteArray := prog_10_method_10_code
def yX10_areOne : MethodName := ⟨RX10, "areOne", "(II)Z"⟩
abbrev cX10_row : ByteArray := prog_10_method_11_code
def yX10_row : MethodName := ⟨RX10, "row", "(I)[I"⟩
abbrev cX10_home : ByteArray := prog_10_method_12_code
def yX10_home : MethodName := ⟨RX10, "home", "(I)LVersorhallModel$Algebra;"⟩
abbrev cX10_size : ByteArray := prog_10_method_13_code
def yX10_size : MethodName := ⟨RX10, "size", "([I)I"⟩
abbrev cX10_isPlain : ByteArray := prog_10_method_14_code
def yX10_isPlain : MethodName := ⟨RX10, "isPlain", "([I)Z"⟩
abbrev cX10_isSame : ByteArray := prog_10_method_15_code
def yX10_isSame : MethodName := ⟨RX10, "isSame", "([I[I)Z"⟩
abbrev cX10_put : ByteArray := prog_10_method_16_code
def yX10_put : MethodName := ⟨RX10, "put", "(I[I)I"⟩
abbrev cX10_prime : ByteArray := prog_10_method_17_code
def yX10_prime : MethodName := ⟨RX10, "prime", "(I)I"⟩
abbrev cX10_algebra : ByteArray := prog_10_method_18_code
def yX10_algebra : MethodName := ⟨RX10, "algebra", "(I)I"⟩
abbrev cX10_elementsOf : ByteArray := prog_10_method_19_code
def yX10_elementsOf : MethodName := ⟨RX10, "elementsOf", "(I)I"⟩
abbrev cX10_dial : ByteArray := prog_10_method_20_code
def yX10_dial : MethodName := ⟨RX10, "dial", "(II)I"⟩
abbrev cX10_element : ByteArray := prog_10_method_21_code
def yX10_element : MethodName := ⟨RX10, "element", "(I)I"⟩
abbrev cX10_set : ByteArray := prog_10_method_22_code
def yX10_set : MethodName := ⟨RX10, "set", "(III)I"⟩
abbrev cX10_sum : ByteArray := prog_10_method_23_code
def yX10_sum : MethodName := ⟨RX10, "sum", "(III)I"⟩
abbrev cX10_plus : ByteArray := prog_10_method_24_code
def yX10_plus : MethodName := ⟨RX10, "plus", "([I[II)[I"⟩
abbrev cX10_product : ByteArray := prog_10_method_25_code
def yX10_product : MethodName := ⟨RX10, "product", "(III)I"⟩
abbrev cX10_scale : ByteArray := prog_10_method_26_code
def yX10_scale : MethodName := ⟨RX10, "scale", "(III)I"⟩
abbrev cX10_conjugate : ByteArray := prog_10_method_27_code
def yX10_conjugate : MethodName := ⟨RX10, "conjugate", "(II)I"⟩
abbrev cX10_power : ByteArray := prog_10_method_28_code
def yX10_power : MethodName := ⟨RX10, "power", "(III)I"⟩
abbrev cX10_invert : ByteArray := prog_10_method_29_code
def yX10_invert : MethodName := ⟨RX10, "invert", "(II)I"⟩
abbrev cX10_nilOf : ByteArray := prog_10_method_30_code
def yX10_nilOf : MethodName := ⟨RX10, "nilOf", "(I)I"⟩
abbrev cX10_series : ByteArray := prog_10_method_31_code
def yX10_series : MethodName := ⟨RX10, "series", "(II)I"⟩
abbrev cX10_columns : ByteArray := prog_10_method_32_code
def yX10_columns : MethodName := ⟨RX10, "columns", "(IZ)[[I"⟩
abbrev cX10_less : ByteArray := prog_10_method_33_code
def yX10_less : MethodName := ⟨RX10, "less", "([I[II)V"⟩
abbrev cX10_free : ByteArray := prog_10_method_34_code
def yX10_free : MethodName := ⟨RX10, "free", "([[I[[IZ)I"⟩
abbrev cX10_killer : ByteArray := prog_10_method_35_code
def yX10_killer : MethodName := ⟨RX10, "killer", "(II)I"⟩
abbrev cX10_isVector : ByteArray := prog_10_method_36_code
def yX10_isVector : MethodName := ⟨RX10, "isVector", "(I)Z"⟩
abbrev cX10_squareOf : ByteArray := prog_10_method_37_code
def yX10_squareOf : MethodName := ⟨RX10, "squareOf", "(I)I"⟩
abbrev cX10_hang : ByteArray := prog_10_method_38_code
def yX10_hang : MethodName := ⟨RX10, "hang", "(I)I"⟩
abbrev cX10_clear : ByteArray := prog_10_method_39_code
def yX10_clear : MethodName := ⟨RX10, "clear", "(I)I"⟩
abbrev cX10_mirror : ByteArray := prog_10_method_40_code
def yX10_mirror : MethodName := ⟨RX10, "mirror", "(III)I"⟩
abbrev cX10_turn : ByteArray := prog_10_method_41_code
def yX10_turn : MethodName := ⟨RX10, "turn", "(II)I"⟩
abbrev cX10_versor : ByteArray := prog_10_method_42_code
def yX10_versor : MethodName := ⟨RX10, "versor", "(I)I"⟩
abbrev cX10_run : ByteArray := prog_10_method_43_code
def yX10_run : MethodName := ⟨RX10, "run", "(II)I"⟩
abbrev cX10_at : ByteArray := prog_10_method_44_code
def yX10_at : MethodName := ⟨RX10, "at", "(II)I"⟩
abbrev cX10_normOf : ByteArray := prog_10_method_45_code
def yX10_normOf : MethodName := ⟨RX10, "normOf", "(I)I"⟩
abbrev cX10_orderOf : ByteArray := prog_10_method_46_code
def yX10_orderOf : MethodName := ⟨RX10, "orderOf", "(I)I"⟩
abbrev cX10_elementNow : ByteArray := prog_10_method_47_code
def yX10_elementNow : MethodName := ⟨RX10, "elementNow", "(II)I"⟩
abbrev cX10_ofElement : ByteArray := prog_10_method_48_code
def yX10_ofElement : MethodName := ⟨RX10, "ofElement", "(II)I"⟩
abbrev cX10_textNow : ByteArray := prog_10_method_49_code
def yX10_textNow : MethodName := ⟨RX10, "textNow", "(I)Ljava/lang/String;"⟩
abbrev cX10_text : ByteArray := prog_10_method_50_code
def yX10_text : MethodName := ⟨RX10, "text", "(I)Ljava/lang/String;"⟩
abbrev cX10_algebraNow : ByteArray := prog_10_method_51_code
def yX10_algebraNow : MethodName := ⟨RX10, "algebraNow", "(II)I"⟩
abbrev cX10_ofAlgebra : ByteArray := prog_10_method_52_code
def yX10_ofAlgebra : MethodName := ⟨RX10, "ofAlgebra", "(II)I"⟩
abbrev cX10_sign : ByteArray := prog_10_method_53_code
def yX10_sign : MethodName := ⟨RX10, "sign", "(III)I"⟩
abbrev cX10_breakNow : ByteArray := prog_10_method_54_code
def yX10_breakNow : MethodName := ⟨RX10, "breakNow", "(LVersorhallModel$Algebra;I)I"⟩
abbrev cX10_breaks : ByteArray := prog_10_method_55_code
def yX10_breaks : MethodName := ⟨RX10, "breaks", "(II)I"⟩
abbrev cX10_meanSize : ByteArray := prog_10_method_56_code
def yX10_meanSize : MethodName := ⟨RX10, "meanSize", "()D"⟩
abbrev cX10_quarters : ByteArray := prog_10_method_57_code
def yX10_quarters : MethodName := ⟨RX10, "quarters", "(I)I"⟩
abbrev cX10_allQuarters : ByteArray := prog_10_method_58_code
def yX10_allQuarters : MethodName := ⟨RX10, "allQuarters", "()I"⟩
abbrev cX10_lean : ByteArray := prog_10_method_59_code
def yX10_lean : MethodName := ⟨RX10, "lean", "(I)D"⟩
abbrev cX10_poise : ByteArray := prog_10_method_60_code
def yX10_poise : MethodName := ⟨RX10, "poise", "()D"⟩
abbrev cX10_manyNow : ByteArray := prog_10_method_61_code
def yX10_manyNow : MethodName := ⟨RX10, "manyNow", "(I)I"⟩
abbrev cX10_many : ByteArray := prog_10_method_62_code
def yX10_many : MethodName := ⟨RX10, "many", "(I)I"⟩
abbrev cX10_apart : ByteArray := prog_10_method_63_code
def yX10_apart : MethodName := ⟨RX10, "apart", "(II)I"⟩
abbrev cX10_rowNow : ByteArray := prog_10_method_64_code
def yX10_rowNow : MethodName := ⟨RX10, "rowNow", "(LVersorhallModel$Algebra;I)I"⟩
abbrev cX10_row_ : ByteArray := prog_10_method_65_code
def yX10_row_ : MethodName := ⟨RX10, "row", "(II)I"⟩
abbrev cX10_scaleNow : ByteArray := prog_10_method_66_code
def yX10_scaleNow : MethodName := ⟨RX10, "scaleNow", "(II)I"⟩
abbrev cX10_orderNow : ByteArray := prog_10_method_67_code
def yX10_orderNow : MethodName := ⟨RX10, "orderNow", "(LVersorhallModel$Algebra;LVersorhallModel$Algebra;II)I"⟩
abbrev cX10_matchNow : ByteArray := prog_10_method_68_code
def yX10_matchNow : MethodName := ⟨RX10, "matchNow", "(II)I"⟩
abbrev cX10_match : ByteArray := prog_10_method_69_code
def yX10_match : MethodName := ⟨RX10, "match", "(II)I"⟩
abbrev cX10_scaleOf : ByteArray := prog_10_method_70_code
def yX10_scaleOf : MethodName := ⟨RX10, "scaleOf", "(III)I"⟩
abbrev cX10_digest : ByteArray := prog_10_method_71_code
def yX10_digest : MethodName := ⟨RX10, "digest", "()J"⟩
def RJx145de : String := "java/io/Serializable"
def TJx145de : u_T := fun k => match k with
  | _ => ("", "", "", false)
def tyJx145de : Nat → FieldType := fun k => match k with
  | _ => .int
abbrev wsJx145de0 : List Cond := u_ws RJx145de TJx145de 0
theorem nmJx145de : ∀ a, a < 0 → ∀ b, b < 0 → a ≠ b → (TJx145de a).2.1 ≠ (TJx145de b).2.1 := by decide +kernel
theorem tyJx145de_ok : ∀ k, k < 0 → parseFieldDescriptor (TJx145de k).2.2.1 = some (tyJx145de k) := by decide +kernel
def RJ5 : String := "java/lang/AbstractStringBuilder"
def TJ5 : u_T := fun k => match k with
  | _ => ("", "", "", false)
def tyJ5 : Nat → FieldType := fun k => match k with
  | _ => .int
abbrev wsJ50 : List Cond := u_ws RJ5 TJ5 0
theorem nmJ5 : ∀ a, a < 0 → ∀ b, b < 0 → a ≠ b → (TJ5 a).2.1 ≠ (TJ5 b).2.1 := by decide +kernel
theorem tyJ5_ok : ∀ k, k < 0 → parseFieldDescriptor (TJ5 k).2.2.1 = some (tyJ5 k) := by decide +kernel
abbrev cJ5_init_d00df : ByteArray := prog_14_method_2_code
def yJ5_init_d00df : MethodName := ⟨RJ5, "<init>", "(I)V"⟩
abbrev cJ5_length_8abf5 : ByteArray := prog_14_method_6_code
def yJ5_length_8abf5 : MethodName := ⟨RJ5, "length", "()I"⟩
abbrev cJ5_ensureCapacityInternal_d00df : ByteArray := prog_14_method_9_code
def yJ5_ensureCapacityInternal_d00df : MethodName := ⟨RJ5, "ensureCapacityInternal", "(I)V"⟩
abbrev cJ5_newCapacity_0f7a4 : ByteArray := prog_14_method_10_code
def yJ5_newCapacity_0f7a4 : MethodName := ⟨RJ5, "newCapacity", "(I)I"⟩
abbrev cJ5_inflate_da8c8 : ByteArray := prog_14_method_11_code
def yJ5_inflate_da8c8 : MethodName := ⟨RJ5, "inflate", "()V"⟩
abbrev cJ5_append_cf1ce : ByteArray := prog_14_method_22_code
def yJ5_append_cf1ce : MethodName := ⟨RJ5, "append", "(Ljava/lang/String;)Ljava/lang/AbstractStringBuilder;"⟩
abbrev cJ5_appendNull_278bc : ByteArray := prog_14_method_26_code
def yJ5_appendNull_278bc : MethodName := ⟨RJ5, "appendNull", "()Ljava/lang/AbstractStringBuilder;"⟩
abbrev cJ5_append_3fe6f : ByteArray := prog_14_method_31_code
def yJ5_append_3fe6f : MethodName := ⟨RJ5, "append", "(C)Ljava/lang/AbstractStringBuilder;"⟩
abbrev cJ5_append_c97b9 : ByteArray := prog_14_method_32_code
def yJ5_append_c97b9 : MethodName := ⟨RJ5, "append", "(I)Ljava/lang/AbstractStringBuilder;"⟩
abbrev cJ5_getValue_6d5f1 : ByteArray := prog_14_method_64_code
def yJ5_getValue_6d5f1 : MethodName := ⟨RJ5, "getValue", "()[B"⟩
abbrev cJ5_isLatin1_aae02 : ByteArray := prog_14_method_68_code
def yJ5_isLatin1_aae02 : MethodName := ⟨RJ5, "isLatin1", "()Z"⟩
abbrev cJ5_inflateIfNeededFor_a7421 : ByteArray := prog_14_method_71_code
def yJ5_inflateIfNeededFor_a7421 : MethodName := ⟨RJ5, "inflateIfNeededFor", "(Ljava/lang/String;)V"⟩
abbrev cJ5_putStringAt_47b60 : ByteArray := prog_14_method_73_code
def yJ5_putStringAt_47b60 : MethodName := ⟨RJ5, "putStringAt", "(ILjava/lang/String;)V"⟩
def RJx2cfe8 : String := "java/lang/Appendable"
def TJx2cfe8 : u_T := fun k => match k with
  | _ => ("", "", "", false)
def tyJx2cfe8 : Nat → FieldType := fun k => match k with
  | _ => .int
abbrev wsJx2cfe80 : List Cond := u_ws RJx2cfe8 TJx2cfe8 0
theorem nmJx2cfe8 : ∀ a, a < 0 → ∀ b, b < 0 → a ≠ b → (TJx2cfe8 a).2.1 ≠ (TJx2cfe8 b).2.1 := by decide +kernel
theorem tyJx2cfe8_ok : ∀ k, k < 0 → parseFieldDescriptor (TJx2cfe8 k).2.2.1 = some (tyJx2cfe8 k) := by decide +kernel
def RJx9f9b0 : String := "java/lang/CharSequence"
def TJx9f9b0 : u_T := fun k => match k with
  | _ => ("", "", "", false)
def tyJx9f9b0 : Nat → FieldType := fun k => match k with
  | _ => .int
abbrev wsJx9f9b00 : List Cond := u_ws RJx9f9b0 TJx9f9b0 0
theorem nmJx9f9b0 : ∀ a, a < 0 → ∀ b, b < 0 → a ≠ b → (TJx9f9b0 a).2.1 ≠ (TJx9f9b0 b).2.1 := by decide +kernel
theorem tyJx9f9b0_ok : ∀ k, k < 0 → parseFieldDescriptor (TJx9f9b0 k).2.2.1 = some (tyJx9f9b0 k) := by decide +kernel
def RJx8e188 : String := "java/lang/Cloneable"
def TJx8e188 : u_T := fun k => match k with
  | _ => ("", "", "", false)
def tyJx8e188 : Nat → FieldType := fun k => match k with
  | _ => .int
abbrev wsJx8e1880 : List Cond := u_ws RJx8e188 TJx8e188 0
theorem nmJx8e188 : ∀ a, a < 0 → ∀ b, b < 0 → a ≠ b → (TJx8e188 a).2.1 ≠ (TJx8e188 b).2.1 := by decide +kernel
theorem tyJx8e188_ok : ∀ k, k < 0 → parseFieldDescriptor (TJx8e188 k).2.2.1 = some (tyJx8e188 k) := by decide +kernel
def RJxb160c : String := "java/lang/Comparable"
def TJxb160c : u_T := fun k => match k with
  | _ => ("", "", "", false)
def tyJxb160c : Nat → FieldType := fun k => match k with
  | _ => .int
abbrev wsJxb160c0 : List Cond := u_ws RJxb160c TJxb160c 0
theorem nmJxb160c : ∀ a, a < 0 → ∀ b, b < 0 → a ≠ b → (TJxb160c a).2.1 ≠ (TJxb160c b).2.1 := by decide +kernel
theorem tyJxb160c_ok : ∀ k, k < 0 → parseFieldDescriptor (TJxb160c k).2.2.1 = some (tyJxb160c k) := by decide +kernel
def RJ6 : String := "java/lang/Integer"
def TJ6 : u_T := fun k => match k with
  | _ => ("", "", "", false)
def tyJ6 : Nat → FieldType := fun k => match k with
  | _ => .int
abbrev wsJ60 : List Cond := u_ws RJ6 TJ6 0
theorem nmJ6 : ∀ a, a < 0 → ∀ b, b < 0 → a ≠ b → (TJ6 a).2.1 ≠ (TJ6 b).2.1 := by decide +kernel
theorem tyJ6_ok : ∀ k, k < 0 → parseFieldDescriptor (TJ6 k).2.2.1 = some (tyJ6 k) := by decide +kernel
abbrev cJ6_getChars_ba4f3 : ByteArray := prog_23_method_12_code
def yJ6_getChars_ba4f3 : MethodName := ⟨RJ6, "getChars", "(II[B)I"⟩
abbrev cJ6_stringSize_0f7a4 : ByteArray := prog_23_method_13_code
def yJ6_stringSize_0f7a4 : MethodName := ⟨RJ6, "stringSize", "(I)I"⟩
abbrev cJ6_bitCount_0f7a4 : ByteArray := prog_23_method_49_code
def yJ6_bitCount_0f7a4 : MethodName := ⟨RJ6, "bitCount", "(I)I"⟩
def RJxab1ab : String := "java/lang/Iterable"
def TJxab1ab : u_T := fun k => match k with
  | _ => ("", "", "", false)
def tyJxab1ab : Nat → FieldType := fun k => match k with
  | _ => .int
abbrev wsJxab1ab0 : List Cond := u_ws RJxab1ab TJxab1ab 0
theorem nmJxab1ab : ∀ a, a < 0 → ∀ b, b < 0 → a ≠ b → (TJxab1ab a).2.1 ≠ (TJxab1ab b).2.1 := by decide +kernel
theorem tyJxab1ab_ok : ∀ k, k < 0 → parseFieldDescriptor (TJxab1ab k).2.2.1 = some (tyJxab1ab k) := by decide +kernel
def RJ9 : String := "java/lang/Math"
def TJ9 : u_T := fun k => match k with
  | _ => ("", "", "", false)
def tyJ9 : Nat → FieldType := fun k => match k with
  | _ => .int
abbrev wsJ90 : List Cond := u_ws RJ9 TJ9 0
theorem nmJ9 : ∀ a, a < 0 → ∀ b, b < 0 → a ≠ b → (TJ9 a).2.1 ≠ (TJ9 b).2.1 := by decide +kernel
theorem tyJ9_ok : ∀ k, k < 0 → parseFieldDescriptor (TJ9 k).2.2.1 = some (tyJ9 k) := by decide +kernel
abbrev cJ9_floorDiv_7cf53 : ByteArray := prog_25_method_47_code
def yJ9_floorDiv_7cf53 : MethodName := ⟨RJ9, "floorDiv", "(II)I"⟩
abbrev cJ9_abs_0f7a4 : ByteArray := prog_25_method_59_code
def yJ9_abs_0f7a4 : MethodName := ⟨RJ9, "abs", "(I)I"⟩
abbrev cJ9_max_7cf53 : ByteArray := prog_25_method_65_code
def yJ9_max_7cf53 : MethodName := ⟨RJ9, "max", "(II)I"⟩
abbrev cJ9_min_7cf53 : ByteArray := prog_25_method_69_code
def yJ9_min_7cf53 : MethodName := ⟨RJ9, "min", "(II)I"⟩
def RJxd2413 : String := "java/lang/Number"
def TJxd2413 : u_T := fun k => match k with
  | _ => ("", "", "", false)
def tyJxd2413 : Nat → FieldType := fun k => match k with
  | _ => .int
abbrev wsJxd24130 : List Cond := u_ws RJxd2413 TJxd2413 0
theorem nmJxd2413 : ∀ a, a < 0 → ∀ b, b < 0 → a ≠ b → (TJxd2413 a).2.1 ≠ (TJxd2413 b).2.1 := by decide +kernel
theorem tyJxd2413_ok : ∀ k, k < 0 → parseFieldDescriptor (TJxd2413 k).2.2.1 = some (tyJxd2413 k) := by decide +kernel
def RJ0 : String := "java/lang/String"
def TJ0 : u_T := fun k => match k with
  | 0 => ("java/lang/String", "value", "[B", true)
  | 1 => ("java/lang/String", "coder", "B", true)
  | 2 => ("java/lang/String", "hash", "I", false)
  | _ => ("java/lang/String", "hashIsZero", "Z", false)
def tyJ0 : Nat → FieldType := fun k => match k with
  | 0 => .array .byte
  | 1 => .byte
  | 2 => .int
  | _ => .boolean
abbrev wsJ00 : List Cond := u_ws RJ0 TJ0 4
theorem nmJ0 : ∀ a, a < 4 → ∀ b, b < 4 → a ≠ b → (TJ0 a).2.1 ≠ (TJ0 b).2.1 := by decide +kernel
theorem tyJ0_ok : ∀ k, k < 4 → parseFieldDescriptor (TJ0 k).2.2.1 = some (tyJ0 k) := by decide +kernel
abbrev cJ0_init_81219 : ByteArray := prog_28_method_53_code
def yJ0_init_81219 : MethodName := ⟨RJ0, "<init>", "(Ljava/lang/StringBuilder;)V"⟩
abbrev cJ0_length_8abf5 : ByteArray := prog_28_method_54_code
def yJ0_length_8abf5 : MethodName := ⟨RJ0, "length", "()I"⟩
abbrev cJ0_equals_9ea2d : ByteArray := prog_28_method_66_code
def yJ0_equals_9ea2d : MethodName := ⟨RJ0, "equals", "(Ljava/lang/Object;)Z"⟩
abbrev cJ0_getBytes_840e7 : ByteArray := prog_28_method_147_code
def yJ0_getBytes_840e7 : MethodName := ⟨RJ0, "getBytes", "([BIB)V"⟩
abbrev cJ0_init_db425 : ByteArray := prog_28_method_150_code
def yJ0_init_db425 : MethodName := ⟨RJ0, "<init>", "(Ljava/lang/AbstractStringBuilder;Ljava/lang/Void;)V"⟩
abbrev cJ0_coder_7d493 : ByteArray := prog_28_method_152_code
def yJ0_coder_7d493 : MethodName := ⟨RJ0, "coder", "()B"⟩
abbrev cJ0_checkIndex_df160 : ByteArray := prog_28_method_155_code
def yJ0_checkIndex_df160 : MethodName := ⟨RJ0, "checkIndex", "(II)V"⟩
abbrev cJ0_checkBoundsOffCount_cabcc : ByteArray := prog_28_method_157_code
def yJ0_checkBoundsOffCount_cabcc : MethodName := ⟨RJ0, "checkBoundsOffCount", "(III)I"⟩
abbrev cJ0_checkBoundsBeginEnd_23922 : ByteArray := prog_28_method_158_code
def yJ0_checkBoundsBeginEnd_23922 : MethodName := ⟨RJ0, "checkBoundsBeginEnd", "(III)V"⟩
def RJ4 : String := "java/lang/StringBuilder"
def TJ4 : u_T := fun k => match k with
  | 0 => ("java/lang/AbstractStringBuilder", "value", "[B", false)
  | 1 => ("java/lang/AbstractStringBuilder", "coder", "B", false)
  | 2 => ("java/lang/AbstractStringBuilder", "maybeLatin1", "Z", false)
  | _ => ("java/lang/AbstractStringBuilder", "count", "I", false)
def tyJ4 : Nat → FieldType := fun k => match k with
  | 0 => .array .byte
  | 1 => .byte
  | 2 => .boolean
  | _ => .int
abbrev wsJ40 : List Cond := u_ws RJ4 TJ4 4
theorem nmJ4 : ∀ a, a < 4 → ∀ b, b < 4 → a ≠ b → (TJ4 a).2.1 ≠ (TJ4 b).2.1 := by decide +kernel
theorem tyJ4_ok : ∀ k, k < 4 → parseFieldDescriptor (TJ4 k).2.2.1 = some (tyJ4 k) := by decide +kernel
abbrev cJ4_init_da8c8 : ByteArray := prog_29_method_1_code
def yJ4_init_da8c8 : MethodName := ⟨RJ4, "<init>", "()V"⟩
abbrev cJ4_append_15ec4 : ByteArray := prog_29_method_7_code
def yJ4_append_15ec4 : MethodName := ⟨RJ4, "append", "(Ljava/lang/String;)Ljava/lang/StringBuilder;"⟩
abbrev cJ4_append_cf468 : ByteArray := prog_29_method_14_code
def yJ4_append_cf468 : MethodName := ⟨RJ4, "append", "(C)Ljava/lang/StringBuilder;"⟩
abbrev cJ4_append_bf812 : ByteArray := prog_29_method_15_code
def yJ4_append_bf812 : MethodName := ⟨RJ4, "append", "(I)Ljava/lang/StringBuilder;"⟩
abbrev cJ4_toString_0e30d : ByteArray := prog_29_method_42_code
def yJ4_toString_0e30d : MethodName := ⟨RJ4, "toString", "()Ljava/lang/String;"⟩
abbrev cJ4_length_8abf5 : ByteArray := prog_29_method_93_code
def yJ4_length_8abf5 : MethodName := ⟨RJ4, "length", "()I"⟩
def RJ1 : String := "java/lang/StringLatin1"
def TJ1 : u_T := fun k => match k with
  | _ => ("", "", "", false)
def tyJ1 : Nat → FieldType := fun k => match k with
  | _ => .int
abbrev wsJ10 : List Cond := u_ws RJ1 TJ1 0
theorem nmJ1 : ∀ a, a < 0 → ∀ b, b < 0 → a ≠ b → (TJ1 a).2.1 ≠ (TJ1 b).2.1 := by decide +kernel
theorem tyJ1_ok : ∀ k, k < 0 → parseFieldDescriptor (TJ1 k).2.2.1 = some (tyJ1 k) := by decide +kernel
abbrev cJ1_canEncode_fc78d : ByteArray := prog_30_method_3_code
def yJ1_canEncode_fc78d : MethodName := ⟨RJ1, "canEncode", "(C)Z"⟩
abbrev cJ1_equals_b5fdf : ByteArray := prog_30_method_13_code
def yJ1_equals_b5fdf : MethodName := ⟨RJ1, "equals", "([B[B)Z"⟩
abbrev cJ1_inflate_0e8fd : ByteArray := prog_30_method_50_code
def yJ1_inflate_0e8fd : MethodName := ⟨RJ1, "inflate", "([BI[BII)V"⟩
def RJ2 : String := "java/lang/StringUTF16"
def TJ2 : u_T := fun k => match k with
  | _ => ("", "", "", false)
def tyJ2 : Nat → FieldType := fun k => match k with
  | _ => .int
abbrev wsJ20 : List Cond := u_ws RJ2 TJ2 0
theorem nmJ2 : ∀ a, a < 0 → ∀ b, b < 0 → a ≠ b → (TJ2 a).2.1 ≠ (TJ2 b).2.1 := by decide +kernel
theorem tyJ2_ok : ∀ k, k < 0 → parseFieldDescriptor (TJ2 k).2.2.1 = some (tyJ2 k) := by decide +kernel
abbrev cJ2_newBytesFor_77867 : ByteArray := prog_31_method_2_code
def yJ2_newBytesFor_77867 : MethodName := ⟨RJ2, "newBytesFor", "(I)[B"⟩
abbrev cJ2_newBytesLength_0f7a4 : ByteArray := prog_31_method_3_code
def yJ2_newBytesLength_0f7a4 : MethodName := ⟨RJ2, "newBytesLength", "(I)I"⟩
abbrev cJ2_putChar_b72d1 : ByteArray := prog_31_method_4_code
def yJ2_putChar_b72d1 : MethodName := ⟨RJ2, "putChar", "([BII)V"⟩
abbrev cJ2_getChar_3b067 : ByteArray := prog_31_method_5_code
def yJ2_getChar_3b067 : MethodName := ⟨RJ2, "getChar", "([BI)C"⟩
abbrev cJ2_length_9d52b : ByteArray := prog_31_method_6_code
def yJ2_length_9d52b : MethodName := ⟨RJ2, "length", "([B)I"⟩
abbrev cJ2_coderFromArrayLen_85cad : ByteArray := prog_31_method_15_code
def yJ2_coderFromArrayLen_85cad : MethodName := ⟨RJ2, "coderFromArrayLen", "([BI)B"⟩
abbrev cJ2_compress_39247 : ByteArray := prog_31_method_17_code
def yJ2_compress_39247 : MethodName := ⟨RJ2, "compress", "([BII)[B"⟩
abbrev cJ2_compress_5af95 : ByteArray := prog_31_method_22_code
def yJ2_compress_5af95 : MethodName := ⟨RJ2, "compress", "([BI[BII)I"⟩
abbrev cJ2_putCharSB_b72d1 : ByteArray := prog_31_method_71_code
def yJ2_putCharSB_b72d1 : MethodName := ⟨RJ2, "putCharSB", "([BII)V"⟩
abbrev cJ2_getChars_46870 : ByteArray := prog_31_method_77_code
def yJ2_getChars_46870 : MethodName := ⟨RJ2, "getChars", "(III[B)I"⟩
abbrev cJ2_putCharsAt_cd4e5 : ByteArray := prog_31_method_81_code
def yJ2_putCharsAt_cd4e5 : MethodName := ⟨RJ2, "putCharsAt", "([BICCCC)I"⟩
abbrev cJ2_inflate_0e8fd : ByteArray := prog_31_method_86_code
def yJ2_inflate_0e8fd : MethodName := ⟨RJ2, "inflate", "([BI[BII)V"⟩
abbrev cJ2_getChars_ba4f3 : ByteArray := prog_31_method_89_code
def yJ2_getChars_ba4f3 : MethodName := ⟨RJ2, "getChars", "(II[B)I"⟩
abbrev cJ2_checkIndex_2214a : ByteArray := prog_31_method_91_code
def yJ2_checkIndex_2214a : MethodName := ⟨RJ2, "checkIndex", "(I[B)V"⟩
abbrev cJ2_checkBoundsBeginEnd_d044e : ByteArray := prog_31_method_93_code
def yJ2_checkBoundsBeginEnd_d044e : MethodName := ⟨RJ2, "checkBoundsBeginEnd", "(II[B)V"⟩
abbrev cJ2_checkBoundsOffCount_d044e : ByteArray := prog_31_method_94_code
def yJ2_checkBoundsOffCount_d044e : MethodName := ⟨RJ2, "checkBoundsOffCount", "(II[B)V"⟩
def RJ10 : String := "java/lang/System"
def TJ10 : u_T := fun k => match k with
  | _ => ("", "", "", false)
def tyJ10 : Nat → FieldType := fun k => match k with
  | _ => .int
abbrev wsJ100 : List Cond := u_ws RJ10 TJ10 0
theorem nmJ10 : ∀ a, a < 0 → ∀ b, b < 0 → a ≠ b → (TJ10 a).2.1 ≠ (TJ10 b).2.1 := by decide +kernel
theorem tyJ10_ok : ∀ k, k < 0 → parseFieldDescriptor (TJ10 k).2.2.1 = some (tyJ10 k) := by decide +kernel
def RJxfd54e : String := "java/lang/constant/Constable"
def TJxfd54e : u_T := fun k => match k with
  | _ => ("", "", "", false)
def tyJxfd54e : Nat → FieldType := fun k => match k with
  | _ => .int
abbrev wsJxfd54e0 : List Cond := u_ws RJxfd54e TJxfd54e 0
theorem nmJxfd54e : ∀ a, a < 0 → ∀ b, b < 0 → a ≠ b → (TJxfd54e a).2.1 ≠ (TJxfd54e b).2.1 := by decide +kernel
theorem tyJxfd54e_ok : ∀ k, k < 0 → parseFieldDescriptor (TJxfd54e k).2.2.1 = some (tyJxfd54e k) := by decide +kernel
def RJx3cf43 : String := "java/lang/constant/ConstantDesc"
def TJx3cf43 : u_T := fun k => match k with
  | _ => ("", "", "", false)
def tyJx3cf43 : Nat → FieldType := fun k => match k with
  | _ => .int
abbrev wsJx3cf430 : List Cond := u_ws RJx3cf43 TJx3cf43 0
theorem nmJx3cf43 : ∀ a, a < 0 → ∀ b, b < 0 → a ≠ b → (TJx3cf43 a).2.1 ≠ (TJx3cf43 b).2.1 := by decide +kernel
theorem tyJx3cf43_ok : ∀ k, k < 0 → parseFieldDescriptor (TJx3cf43 k).2.2.1 = some (tyJx3cf43 k) := by decide +kernel
def RJxa1e45 : String := "java/util/AbstractCollection"
def TJxa1e45 : u_T := fun k => match k with
  | _ => ("", "", "", false)
def tyJxa1e45 : Nat → FieldType := fun k => match k with
  | _ => .int
abbrev wsJxa1e450 : List Cond := u_ws RJxa1e45 TJxa1e45 0
theorem nmJxa1e45 : ∀ a, a < 0 → ∀ b, b < 0 → a ≠ b → (TJxa1e45 a).2.1 ≠ (TJxa1e45 b).2.1 := by decide +kernel
theorem tyJxa1e45_ok : ∀ k, k < 0 → parseFieldDescriptor (TJxa1e45 k).2.2.1 = some (tyJxa1e45 k) := by decide +kernel
abbrev cJxa1e45_init_da8c8 : ByteArray := prog_36_method_1_code
def yJxa1e45_init_da8c8 : MethodName := ⟨RJxa1e45, "<init>", "()V"⟩
def RJxc12de : String := "java/util/AbstractList"
def TJxc12de : u_T := fun k => match k with
  | _ => ("", "", "", false)
def tyJxc12de : Nat → FieldType := fun k => match k with
  | _ => .int
abbrev wsJxc12de0 : List Cond := u_ws RJxc12de TJxc12de 0
theorem nmJxc12de : ∀ a, a < 0 → ∀ b, b < 0 → a ≠ b → (TJxc12de a).2.1 ≠ (TJxc12de b).2.1 := by decide +kernel
theorem tyJxc12de_ok : ∀ k, k < 0 → parseFieldDescriptor (TJxc12de k).2.2.1 = some (tyJxc12de k) := by decide +kernel
abbrev cJxc12de_init_da8c8 : ByteArray := prog_37_method_1_code
def yJxc12de_init_da8c8 : MethodName := ⟨RJxc12de, "<init>", "()V"⟩
def RJx4a65c : String := "java/util/ArrayList"
def TJx4a65c : u_T := fun k => match k with
  | 0 => ("java/util/AbstractList", "modCount", "I", false)
  | 1 => ("java/util/ArrayList", "elementData", "[Ljava/lang/Object;", false)
  | _ => ("java/util/ArrayList", "size", "I", false)
def tyJx4a65c : Nat → FieldType := fun k => match k with
  | 0 => .int
  | 1 => .array (.object "java/lang/Object")
  | _ => .int
abbrev wsJx4a65c0 : List Cond := u_ws RJx4a65c TJx4a65c 3
theorem nmJx4a65c : ∀ a, a < 3 → ∀ b, b < 3 → a ≠ b → (TJx4a65c a).2.1 ≠ (TJx4a65c b).2.1 := by decide +kernel
theorem tyJx4a65c_ok : ∀ k, k < 3 → parseFieldDescriptor (TJx4a65c k).2.2.1 = some (tyJx4a65c k) := by decide +kernel
abbrev cJx4a65c_init_da8c8 : ByteArray := prog_38_method_2_code
def yJx4a65c_init_da8c8 : MethodName := ⟨RJx4a65c, "<init>", "()V"⟩
abbrev cJx4a65c_grow_92f84 : ByteArray := prog_38_method_6_code
def yJx4a65c_grow_92f84 : MethodName := ⟨RJx4a65c, "grow", "(I)[Ljava/lang/Object;"⟩
abbrev cJx4a65c_grow_d5877 : ByteArray := prog_38_method_7_code
def yJx4a65c_grow_d5877 : MethodName := ⟨RJx4a65c, "grow", "()[Ljava/lang/Object;"⟩
abbrev cJx4a65c_size_8abf5 : ByteArray := prog_38_method_8_code
def yJx4a65c_size_8abf5 : MethodName := ⟨RJx4a65c, "size", "()I"⟩
abbrev cJx4a65c_elementData_915e3 : ByteArray := prog_38_method_18_code
def yJx4a65c_elementData_915e3 : MethodName := ⟨RJx4a65c, "elementData", "(I)Ljava/lang/Object;"⟩
abbrev cJx4a65c_get_915e3 : ByteArray := prog_38_method_20_code
def yJx4a65c_get_915e3 : MethodName := ⟨RJx4a65c, "get", "(I)Ljava/lang/Object;"⟩
abbrev cJx4a65c_add_72be8 : ByteArray := prog_38_method_24_code
def yJx4a65c_add_72be8 : MethodName := ⟨RJx4a65c, "add", "(Ljava/lang/Object;[Ljava/lang/Object;I)V"⟩
abbrev cJx4a65c_add_9ea2d : ByteArray := prog_38_method_25_code
def yJx4a65c_add_9ea2d : MethodName := ⟨RJx4a65c, "add", "(Ljava/lang/Object;)Z"⟩
abbrev cJx4a65c_remove_915e3 : ByteArray := prog_38_method_29_code
def yJx4a65c_remove_915e3 : MethodName := ⟨RJx4a65c, "remove", "(I)Ljava/lang/Object;"⟩
abbrev cJx4a65c_fastRemove_b59b0 : ByteArray := prog_38_method_39_code
def yJx4a65c_fastRemove_b59b0 : MethodName := ⟨RJx4a65c, "fastRemove", "([Ljava/lang/Object;I)V"⟩
def RJ7 : String := "java/util/Arrays"
def TJ7 : u_T := fun k => match k with
  | _ => ("", "", "", false)
def tyJ7 : Nat → FieldType := fun k => match k with
  | _ => .int
abbrev wsJ70 : List Cond := u_ws RJ7 TJ7 0
theorem nmJ7 : ∀ a, a < 0 → ∀ b, b < 0 → a ≠ b → (TJ7 a).2.1 ≠ (TJ7 b).2.1 := by decide +kernel
theorem tyJ7_ok : ∀ k, k < 0 → parseFieldDescriptor (TJ7 k).2.2.1 = some (tyJ7 k) := by decide +kernel
abbrev cJ7_copyOf_1904c : ByteArray := prog_39_method_119_code
def yJ7_copyOf_1904c : MethodName := ⟨RJ7, "copyOf", "([Ljava/lang/Object;I)[Ljava/lang/Object;"⟩
abbrev cJ7_copyOf_6403c : ByteArray := prog_39_method_120_code
def yJ7_copyOf_6403c : MethodName := ⟨RJ7, "copyOf", "([Ljava/lang/Object;ILjava/lang/Class;)[Ljava/lang/Object;"⟩
abbrev cJ7_copyOf_9075b : ByteArray := prog_39_method_121_code
def yJ7_copyOf_9075b : MethodName := ⟨RJ7, "copyOf", "([BI)[B"⟩
abbrev cJ7_checkLength_df160 : ByteArray := prog_39_method_131_code
def yJ7_checkLength_df160 : MethodName := ⟨RJ7, "checkLength", "(II)V"⟩
abbrev cJ7_copyOfRange_39247 : ByteArray := prog_39_method_132_code
def yJ7_copyOfRange_39247 : MethodName := ⟨RJ7, "copyOfRange", "([BII)[B"⟩
abbrev cJ7_copyOfRangeByte_39247 : ByteArray := prog_39_method_133_code
def yJ7_copyOfRangeByte_39247 : MethodName := ⟨RJ7, "copyOfRangeByte", "([BII)[B"⟩
def RJx5ef63 : String := "java/util/Collection"
def TJx5ef63 : u_T := fun k => match k with
  | _ => ("", "", "", false)
def tyJx5ef63 : Nat → FieldType := fun k => match k with
  | _ => .int
abbrev wsJx5ef630 : List Cond := u_ws RJx5ef63 TJx5ef63 0
theorem nmJx5ef63 : ∀ a, a < 0 → ∀ b, b < 0 → a ≠ b → (TJx5ef63 a).2.1 ≠ (TJx5ef63 b).2.1 := by decide +kernel
theorem tyJx5ef63_ok : ∀ k, k < 0 → parseFieldDescriptor (TJx5ef63 k).2.2.1 = some (tyJx5ef63 k) := by decide +kernel
def RJxbd725 : String := "java/util/List"
def TJxbd725 : u_T := fun k => match k with
  | _ => ("", "", "", false)
def tyJxbd725 : Nat → FieldType := fun k => match k with
  | _ => .int
abbrev wsJxbd7250 : List Cond := u_ws RJxbd725 TJxbd725 0
theorem nmJxbd725 : ∀ a, a < 0 → ∀ b, b < 0 → a ≠ b → (TJxbd725 a).2.1 ≠ (TJxbd725 b).2.1 := by decide +kernel
theorem tyJxbd725_ok : ∀ k, k < 0 → parseFieldDescriptor (TJxbd725 k).2.2.1 = some (tyJxbd725 k) := by decide +kernel
def RJ15 : String := "java/util/Objects"
def TJ15 : u_T := fun k => match k with
  | _ => ("", "", "", false)
def tyJ15 : Nat → FieldType := fun k => match k with
  | _ => .int
abbrev wsJ150 : List Cond := u_ws RJ15 TJ15 0
theorem nmJ15 : ∀ a, a < 0 → ∀ b, b < 0 → a ≠ b → (TJ15 a).2.1 ≠ (TJ15 b).2.1 := by decide +kernel
theorem tyJ15_ok : ∀ k, k < 0 → parseFieldDescriptor (TJ15 k).2.2.1 = some (tyJ15 k) := by decide +kernel
abbrev cJ15_checkIndex_7cf53 : ByteArray := prog_42_method_17_code
def yJ15_checkIndex_7cf53 : MethodName := ⟨RJ15, "checkIndex", "(II)I"⟩
def RJxf0a74 : String := "java/util/RandomAccess"
def TJxf0a74 : u_T := fun k => match k with
  | _ => ("", "", "", false)
def tyJxf0a74 : Nat → FieldType := fun k => match k with
  | _ => .int
abbrev wsJxf0a740 : List Cond := u_ws RJxf0a74 TJxf0a74 0
theorem nmJxf0a74 : ∀ a, a < 0 → ∀ b, b < 0 → a ≠ b → (TJxf0a74 a).2.1 ≠ (TJxf0a74 b).2.1 := by decide +kernel
theorem tyJxf0a74_ok : ∀ k, k < 0 → parseFieldDescriptor (TJxf0a74 k).2.2.1 = some (tyJxf0a74 k) := by decide +kernel
def RJxa66e6 : String := "java/util/SequencedCollection"
def TJxa66e6 : u_T := fun k => match k with
  | _ => ("", "", "", false)
def tyJxa66e6 : Nat → FieldType := fun k => match k with
  | _ => .int
abbrev wsJxa66e60 : List Cond := u_ws RJxa66e6 TJxa66e6 0
theorem nmJxa66e6 : ∀ a, a < 0 → ∀ b, b < 0 → a ≠ b → (TJxa66e6 a).2.1 ≠ (TJxa66e6 b).2.1 := by decide +kernel
theorem tyJxa66e6_ok : ∀ k, k < 0 → parseFieldDescriptor (TJxa66e6 k).2.2.1 = some (tyJxa66e6 k) := by decide +kernel
def RJ8 : String := "jdk/internal/util/ArraysSupport"
def TJ8 : u_T := fun k => match k with
  | _ => ("", "", "", false)
def tyJ8 : Nat → FieldType := fun k => match k with
  | _ => .int
abbrev wsJ80 : List Cond := u_ws RJ8 TJ8 0
theorem nmJ8 : ∀ a, a < 0 → ∀ b, b < 0 → a ≠ b → (TJ8 a).2.1 ≠ (TJ8 b).2.1 := by decide +kernel
theorem tyJ8_ok : ∀ k, k < 0 → parseFieldDescriptor (TJ8 k).2.2.1 = some (tyJ8 k) := by decide +kernel
abbrev cJ8_newLength_cabcc : ByteArray := prog_45_method_27_code
def yJ8_newLength_cabcc : MethodName := ⟨RJ8, "newLength", "(III)I"⟩
abbrev cJ8_hugeLength_7cf53 : ByteArray := prog_45_method_28_code
def yJ8_hugeLength_7cf53 : MethodName := ⟨RJ8, "hugeLength", "(II)I"⟩
def RJ3 : String := "jdk/internal/util/Preconditions"
def TJ3 : u_T := fun k => match k with
  | _ => ("", "", "", false)
def tyJ3 : Nat → FieldType := fun k => match k with
  | _ => .int
abbrev wsJ30 : List Cond := u_ws RJ3 TJ3 0
theorem nmJ3 : ∀ a, a < 0 → ∀ b, b < 0 → a ≠ b → (TJ3 a).2.1 ≠ (TJ3 b).2.1 := by decide +kernel
theorem tyJ3_ok : ∀ k, k < 0 → parseFieldDescriptor (TJ3 k).2.2.1 = some (tyJ3 k) := by decide +kernel
abbrev cJ3_checkIndex_8e157 : ByteArray := prog_46_method_11_code
def yJ3_checkIndex_8e157 : MethodName := ⟨RJ3, "checkIndex", "(IILjava/util/function/BiFunction;)I"⟩
abbrev cJ3_checkFromToIndex_8c36e : ByteArray := prog_46_method_12_code
def yJ3_checkFromToIndex_8c36e : MethodName := ⟨RJ3, "checkFromToIndex", "(IIILjava/util/function/BiFunction;)I"⟩
abbrev cJ3_checkFromIndexSize_8c36e : ByteArray := prog_46_method_13_code
def yJ3_checkFromIndexSize_8c36e : MethodName := ⟨RJ3, "checkFromIndexSize", "(IIILjava/util/function/BiFunction;)I"⟩
def RL : String := "VersorhallLaw"
abbrev cL_prime : ByteArray := method_2_code
def yL_prime : MethodName := ⟨RL, "prime", "(LVersorhall;ILVersorhallLaw$Out;)I"⟩
abbrev cL_algebra : ByteArray := method_3_code
def yL_algebra : MethodName := ⟨RL, "algebra", "(LVersorhall;ILVersorhallLaw$Out;)I"⟩
abbrev cL_dial : ByteArray := method_4_code
def yL_dial : MethodName := ⟨RL, "dial", "(LVersorhall;IILVersorhallLaw$Out;)I"⟩
abbrev cL_element : ByteArray := method_5_code
def yL_element : MethodName := ⟨RL, "element", "(LVersorhall;ILVersorhallLaw$Out;)I"⟩
abbrev cL_set : ByteArray := method_6_code
def yL_set : MethodName := ⟨RL, "set", "(LVersorhall;IIILVersorhallLaw$Out;)I"⟩
abbrev cL_sum : ByteArray := method_7_code
def yL_sum : MethodName := ⟨RL, "sum", "(LVersorhall;IIILVersorhallLaw$Out;)I"⟩
abbrev cL_product : ByteArray := method_8_code
def yL_product : MethodName := ⟨RL, "product", "(LVersorhall;IIILVersorhallLaw$Out;)I"⟩
abbrev cL_scale : ByteArray := method_9_code
def yL_scale : MethodName := ⟨RL, "scale", "(LVersorhall;IIILVersorhallLaw$Out;)I"⟩
abbrev cL_conjugate : ByteArray := method_10_code
def yL_conjugate : MethodName := ⟨RL, "conjugate", "(LVersorhall;IILVersorhallLaw$Out;)I"⟩
abbrev cL_power : ByteArray := method_11_code
def yL_power : MethodName := ⟨RL, "power", "(LVersorhall;IIILVersorhallLaw$Out;)I"⟩
abbrev cL_invert : ByteArray := method_12_code
def yL_invert : MethodName := ⟨RL, "invert", "(LVersorhall;IILVersorhallLaw$Out;)I"⟩
abbrev cL_series : ByteArray := method_13_code
def yL_series : MethodName := ⟨RL, "series", "(LVersorhall;IILVersorhallLaw$Out;)I"⟩
abbrev cL_killer : ByteArray := method_14_code
def yL_killer : MethodName := ⟨RL, "killer", "(LVersorhall;IILVersorhallLaw$Out;)I"⟩
abbrev cL_hang : ByteArray := method_15_code
def yL_hang : MethodName := ⟨RL, "hang", "(LVersorhall;ILVersorhallLaw$Out;)I"⟩
abbrev cL_clear : ByteArray := method_16_code
def yL_clear : MethodName := ⟨RL, "clear", "(LVersorhall;ILVersorhallLaw$Out;)I"⟩
abbrev cL_mirror : ByteArray := method_17_code
def yL_mirror : MethodName := ⟨RL, "mirror", "(LVersorhall;IIILVersorhallLaw$Out;)I"⟩
abbrev cL_turn : ByteArray := method_18_code
def yL_turn : MethodName := ⟨RL, "turn", "(LVersorhall;IILVersorhallLaw$Out;)I"⟩
abbrev cL_versor : ByteArray := method_19_code
def yL_versor : MethodName := ⟨RL, "versor", "(LVersorhall;ILVersorhallLaw$Out;)I"⟩
abbrev cL_run : ByteArray := method_20_code
def yL_run : MethodName := ⟨RL, "run", "(LVersorhall;IILVersorhallLaw$Out;)I"⟩
abbrev cL_at : ByteArray := method_21_code
def yL_at : MethodName := ⟨RL, "at", "(LVersorhall;IILVersorhallLaw$Out;)I"⟩
abbrev cL_ofElement : ByteArray := method_22_code
def yL_ofElement : MethodName := ⟨RL, "ofElement", "(LVersorhall;IILVersorhallLaw$Out;)I"⟩
abbrev cL_text : ByteArray := method_23_code
def yL_text : MethodName := ⟨RL, "text", "(LVersorhall;ILVersorhallLaw$Out;)I"⟩
abbrev cL_ofAlgebra : ByteArray := method_24_code
def yL_ofAlgebra : MethodName := ⟨RL, "ofAlgebra", "(LVersorhall;IILVersorhallLaw$Out;)I"⟩
abbrev cL_sign : ByteArray := method_25_code
def yL_sign : MethodName := ⟨RL, "sign", "(LVersorhall;IIILVersorhallLaw$Out;)I"⟩
abbrev cL_breaks : ByteArray := method_26_code
def yL_breaks : MethodName := ⟨RL, "breaks", "(LVersorhall;IILVersorhallLaw$Out;)I"⟩
abbrev cL_lean : ByteArray := method_27_code
def yL_lean : MethodName := ⟨RL, "lean", "(LVersorhall;ILVersorhallLaw$Out;)I"⟩
abbrev cL_many : ByteArray := method_28_code
def yL_many : MethodName := ⟨RL, "many", "(LVersorhall;ILVersorhallLaw$Out;)I"⟩
abbrev cL_apart : ByteArray := method_29_code
def yL_apart : MethodName := ⟨RL, "apart", "(LVersorhall;IILVersorhallLaw$Out;)I"⟩
abbrev cL_row : ByteArray := method_30_code
def yL_row : MethodName := ⟨RL, "row", "(LVersorhall;IILVersorhallLaw$Out;)I"⟩
abbrev cL_match : ByteArray := method_31_code
def yL_match : MethodName := ⟨RL, "match", "(LVersorhall;IILVersorhallLaw$Out;)I"⟩
abbrev cL_scaleOf : ByteArray := method_32_code
def yL_scaleOf : MethodName := ⟨RL, "scaleOf", "(LVersorhall;IIILVersorhallLaw$Out;)I"⟩
abbrev cL_law : ByteArray := code
def yL_law : MethodName := ⟨RL, "law", "([I)Z"⟩
abbrev vwCl : List vw_C := [(RJ0, TJ0, 4), (RJ4, TJ4, 4), (RJx4a65c, TJx4a65c, 3), (RX0, TX0, 11), (RX1, TX1, 2), (RX2, TX2, 1), (RX3, TX3, 2), (RX4, TX4, 1), (RX5, TX5, 3), (RX6, TX6, 9), (RX7, TX7, 3), (RX8, TX8, 6), (RX9, TX9, 2), (RX10, TX10, 5)]
