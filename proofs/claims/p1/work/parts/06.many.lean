def wsX6_allUnits : List Cond := .code yX6_allUnits cX6_allUnits 6 (some .int) :: ([.fieldLink RX6 15 "Versorhall" "algebras" "[LVersorhall$Algebra;", .fieldLink RX6 87 "Versorhall$Algebra" "units" "I"] ++ wsX60 ++ wsX00)
theorem dX6_allUnits_0 : decode cX6_allUnits 0 = .ok (.iconst 0, 1) := by decide +kernel
theorem dX6_allUnits_1 : decode cX6_allUnits 1 = .ok (.istore_n 1, 1) := by decide +kernel
theorem dX6_allUnits_2 : decode cX6_allUnits 2 = .ok (.aload_n 0, 1) := by decide +kernel
theorem dX6_allUnits_3 : decode cX6_allUnits 3 = .ok (.getfield 15, 3) := by decide +kernel
theorem dX6_allUnits_6 : decode cX6_allUnits 6 = .ok (.astore_n 2, 1) := by decide +kernel
theorem dX6_allUnits_7 : decode cX6_allUnits 7 = .ok (.aload_n 2, 1) := by decide +kernel
theorem dX6_allUnits_8 : decode cX6_allUnits 8 = .ok (.arraylength, 1) := by decide +kernel
theorem dX6_allUnits_9 : decode cX6_allUnits 9 = .ok (.istore_n 3, 1) := by decide +kernel
theorem dX6_allUnits_10 : decode cX6_allUnits 10 = .ok (.iconst 0, 1) := by decide +kernel
theorem dX6_allUnits_11 : decode cX6_allUnits 11 = .ok (.istore 4, 2) := by decide +kernel
theorem dX6_allUnits_13 : decode cX6_allUnits 13 = .ok (.iload 4, 2) := by decide +kernel
theorem dX6_allUnits_15 : decode cX6_allUnits 15 = .ok (.iload_n 3, 1) := by decide +kernel
theorem dX6_allUnits_16 : decode cX6_allUnits 16 = .ok (.if_icmp .ge 28, 3) := by decide +kernel
theorem dX6_allUnits_19 : decode cX6_allUnits 19 = .ok (.aload_n 2, 1) := by decide +kernel
theorem dX6_allUnits_20 : decode cX6_allUnits 20 = .ok (.iload 4, 2) := by decide +kernel
theorem dX6_allUnits_22 : decode cX6_allUnits 22 = .ok (.aaload, 1) := by decide +kernel
theorem dX6_allUnits_23 : decode cX6_allUnits 23 = .ok (.astore 5, 2) := by decide +kernel
theorem dX6_allUnits_25 : decode cX6_allUnits 25 = .ok (.aload 5, 2) := by decide +kernel
theorem dX6_allUnits_27 : decode cX6_allUnits 27 = .ok (.ifnull 11, 3) := by decide +kernel
theorem dX6_allUnits_38 : decode cX6_allUnits 38 = .ok (.iinc 4 1, 3) := by decide +kernel
theorem dX6_allUnits_41 : decode cX6_allUnits 41 = .ok (.goto (-28), 3) := by decide +kernel
theorem dX6_allUnits_44 : decode cX6_allUnits 44 = .ok (.iload_n 1, 1) := by decide +kernel
theorem dX6_allUnits_45 : decode cX6_allUnits 45 = .ok (.ireturn, 1) := by decide +kernel
def wsX6_plainElements : List Cond := .code yX6_plainElements cX6_plainElements 6 (some .int) :: ([.fieldLink RX6 24 "Versorhall" "elements" "[LVersorhall$Element;", .fieldLink RX6 110 "Versorhall$Element" "row" "LVersorhall$Row;", .methodLink RX6 223 yX4_isPlain, .instanceMethod yX4_isPlain, .selects RX4 yX4_isPlain yX4_isPlain, .initialized RX4, .code yX4_isPlain cX4_isPlain 2 (some .boolean), .fieldLink RX4 9 "Versorhall$Row" "numbers" "[I"] ++ wsX60 ++ wsX10 ++ wsX40)
theorem dX6_plainElements_0 : decode cX6_plainElements 0 = .ok (.iconst 0, 1) := by decide +kernel
theorem dX6_plainElements_1 : decode cX6_plainElements 1 = .ok (.istore_n 1, 1) := by decide +kernel
theorem dX6_plainElements_2 : decode cX6_plainElements 2 = .ok (.aload_n 0, 1) := by decide +kernel
theorem dX6_plainElements_3 : decode cX6_plainElements 3 = .ok (.getfield 24, 3) := by decide +kernel
theorem dX6_plainElements_6 : decode cX6_plainElements 6 = .ok (.astore_n 2, 1) := by decide +kernel
theorem dX6_plainElements_7 : decode cX6_plainElements 7 = .ok (.aload_n 2, 1) := by decide +kernel
theorem dX6_plainElements_8 : decode cX6_plainElements 8 = .ok (.arraylength, 1) := by decide +kernel
theorem dX6_plainElements_9 : decode cX6_plainElements 9 = .ok (.istore_n 3, 1) := by decide +kernel
theorem dX6_plainElements_10 : decode cX6_plainElements 10 = .ok (.iconst 0, 1) := by decide +kernel
theorem dX6_plainElements_11 : decode cX6_plainElements 11 = .ok (.istore 4, 2) := by decide +kernel
theorem dX6_plainElements_13 : decode cX6_plainElements 13 = .ok (.iload 4, 2) := by decide +kernel
theorem dX6_plainElements_15 : decode cX6_plainElements 15 = .ok (.iload_n 3, 1) := by decide +kernel
theorem dX6_plainElements_16 : decode cX6_plainElements 16 = .ok (.if_icmp .ge 34, 3) := by decide +kernel
theorem dX6_plainElements_19 : decode cX6_plainElements 19 = .ok (.aload_n 2, 1) := by decide +kernel
theorem dX6_plainElements_20 : decode cX6_plainElements 20 = .ok (.iload 4, 2) := by decide +kernel
theorem dX6_plainElements_22 : decode cX6_plainElements 22 = .ok (.aaload, 1) := by decide +kernel
theorem dX6_plainElements_23 : decode cX6_plainElements 23 = .ok (.astore 5, 2) := by decide +kernel
theorem dX6_plainElements_25 : decode cX6_plainElements 25 = .ok (.aload 5, 2) := by decide +kernel
theorem dX6_plainElements_27 : decode cX6_plainElements 27 = .ok (.ifnull 17, 3) := by decide +kernel
theorem dX6_plainElements_44 : decode cX6_plainElements 44 = .ok (.iinc 4 1, 3) := by decide +kernel
theorem dX6_plainElements_47 : decode cX6_plainElements 47 = .ok (.goto (-34), 3) := by decide +kernel
theorem dX6_plainElements_50 : decode cX6_plainElements 50 = .ok (.iload_n 1, 1) := by decide +kernel
theorem dX6_plainElements_51 : decode cX6_plainElements 51 = .ok (.ireturn, 1) := by decide +kernel
def wsX6_elementsWithoutNorm_r1 : List Cond := [Cond.fieldLink RX6 24 "Versorhall" "elements" "[LVersorhall$Element;", Cond.fieldLink RX6 37 "Versorhall" "workshop" "LVersorhall$Workshop;", Cond.methodLink RX6 220 yX5_norm, Cond.instanceMethod yX5_norm, Cond.selects RX5 yX5_norm yX5_norm, Cond.initialized RX5, Cond.code yX5_norm cX5_norm 2 (some .int), Cond.fieldLink RX5 32 "Versorhall$Element" "home" "LVersorhall$Algebra;", Cond.fieldLink RX5 18 "Versorhall$Workshop" "work" "LVersorhall$Row;", Cond.fieldLink RX5 38 "Versorhall$Element" "row" "LVersorhall$Row;", Cond.methodLink RX5 55 yX0_makeConjugate, Cond.instanceMethod yX0_makeConjugate, Cond.selects RX0 yX0_makeConjugate yX0_makeConjugate, Cond.initialized RX0, Cond.code yX0_makeConjugate cX0_makeConjugate 4 none, Cond.methodLink RX0 72 yX0_conjugateSign, Cond.instanceMethod yX0_conjugateSign, Cond.selects RX0 yX0_conjugateSign yX0_conjugateSign, Cond.code yX0_conjugateSign cX0_conjugateSign 3 (some .int), Cond.fieldLink RX0 48 "Versorhall$Algebra" "kind" "I", Cond.methodLink RX0 82 yJ6_bitCount_0f7a4, Cond.static yJ6_bitCount_0f7a4, Cond.initialized RJ6, Cond.code yJ6_bitCount_0f7a4 cJ6_bitCount_0f7a4 1 (some .int)]
def wsX6_elementsWithoutNorm_r2 : List Cond := [Cond.constant RJ6 265 (1431655765), Cond.constant RJ6 266 (858993459), Cond.constant RJ6 267 (252645135), Cond.methodLink RX0 90 yX4_get, Cond.instanceMethod yX4_get, Cond.selects RX4 yX4_get yX4_get, Cond.initialized RX4, Cond.code yX4_get cX4_get 2 (some .int), Cond.fieldLink RX4 9 "Versorhall$Row" "numbers" "[I", Cond.methodLink RX0 76 yX0_reduced, Cond.instanceMethod yX0_reduced, Cond.selects RX0 yX0_reduced yX0_reduced, Cond.code yX0_reduced cX0_reduced 3 (some .int), Cond.fieldLink RX0 51 "Versorhall$Algebra" "prime" "I", Cond.methodLink RX0 93 yX4_put, Cond.instanceMethod yX4_put, Cond.selects RX4 yX4_put yX4_put, Cond.code yX4_put cX4_put 3 none, Cond.methodLink RX5 59 yX0_numberOfUnit0, Cond.instanceMethod yX0_numberOfUnit0, Cond.selects RX0 yX0_numberOfUnit0 yX0_numberOfUnit0, Cond.code yX0_numberOfUnit0 cX0_numberOfUnit0 5 (some .int), Cond.fieldLink RX0 15 "Versorhall$Algebra" "units" "I", Cond.methodLink RX0 68 yX0_signOf]
def wsX6_elementsWithoutNorm_r3 : List Cond := [Cond.instanceMethod yX0_signOf, Cond.selects RX0 yX0_signOf yX0_signOf, Cond.code yX0_signOf cX0_signOf 4 (some .int), Cond.fieldLink RX0 32 "Versorhall$Algebra" "signs" "[I"]
def wsX6_elementsWithoutNorm : List Cond := .code yX6_elementsWithoutNorm cX6_elementsWithoutNorm 6 (some .int) :: ((wsX6_elementsWithoutNorm_r1 ++ (wsX6_elementsWithoutNorm_r2 ++ wsX6_elementsWithoutNorm_r3)) ++ wsX60 ++ wsX10 ++ wsX50 ++ wsX00 ++ wsX40)
theorem dX6_elementsWithoutNorm_0 : decode cX6_elementsWithoutNorm 0 = .ok (.iconst 0, 1) := by decide +kernel
theorem dX6_elementsWithoutNorm_1 : decode cX6_elementsWithoutNorm 1 = .ok (.istore_n 1, 1) := by decide +kernel
theorem dX6_elementsWithoutNorm_2 : decode cX6_elementsWithoutNorm 2 = .ok (.aload_n 0, 1) := by decide +kernel
theorem dX6_elementsWithoutNorm_3 : decode cX6_elementsWithoutNorm 3 = .ok (.getfield 24, 3) := by decide +kernel
theorem dX6_elementsWithoutNorm_6 : decode cX6_elementsWithoutNorm 6 = .ok (.astore_n 2, 1) := by decide +kernel
theorem dX6_elementsWithoutNorm_7 : decode cX6_elementsWithoutNorm 7 = .ok (.aload_n 2, 1) := by decide +kernel
theorem dX6_elementsWithoutNorm_8 : decode cX6_elementsWithoutNorm 8 = .ok (.arraylength, 1) := by decide +kernel
theorem dX6_elementsWithoutNorm_9 : decode cX6_elementsWithoutNorm 9 = .ok (.istore_n 3, 1) := by decide +kernel
theorem dX6_elementsWithoutNorm_10 : decode cX6_elementsWithoutNorm 10 = .ok (.iconst 0, 1) := by decide +kernel
theorem dX6_elementsWithoutNorm_11 : decode cX6_elementsWithoutNorm 11 = .ok (.istore 4, 2) := by decide +kernel
theorem dX6_elementsWithoutNorm_13 : decode cX6_elementsWithoutNorm 13 = .ok (.iload 4, 2) := by decide +kernel
theorem dX6_elementsWithoutNorm_15 : decode cX6_elementsWithoutNorm 15 = .ok (.iload_n 3, 1) := by decide +kernel
theorem dX6_elementsWithoutNorm_16 : decode cX6_elementsWithoutNorm 16 = .ok (.if_icmp .ge 35, 3) := by decide +kernel
theorem dX6_elementsWithoutNorm_19 : decode cX6_elementsWithoutNorm 19 = .ok (.aload_n 2, 1) := by decide +kernel
theorem dX6_elementsWithoutNorm_20 : decode cX6_elementsWithoutNorm 20 = .ok (.iload 4, 2) := by decide +kernel
theorem dX6_elementsWithoutNorm_22 : decode cX6_elementsWithoutNorm 22 = .ok (.aaload, 1) := by decide +kernel
theorem dX6_elementsWithoutNorm_23 : decode cX6_elementsWithoutNorm 23 = .ok (.astore 5, 2) := by decide +kernel
theorem dX6_elementsWithoutNorm_25 : decode cX6_elementsWithoutNorm 25 = .ok (.aload 5, 2) := by decide +kernel
theorem dX6_elementsWithoutNorm_27 : decode cX6_elementsWithoutNorm 27 = .ok (.ifnull 18, 3) := by decide +kernel
theorem dX6_elementsWithoutNorm_45 : decode cX6_elementsWithoutNorm 45 = .ok (.iinc 4 1, 3) := by decide +kernel
theorem dX6_elementsWithoutNorm_48 : decode cX6_elementsWithoutNorm 48 = .ok (.goto (-35), 3) := by decide +kernel
theorem dX6_elementsWithoutNorm_51 : decode cX6_elementsWithoutNorm 51 = .ok (.iload_n 1, 1) := by decide +kernel
theorem dX6_elementsWithoutNorm_52 : decode cX6_elementsWithoutNorm 52 = .ok (.ireturn, 1) := by decide +kernel
def wsX6_sumOfLeansInQuarters_r1 : List Cond := [Cond.fieldLink RX6 24 "Versorhall" "elements" "[LVersorhall$Element;", Cond.methodLink RX6 284 yX1_leanInQuarters, Cond.instanceMethod yX1_leanInQuarters, Cond.selects RX1 yX1_leanInQuarters yX1_leanInQuarters, Cond.initialized RX1, Cond.code yX1_leanInQuarters cX1_leanInQuarters 3 (some .int), Cond.fieldLink RX1 16 "Versorhall$Element" "home" "LVersorhall$Algebra;", Cond.fieldLink RX1 20 "Versorhall$Algebra" "units" "I", Cond.fieldLink RX1 10 "Versorhall$Element" "row" "LVersorhall$Row;", Cond.methodLink RX1 26 yX4_get, Cond.instanceMethod yX4_get, Cond.selects RX4 yX4_get yX4_get, Cond.initialized RX4, Cond.code yX4_get cX4_get 2 (some .int), Cond.fieldLink RX4 9 "Versorhall$Row" "numbers" "[I", Cond.methodLink RX1 30 yX0_signed, Cond.instanceMethod yX0_signed, Cond.selects RX0 yX0_signed yX0_signed, Cond.initialized RX0, Cond.code yX0_signed cX0_signed 2 (some .int), Cond.fieldLink RX0 51 "Versorhall$Algebra" "prime" "I", Cond.methodLink RX1 33 yX4_isPlain, Cond.instanceMethod yX4_isPlain, Cond.selects RX4 yX4_isPlain yX4_isPlain]
def wsX6_sumOfLeansInQuarters_r2 : List Cond := [Cond.code yX4_isPlain cX4_isPlain 2 (some .boolean)]
def wsX6_sumOfLeansInQuarters : List Cond := .code yX6_sumOfLeansInQuarters cX6_sumOfLeansInQuarters 6 (some .int) :: ((wsX6_sumOfLeansInQuarters_r1 ++ wsX6_sumOfLeansInQuarters_r2) ++ wsX60 ++ wsX10 ++ wsX00 ++ wsX40)
theorem dX6_sumOfLeansInQuarters_0 : decode cX6_sumOfLeansInQuarters 0 = .ok (.iconst 0, 1) := by decide +kernel
theorem dX6_sumOfLeansInQuarters_1 : decode cX6_sumOfLeansInQuarters 1 = .ok (.istore_n 1, 1) := by decide +kernel
theorem dX6_sumOfLeansInQuarters_2 : decode cX6_sumOfLeansInQuarters 2 = .ok (.aload_n 0, 1) := by decide +kernel
theorem dX6_sumOfLeansInQuarters_3 : decode cX6_sumOfLeansInQuarters 3 = .ok (.getfield 24, 3) := by decide +kernel
theorem dX6_sumOfLeansInQuarters_6 : decode cX6_sumOfLeansInQuarters 6 = .ok (.astore_n 2, 1) := by decide +kernel
theorem dX6_sumOfLeansInQuarters_7 : decode cX6_sumOfLeansInQuarters 7 = .ok (.aload_n 2, 1) := by decide +kernel
theorem dX6_sumOfLeansInQuarters_8 : decode cX6_sumOfLeansInQuarters 8 = .ok (.arraylength, 1) := by decide +kernel
theorem dX6_sumOfLeansInQuarters_9 : decode cX6_sumOfLeansInQuarters 9 = .ok (.istore_n 3, 1) := by decide +kernel
theorem dX6_sumOfLeansInQuarters_10 : decode cX6_sumOfLeansInQuarters 10 = .ok (.iconst 0, 1) := by decide +kernel
theorem dX6_sumOfLeansInQuarters_11 : decode cX6_sumOfLeansInQuarters 11 = .ok (.istore 4, 2) := by decide +kernel
theorem dX6_sumOfLeansInQuarters_13 : decode cX6_sumOfLeansInQuarters 13 = .ok (.iload 4, 2) := by decide +kernel
theorem dX6_sumOfLeansInQuarters_15 : decode cX6_sumOfLeansInQuarters 15 = .ok (.iload_n 3, 1) := by decide +kernel
theorem dX6_sumOfLeansInQuarters_16 : decode cX6_sumOfLeansInQuarters 16 = .ok (.if_icmp .ge 28, 3) := by decide +kernel
theorem dX6_sumOfLeansInQuarters_19 : decode cX6_sumOfLeansInQuarters 19 = .ok (.aload_n 2, 1) := by decide +kernel
theorem dX6_sumOfLeansInQuarters_20 : decode cX6_sumOfLeansInQuarters 20 = .ok (.iload 4, 2) := by decide +kernel
theorem dX6_sumOfLeansInQuarters_22 : decode cX6_sumOfLeansInQuarters 22 = .ok (.aaload, 1) := by decide +kernel
theorem dX6_sumOfLeansInQuarters_23 : decode cX6_sumOfLeansInQuarters 23 = .ok (.astore 5, 2) := by decide +kernel
theorem dX6_sumOfLeansInQuarters_25 : decode cX6_sumOfLeansInQuarters 25 = .ok (.aload 5, 2) := by decide +kernel
theorem dX6_sumOfLeansInQuarters_27 : decode cX6_sumOfLeansInQuarters 27 = .ok (.ifnull 11, 3) := by decide +kernel
theorem dX6_sumOfLeansInQuarters_38 : decode cX6_sumOfLeansInQuarters 38 = .ok (.iinc 4 1, 3) := by decide +kernel
theorem dX6_sumOfLeansInQuarters_41 : decode cX6_sumOfLeansInQuarters 41 = .ok (.goto (-28), 3) := by decide +kernel
theorem dX6_sumOfLeansInQuarters_44 : decode cX6_sumOfLeansInQuarters 44 = .ok (.iload_n 1, 1) := by decide +kernel
theorem dX6_sumOfLeansInQuarters_45 : decode cX6_sumOfLeansInQuarters 45 = .ok (.ireturn, 1) := by decide +kernel
def wsX6_meanSize : List Cond := .code yX6_meanSize cX6_meanSize 7 (some .double) :: ([.fieldLink RX6 24 "Versorhall" "elements" "[LVersorhall$Element;", .fieldLink RX6 110 "Versorhall$Element" "row" "LVersorhall$Row;", .methodLink RX6 132 yX4_size, .instanceMethod yX4_size, .selects RX4 yX4_size yX4_size, .initialized RX4, .code yX4_size cX4_size 6 (some .int), .fieldLink RX4 9 "Versorhall$Row" "numbers" "[I"] ++ wsX60 ++ wsX10 ++ wsX40)
theorem dX6_meanSize_0 : decode cX6_meanSize 0 = .ok (.iconst 0, 1) := by decide +kernel
theorem dX6_meanSize_1 : decode cX6_meanSize 1 = .ok (.istore_n 1, 1) := by decide +kernel
theorem dX6_meanSize_2 : decode cX6_meanSize 2 = .ok (.iconst 0, 1) := by decide +kernel
theorem dX6_meanSize_3 : decode cX6_meanSize 3 = .ok (.istore_n 2, 1) := by decide +kernel
theorem dX6_meanSize_4 : decode cX6_meanSize 4 = .ok (.aload_n 0, 1) := by decide +kernel
theorem dX6_meanSize_5 : decode cX6_meanSize 5 = .ok (.getfield 24, 3) := by decide +kernel
theorem dX6_meanSize_8 : decode cX6_meanSize 8 = .ok (.astore_n 3, 1) := by decide +kernel
theorem dX6_meanSize_9 : decode cX6_meanSize 9 = .ok (.aload_n 3, 1) := by decide +kernel
theorem dX6_meanSize_10 : decode cX6_meanSize 10 = .ok (.arraylength, 1) := by decide +kernel
theorem dX6_meanSize_11 : decode cX6_meanSize 11 = .ok (.istore 4, 2) := by decide +kernel
theorem dX6_meanSize_13 : decode cX6_meanSize 13 = .ok (.iconst 0, 1) := by decide +kernel
theorem dX6_meanSize_14 : decode cX6_meanSize 14 = .ok (.istore 5, 2) := by decide +kernel
theorem dX6_meanSize_16 : decode cX6_meanSize 16 = .ok (.iload 5, 2) := by decide +kernel
theorem dX6_meanSize_18 : decode cX6_meanSize 18 = .ok (.iload 4, 2) := by decide +kernel
theorem dX6_meanSize_20 : decode cX6_meanSize 20 = .ok (.if_icmp .ge 34, 3) := by decide +kernel
theorem dX6_meanSize_23 : decode cX6_meanSize 23 = .ok (.aload_n 3, 1) := by decide +kernel
theorem dX6_meanSize_24 : decode cX6_meanSize 24 = .ok (.iload 5, 2) := by decide +kernel
theorem dX6_meanSize_26 : decode cX6_meanSize 26 = .ok (.aaload, 1) := by decide +kernel
theorem dX6_meanSize_27 : decode cX6_meanSize 27 = .ok (.astore 6, 2) := by decide +kernel
theorem dX6_meanSize_29 : decode cX6_meanSize 29 = .ok (.aload 6, 2) := by decide +kernel
theorem dX6_meanSize_31 : decode cX6_meanSize 31 = .ok (.ifnull 17, 3) := by decide +kernel
theorem dX6_meanSize_48 : decode cX6_meanSize 48 = .ok (.iinc 5 1, 3) := by decide +kernel
theorem dX6_meanSize_51 : decode cX6_meanSize 51 = .ok (.goto (-35), 3) := by decide +kernel
theorem dX6_meanSize_54 : decode cX6_meanSize 54 = .ok (.iload_n 2, 1) := by decide +kernel
theorem dX6_meanSize_55 : decode cX6_meanSize 55 = .ok (.ifCond .le 11, 3) := by decide +kernel
theorem dX6_meanSize_66 : decode cX6_meanSize 66 = .ok (.dconst 0, 1) := by decide +kernel
theorem dX6_meanSize_67 : decode cX6_meanSize 67 = .ok (.dreturn, 1) := by decide +kernel
def wsX6_poise_r1 : List Cond := [Cond.fieldLink RX6 28 "Versorhall" "elementCount" "I", Cond.methodLink RX6 289 yX6_sumOfLeansInQuarters, Cond.instanceMethod yX6_sumOfLeansInQuarters, Cond.selects RX6 yX6_sumOfLeansInQuarters yX6_sumOfLeansInQuarters, Cond.initialized RX6, Cond.code yX6_sumOfLeansInQuarters cX6_sumOfLeansInQuarters 6 (some .int), Cond.fieldLink RX6 24 "Versorhall" "elements" "[LVersorhall$Element;", Cond.methodLink RX6 284 yX1_leanInQuarters, Cond.instanceMethod yX1_leanInQuarters, Cond.selects RX1 yX1_leanInQuarters yX1_leanInQuarters, Cond.initialized RX1, Cond.code yX1_leanInQuarters cX1_leanInQuarters 3 (some .int), Cond.fieldLink RX1 16 "Versorhall$Element" "home" "LVersorhall$Algebra;", Cond.fieldLink RX1 20 "Versorhall$Algebra" "units" "I", Cond.fieldLink RX1 10 "Versorhall$Element" "row" "LVersorhall$Row;", Cond.methodLink RX1 26 yX4_get, Cond.instanceMethod yX4_get, Cond.selects RX4 yX4_get yX4_get, Cond.initialized RX4, Cond.code yX4_get cX4_get 2 (some .int), Cond.fieldLink RX4 9 "Versorhall$Row" "numbers" "[I", Cond.methodLink RX1 30 yX0_signed, Cond.instanceMethod yX0_signed, Cond.selects RX0 yX0_signed yX0_signed]
def wsX6_poise_r2 : List Cond := [Cond.initialized RX0, Cond.code yX0_signed cX0_signed 2 (some .int), Cond.fieldLink RX0 51 "Versorhall$Algebra" "prime" "I", Cond.methodLink RX1 33 yX4_isPlain, Cond.instanceMethod yX4_isPlain, Cond.selects RX4 yX4_isPlain yX4_isPlain, Cond.code yX4_isPlain cX4_isPlain 2 (some .boolean), Cond.methodLink RX6 292 yX6_roundedToEven, Cond.static yX6_roundedToEven, Cond.code yX6_roundedToEven cX6_roundedToEven 5 (some .int), Cond.methodLink RX6 386 yJ9_floorDiv_7cf53, Cond.static yJ9_floorDiv_7cf53, Cond.initialized RJ9, Cond.code yJ9_floorDiv_7cf53 cJ9_floorDiv_7cf53 3 (some .int)]
def wsX6_poise : List Cond := .code yX6_poise cX6_poise 1 (some .double) :: ((wsX6_poise_r1 ++ wsX6_poise_r2) ++ wsX60 ++ wsX10 ++ wsX00 ++ wsX40)
theorem dX6_poise_0 : decode cX6_poise 0 = .ok (.aload_n 0, 1) := by decide +kernel
theorem dX6_poise_1 : decode cX6_poise 1 = .ok (.getfield 28, 3) := by decide +kernel
theorem dX6_poise_4 : decode cX6_poise 4 = .ok (.ifCond .le 20, 3) := by decide +kernel
theorem dX6_poise_24 : decode cX6_poise 24 = .ok (.dconst 0, 1) := by decide +kernel
theorem dX6_poise_25 : decode cX6_poise 25 = .ok (.dreturn, 1) := by decide +kernel
def wsX6_many_r1 : List Cond := [Cond.classLink RX6 52 "java/lang/IllegalArgumentException", Cond.initialized "java/lang/IllegalArgumentException", Cond.fieldLink RX6 9 "Versorhall" "prime" "I", Cond.fieldLink RX6 19 "Versorhall" "algebraCount" "I", Cond.fieldLink RX6 28 "Versorhall" "elementCount" "I", Cond.fieldLink RX6 31 "Versorhall" "knocks" "I", Cond.methodLink RX6 295 yX6_allUnits, Cond.instanceMethod yX6_allUnits, Cond.selects RX6 yX6_allUnits yX6_allUnits, Cond.initialized RX6, Cond.code yX6_allUnits cX6_allUnits 6 (some .int), Cond.fieldLink RX6 15 "Versorhall" "algebras" "[LVersorhall$Algebra;", Cond.fieldLink RX6 87 "Versorhall$Algebra" "units" "I", Cond.methodLink RX6 298 yX6_plainElements, Cond.instanceMethod yX6_plainElements, Cond.selects RX6 yX6_plainElements yX6_plainElements, Cond.code yX6_plainElements cX6_plainElements 6 (some .int), Cond.fieldLink RX6 24 "Versorhall" "elements" "[LVersorhall$Element;", Cond.fieldLink RX6 110 "Versorhall$Element" "row" "LVersorhall$Row;", Cond.methodLink RX6 223 yX4_isPlain, Cond.instanceMethod yX4_isPlain, Cond.selects RX4 yX4_isPlain yX4_isPlain, Cond.initialized RX4, Cond.code yX4_isPlain cX4_isPlain 2 (some .boolean)]
def wsX6_many_r2 : List Cond := [Cond.fieldLink RX4 9 "Versorhall$Row" "numbers" "[I", Cond.methodLink RX6 301 yX6_elementsWithoutNorm, Cond.instanceMethod yX6_elementsWithoutNorm, Cond.selects RX6 yX6_elementsWithoutNorm yX6_elementsWithoutNorm, Cond.code yX6_elementsWithoutNorm cX6_elementsWithoutNorm 6 (some .int), Cond.fieldLink RX6 37 "Versorhall" "workshop" "LVersorhall$Workshop;", Cond.methodLink RX6 220 yX5_norm, Cond.instanceMethod yX5_norm, Cond.selects RX5 yX5_norm yX5_norm, Cond.initialized RX5, Cond.code yX5_norm cX5_norm 2 (some .int), Cond.fieldLink RX5 32 "Versorhall$Element" "home" "LVersorhall$Algebra;", Cond.fieldLink RX5 18 "Versorhall$Workshop" "work" "LVersorhall$Row;", Cond.fieldLink RX5 38 "Versorhall$Element" "row" "LVersorhall$Row;", Cond.methodLink RX5 55 yX0_makeConjugate, Cond.instanceMethod yX0_makeConjugate, Cond.selects RX0 yX0_makeConjugate yX0_makeConjugate, Cond.initialized RX0, Cond.code yX0_makeConjugate cX0_makeConjugate 4 none, Cond.methodLink RX0 72 yX0_conjugateSign, Cond.instanceMethod yX0_conjugateSign, Cond.selects RX0 yX0_conjugateSign yX0_conjugateSign, Cond.code yX0_conjugateSign cX0_conjugateSign 3 (some .int), Cond.fieldLink RX0 48 "Versorhall$Algebra" "kind" "I"]
def wsX6_many_r3 : List Cond := [Cond.methodLink RX0 82 yJ6_bitCount_0f7a4, Cond.static yJ6_bitCount_0f7a4, Cond.initialized RJ6, Cond.code yJ6_bitCount_0f7a4 cJ6_bitCount_0f7a4 1 (some .int), Cond.constant RJ6 265 (1431655765), Cond.constant RJ6 266 (858993459), Cond.constant RJ6 267 (252645135), Cond.methodLink RX0 90 yX4_get, Cond.instanceMethod yX4_get, Cond.selects RX4 yX4_get yX4_get, Cond.code yX4_get cX4_get 2 (some .int), Cond.methodLink RX0 76 yX0_reduced, Cond.instanceMethod yX0_reduced, Cond.selects RX0 yX0_reduced yX0_reduced, Cond.code yX0_reduced cX0_reduced 3 (some .int), Cond.fieldLink RX0 51 "Versorhall$Algebra" "prime" "I", Cond.methodLink RX0 93 yX4_put, Cond.instanceMethod yX4_put, Cond.selects RX4 yX4_put yX4_put, Cond.code yX4_put cX4_put 3 none, Cond.methodLink RX5 59 yX0_numberOfUnit0, Cond.instanceMethod yX0_numberOfUnit0, Cond.selects RX0 yX0_numberOfUnit0 yX0_numberOfUnit0, Cond.code yX0_numberOfUnit0 cX0_numberOfUnit0 5 (some .int)]
def wsX6_many_r4 : List Cond := [Cond.fieldLink RX0 15 "Versorhall$Algebra" "units" "I", Cond.methodLink RX0 68 yX0_signOf, Cond.instanceMethod yX0_signOf, Cond.selects RX0 yX0_signOf yX0_signOf, Cond.code yX0_signOf cX0_signOf 4 (some .int), Cond.fieldLink RX0 32 "Versorhall$Algebra" "signs" "[I", Cond.methodLink RX6 289 yX6_sumOfLeansInQuarters, Cond.instanceMethod yX6_sumOfLeansInQuarters, Cond.selects RX6 yX6_sumOfLeansInQuarters yX6_sumOfLeansInQuarters, Cond.code yX6_sumOfLeansInQuarters cX6_sumOfLeansInQuarters 6 (some .int), Cond.methodLink RX6 284 yX1_leanInQuarters, Cond.instanceMethod yX1_leanInQuarters, Cond.selects RX1 yX1_leanInQuarters yX1_leanInQuarters, Cond.initialized RX1, Cond.code yX1_leanInQuarters cX1_leanInQuarters 3 (some .int), Cond.fieldLink RX1 16 "Versorhall$Element" "home" "LVersorhall$Algebra;", Cond.fieldLink RX1 20 "Versorhall$Algebra" "units" "I", Cond.fieldLink RX1 10 "Versorhall$Element" "row" "LVersorhall$Row;", Cond.methodLink RX1 26 yX4_get, Cond.methodLink RX1 30 yX0_signed, Cond.instanceMethod yX0_signed, Cond.selects RX0 yX0_signed yX0_signed, Cond.code yX0_signed cX0_signed 2 (some .int), Cond.methodLink RX1 33 yX4_isPlain]
def wsX6_many : List Cond := .code yX6_many cX6_many 2 (some .int) :: ((wsX6_many_r1 ++ (wsX6_many_r2 ++ (wsX6_many_r3 ++ wsX6_many_r4))) ++ wsX60 ++ wsX00 ++ wsX10 ++ wsX40 ++ wsX50 ++ (vx_atS RX6 56 "java/lang/IllegalArgumentException" ["java/lang/RuntimeException", "java/lang/Exception"]).filter goodWord)
theorem dX6_many_0 : decode cX6_many 0 = .ok (.iload_n 1, 1) := by decide +kernel
theorem dX6_many_1 : decode cX6_many 1 = .ok (.tableswitch 89 0 7 #[47, 52, 57, 62, 67, 72, 77, 82], 47) := by decide +kernel
theorem dX6_many_48 : decode cX6_many 48 = .ok (.aload_n 0, 1) := by decide +kernel
theorem dX6_many_49 : decode cX6_many 49 = .ok (.getfield 9, 3) := by decide +kernel
theorem dX6_many_52 : decode cX6_many 52 = .ok (.ireturn, 1) := by decide +kernel
theorem dX6_many_53 : decode cX6_many 53 = .ok (.aload_n 0, 1) := by decide +kernel
theorem dX6_many_54 : decode cX6_many 54 = .ok (.getfield 19, 3) := by decide +kernel
theorem dX6_many_57 : decode cX6_many 57 = .ok (.ireturn, 1) := by decide +kernel
theorem dX6_many_58 : decode cX6_many 58 = .ok (.aload_n 0, 1) := by decide +kernel
theorem dX6_many_59 : decode cX6_many 59 = .ok (.getfield 28, 3) := by decide +kernel
theorem dX6_many_62 : decode cX6_many 62 = .ok (.ireturn, 1) := by decide +kernel
theorem dX6_many_63 : decode cX6_many 63 = .ok (.aload_n 0, 1) := by decide +kernel
set_option maxRecDepth 20000 in
theorem ggX6_many_X6_allUnits : GoodIn wsX6_many wsX6_allUnits := goodIn_r _ [11, 12, 13, 97, 98, 99, 100, 101, 102, 103, 104, 105, 106, 107, 108, 109, 110, 111, 112, 113, 114, 115, 116] (by decide +kernel) (by decide +kernel)
set_option maxRecDepth 20000 in
theorem gX6_many_X6_allUnits : GoodIn wsX6_many (wsV RX6 295 RX6 yX6_allUnits wsX6_allUnits) := goodIn_app (goodIn_of _ (by decide +kernel)) ggX6_many_X6_allUnits
theorem dX6_many_64 : decode cX6_many 64 = .ok (.invokevirtual 295, 3) := by decide +kernel
theorem dX6_many_67 : decode cX6_many 67 = .ok (.ireturn, 1) := by decide +kernel
theorem dX6_many_68 : decode cX6_many 68 = .ok (.aload_n 0, 1) := by decide +kernel
set_option maxRecDepth 20000 in
theorem ggX6_many_X6_plainElements : GoodIn wsX6_many wsX6_plainElements := goodIn_r _ [17, 18, 19, 20, 21, 22, 23, 24, 25, 97, 98, 99, 100, 101, 102, 103, 104, 105, 117, 118, 119] (by decide +kernel) (by decide +kernel)
set_option maxRecDepth 20000 in
theorem gX6_many_X6_plainElements : GoodIn wsX6_many (wsV RX6 298 RX6 yX6_plainElements wsX6_plainElements) := goodIn_app (goodIn_of _ (by decide +kernel)) ggX6_many_X6_plainElements
theorem dX6_many_69 : decode cX6_many 69 = .ok (.invokevirtual 298, 3) := by decide +kernel
theorem dX6_many_72 : decode cX6_many 72 = .ok (.ireturn, 1) := by decide +kernel
theorem dX6_many_73 : decode cX6_many 73 = .ok (.aload_n 0, 1) := by decide +kernel
set_option maxRecDepth 20000 in
theorem ggX6_many_X6_elementsWithoutNorm : GoodIn wsX6_many wsX6_elementsWithoutNorm := goodIn_r _ [29, 18, 30, 31, 32, 33, 34, 35, 36, 37, 38, 39, 40, 41, 42, 43, 44, 45, 46, 47, 48, 49, 50, 51, 52, 53, 54, 55, 56, 57, 58, 23, 59, 25, 60, 61, 62, 63, 64, 65, 66, 67, 68, 69, 70, 71, 72, 73, 74, 75, 76, 77, 78, 97, 98, 99, 100, 101, 102, 103, 104, 105, 117, 118, 120, 121, 122, 106, 107, 108, 109, 110, 111, 112, 113, 114, 115, 116, 119] (by decide +kernel) (by decide +kernel)
set_option maxRecDepth 20000 in
theorem gX6_many_X6_elementsWithoutNorm : GoodIn wsX6_many (wsV RX6 301 RX6 yX6_elementsWithoutNorm wsX6_elementsWithoutNorm) := goodIn_app (goodIn_of _ (by decide +kernel)) ggX6_many_X6_elementsWithoutNorm
theorem dX6_many_74 : decode cX6_many 74 = .ok (.invokevirtual 301, 3) := by decide +kernel
theorem dX6_many_77 : decode cX6_many 77 = .ok (.ireturn, 1) := by decide +kernel
theorem dX6_many_78 : decode cX6_many 78 = .ok (.aload_n 0, 1) := by decide +kernel
theorem dX6_many_79 : decode cX6_many 79 = .ok (.getfield 31, 3) := by decide +kernel
theorem dX6_many_82 : decode cX6_many 82 = .ok (.ireturn, 1) := by decide +kernel
theorem dX6_many_83 : decode cX6_many 83 = .ok (.aload_n 0, 1) := by decide +kernel
set_option maxRecDepth 20000 in
theorem ggX6_many_X6_sumOfLeansInQuarters : GoodIn wsX6_many wsX6_sumOfLeansInQuarters := goodIn_r _ [82, 18, 83, 84, 85, 86, 87, 88, 89, 90, 91, 57, 58, 23, 59, 25, 92, 93, 94, 42, 95, 64, 96, 21, 22, 24, 97, 98, 99, 100, 101, 102, 103, 104, 105, 117, 118, 106, 107, 108, 109, 110, 111, 112, 113, 114, 115, 116, 119] (by decide +kernel) (by decide +kernel)
set_option maxRecDepth 20000 in
theorem gX6_many_X6_sumOfLeansInQuarters : GoodIn wsX6_many (wsV RX6 289 RX6 yX6_sumOfLeansInQuarters wsX6_sumOfLeansInQuarters) := goodIn_app (goodIn_of _ (by decide +kernel)) ggX6_many_X6_sumOfLeansInQuarters
theorem dX6_many_84 : decode cX6_many 84 = .ok (.invokevirtual 289, 3) := by decide +kernel
theorem dX6_many_87 : decode cX6_many 87 = .ok (.iconst 4, 1) := by decide +kernel
theorem dX6_many_88 : decode cX6_many 88 = .ok (.idiv, 1) := by decide +kernel
theorem dX6_many_89 : decode cX6_many 89 = .ok (.ireturn, 1) := by decide +kernel
set_option maxHeartbeats 4000000 in
set_option maxRecDepth 100000 in
/-- c_allUnits -/
theorem c_allUnits (l : Launch) (dC : Nat → ClassId) (dI : Nat → Nat → Nat) (dE : Nat) (h0 : Nat) (a1 : Nat) (a2 : Nat) (w1 : Nat) (p1 : Nat) (o1 : Nat) (cA1 : ClassId) (cA2 : ClassId) (sz : Nat) : Met l yX6_allUnits wsX6_allUnits ({ frames := 0, cells := 0, slots := 0, locals := 0 }) (va_Pc [.ref h0] (PB dC dI dE [(cA1, .object RX0), (cA2, .object RX1)] [(h0, .inr (9, [.int 7, .ref a1, .int 0, .ref a2, .int 0, .int 0, .ref w1, .ref p1, .ref o1])), (a1, .inl (cA1, 4, .inr (.inr (.inr (.inr (fun _ => none)))))), (a2, .inl (cA2, 10, .inr (.inr (.inr (.inr (fun _ => none))))))] sz)) (va_Qi (fun (r : Int32) (_ : Unit) => r = 0) (fun (_ : Unit) (t : State) => PE dC dI [(cA1, .object RX0), (cA2, .object RX1)] [(h0, .inr (9, [.int 7, .ref a1, .int 0, .ref a2, .int 0, .int 0, .ref w1, .ref p1, .ref o1])), (a1, .inl (cA1, 4, .inr (.inr (.inr (.inr (fun _ => none)))))), (a2, .inl (cA2, 10, .inr (.inr (.inr (.inr (fun _ => none))))))] (va_A [(h0, .inr (9, [.int 7, .ref a1, .int 0, .ref a2, .int 0, .int 0, .ref w1, .ref p1, .ref o1])), (a1, .inl (cA1, 4, .inr (.inr (.inr (.inr (fun _ => none)))))), (a2, .inl (cA2, 10, .inr (.inr (.inr (.inr (fun _ => none))))))] sz) t) (va_A [(h0, .inr (9, [.int 7, .ref a1, .int 0, .ref a2, .int 0, .int 0, .ref w1, .ref p1, .ref o1])), (a1, .inl (cA1, 4, .inr (.inr (.inr (.inr (fun _ => none)))))), (a2, .inl (cA2, 10, .inr (.inr (.inr (.inr (fun _ => none))))))] sz)) 0 0 (va_A [(h0, .inr (9, [.int 7, .ref a1, .int 0, .ref a2, .int 0, .int 0, .ref w1, .ref p1, .ref o1])), (a1, .inl (cA1, 4, .inr (.inr (.inr (.inr (fun _ => none)))))), (a2, .inl (cA2, 10, .inr (.inr (.inr (.inr (fun _ => none))))))] sz) := by
  refine Met.ofW (cc := cX6_allUnits) (maxL := 6) (ret := (some .int)) (by decide) rfl ?_
  intro p e s m args below meth c s₁ B hml hv
  obtain ⟨rfl, hsz, hP, hK, hD0, hTb, hZ⟩ := hv
  have hx := B.exec
  have hb := B.bytes
  have hr := B.returns
  have hts := atoms_spec (ws := wsX6_allUnits) B.pre
  have hown : s.vm.findClass RX6 = some m.cls := findClass_of_methodNamed B.named
  have hlocks := B.notSynchronized
  subst hsz
  have hD := hD0.self (sz := s.heap.size)
  generalize hAe : va_A [(h0, .inr (9, [.int 7, .ref a1, .int 0, .ref a2, .int 0, .int 0, .ref w1, .ref p1, .ref o1])), (a1, .inl (cA1, 4, .inr (.inr (.inr (.inr (fun _ => none)))))), (a2, .inl (cA2, 10, .inr (.inr (.inr (.inr (fun _ => none))))))] s.heap.size = A at hD hZ ⊢
  have hA : ∀ q : Nat, s.heap.size ≤ q → A q := fun q h => by rw [← hAe]; exact Or.inr h
  have hS : va_S A s.heap s.heap [] := va_S.rf
  have hP : va_P (dC, dI) vwCl [(h0, .inr (9, [.int 7, .ref a1, .int 0, .ref a2, .int 0, .int 0, .ref w1, .ref p1, .ref o1])), (a1, .inl (cA1, 4, .inr (.inr (.inr (.inr (fun _ => none)))))), (a2, .inl (cA2, 10, .inr (.inr (.inr (.inr (fun _ => none))))))] s.heap := hP
  have hl := lv_entry ([.ref h0]) (n := 6) (Nat.le_of_ble_eq_true rfl)
  rw [lg_entry_eq]
  generalize (lg_sl ([.ref h0]) ++ List.replicate (6 - (lg_sl ([.ref h0])).length) Slot.unset).toArray = ls at hl ⊢
  have hl : lv_has ls 6 [(0, .ref h0)] := hl
  obtain ⟨H, eH⟩ : ∃ z, z = s.heap := ⟨_, rfl⟩
  rw [← eH] at hP ⊢
  have hS : va_S A s.heap H [] := by rw [eH]; exact va_S.rf
  refine lv_iconst (v := 0) hx hb dX6_allUnits_0 (by decide) ?_
  refine lv_istore_n (lv' := [(1, .int 0), (0, .ref h0)]) hx hb dX6_allUnits_1 rfl hl (by decide) rfl (fun ls hl => ?_)
  refine lv_aload_n hx hb dX6_allUnits_2 rfl (lv_at hl 1 rfl) ?_
  refine va_get (D := (dC, dI)) (ci := 9) (v := .ref a1) (C := RX6) (T := TX6) (N := 9) hx hb hts (by decide +kernel) hown hK hP 0 rfl rfl 1 (by decide) (hts (.fieldLink RX6 15 "Versorhall" "algebras" "[LVersorhall$Algebra;") (by decide +kernel)) (fun _ h9 => h9) rfl dX6_allUnits_3 ?_
  refine lv_astore_n (lv' := [(2, .ref a1), (1, .int 0), (0, .ref h0)]) hx hb dX6_allUnits_6 rfl hl (by decide) rfl (fun ls hl => ?_)
  refine lv_aload_n hx hb dX6_allUnits_7 rfl (lv_at hl 0 rfl) ?_
  refine va_alen (v := 4) hx hb hK hP 1 0 rfl rfl (show Int32.ofNat 4 = 4 by decide) dX6_allUnits_8 ?_
  refine lv_istore_n (lv' := [(3, .int 4), (2, .ref a1), (1, .int 0), (0, .ref h0)]) hx hb dX6_allUnits_9 rfl hl (by decide) rfl (fun ls hl => ?_)
  refine lv_iconst (v := 0) hx hb dX6_allUnits_10 (by decide) ?_
  refine lv_istore (lv' := [(4, .int 0), (3, .int 4), (2, .ref a1), (1, .int 0), (0, .ref h0)]) hx hb dX6_allUnits_11 hl (by decide) rfl (fun ls hl => ?_)
  refine lv_iload hx hb dX6_allUnits_13 (lv_at hl 0 rfl) ?_
  refine lv_iload_n hx hb dX6_allUnits_15 rfl (lv_at hl 1 rfl) ?_
  refine lv_icmp_ge (tgt := 44) hx hb dX6_allUnits_16 (by decide) (fun c9 => absurd c9 (by decide)) (fun _ => ?_)
  refine lv_aload_n hx hb dX6_allUnits_19 rfl (lv_at hl 2 rfl) ?_
  refine lv_iload hx hb dX6_allUnits_20 (lv_at hl 0 rfl) ?_
  refine va_aldq hx hb hK hP 1 0 rfl rfl (by unfold vp_in; decide) dX6_allUnits_22 ?_
  refine W.eq (g2 := F0 m 23 ls [.null]) rfl ?_
  refine lv_astoreN (lv' := [(5, .null), (4, .int 0), (3, .int 4), (2, .ref a1), (1, .int 0), (0, .ref h0)]) hx hb dX6_allUnits_23 hl (by decide) rfl (fun ls hl => ?_)
  refine lv_aloadN hx hb dX6_allUnits_25 (lv_at hl 0 rfl) ?_
  refine lv_ifnullN (tgt := 38) hx hb dX6_allUnits_27 (by decide) ?_
  refine lv_iinc (v := 1) (lv' := [(4, .int 1), (5, .null), (3, .int 4), (2, .ref a1), (1, .int 0), (0, .ref h0)]) hx hb dX6_allUnits_38 hl (k := 1) rfl (by decide) (by decide) rfl (fun ls hl => ?_)
  refine lv_goto (tgt := 13) hx hb dX6_allUnits_41 (by decide) ?_
  refine lv_iload hx hb dX6_allUnits_13 (lv_at hl 0 rfl) ?_
  refine lv_iload_n hx hb dX6_allUnits_15 rfl (lv_at hl 2 rfl) ?_
  refine lv_icmp_ge (tgt := 44) hx hb dX6_allUnits_16 (by decide) (fun c9 => absurd c9 (by decide)) (fun _ => ?_)
  refine lv_aload_n hx hb dX6_allUnits_19 rfl (lv_at hl 3 rfl) ?_
  refine lv_iload hx hb dX6_allUnits_20 (lv_at hl 0 rfl) ?_
  refine va_aldq hx hb hK hP 1 0 rfl rfl (by unfold vp_in; decide) dX6_allUnits_22 ?_
  refine W.eq (g2 := F0 m 23 ls [.null]) rfl ?_
  refine lv_astoreN (lv' := [(5, .null), (4, .int 1), (3, .int 4), (2, .ref a1), (1, .int 0), (0, .ref h0)]) hx hb dX6_allUnits_23 hl (by decide) rfl (fun ls hl => ?_)
  refine lv_aloadN hx hb dX6_allUnits_25 (lv_at hl 0 rfl) ?_
  refine lv_ifnullN (tgt := 38) hx hb dX6_allUnits_27 (by decide) ?_
  refine lv_iinc (v := 2) (lv' := [(4, .int 2), (5, .null), (3, .int 4), (2, .ref a1), (1, .int 0), (0, .ref h0)]) hx hb dX6_allUnits_38 hl (k := 1) rfl (by decide) (by decide) rfl (fun ls hl => ?_)
  refine lv_goto (tgt := 13) hx hb dX6_allUnits_41 (by decide) ?_
  refine lv_iload hx hb dX6_allUnits_13 (lv_at hl 0 rfl) ?_
  refine lv_iload_n hx hb dX6_allUnits_15 rfl (lv_at hl 2 rfl) ?_
  refine lv_icmp_ge (tgt := 44) hx hb dX6_allUnits_16 (by decide) (fun c9 => absurd c9 (by decide)) (fun _ => ?_)
  refine lv_aload_n hx hb dX6_allUnits_19 rfl (lv_at hl 3 rfl) ?_
  refine lv_iload hx hb dX6_allUnits_20 (lv_at hl 0 rfl) ?_
  refine va_aldq hx hb hK hP 1 0 rfl rfl (by unfold vp_in; decide) dX6_allUnits_22 ?_
  refine W.eq (g2 := F0 m 23 ls [.null]) rfl ?_
  refine lv_astoreN (lv' := [(5, .null), (4, .int 2), (3, .int 4), (2, .ref a1), (1, .int 0), (0, .ref h0)]) hx hb dX6_allUnits_23 hl (by decide) rfl (fun ls hl => ?_)
  refine lv_aloadN hx hb dX6_allUnits_25 (lv_at hl 0 rfl) ?_
  refine lv_ifnullN (tgt := 38) hx hb dX6_allUnits_27 (by decide) ?_
  refine lv_iinc (v := 3) (lv' := [(4, .int 3), (5, .null), (3, .int 4), (2, .ref a1), (1, .int 0), (0, .ref h0)]) hx hb dX6_allUnits_38 hl (k := 1) rfl (by decide) (by decide) rfl (fun ls hl => ?_)
  refine lv_goto (tgt := 13) hx hb dX6_allUnits_41 (by decide) ?_
  refine lv_iload hx hb dX6_allUnits_13 (lv_at hl 0 rfl) ?_
  refine lv_iload_n hx hb dX6_allUnits_15 rfl (lv_at hl 2 rfl) ?_
  refine lv_icmp_ge (tgt := 44) hx hb dX6_allUnits_16 (by decide) (fun c9 => absurd c9 (by decide)) (fun _ => ?_)
  refine lv_aload_n hx hb dX6_allUnits_19 rfl (lv_at hl 3 rfl) ?_
  refine lv_iload hx hb dX6_allUnits_20 (lv_at hl 0 rfl) ?_
  refine va_aldq hx hb hK hP 1 0 rfl rfl (by unfold vp_in; decide) dX6_allUnits_22 ?_
  refine W.eq (g2 := F0 m 23 ls [.null]) rfl ?_
  refine lv_astoreN (lv' := [(5, .null), (4, .int 3), (3, .int 4), (2, .ref a1), (1, .int 0), (0, .ref h0)]) hx hb dX6_allUnits_23 hl (by decide) rfl (fun ls hl => ?_)
  refine lv_aloadN hx hb dX6_allUnits_25 (lv_at hl 0 rfl) ?_
  refine lv_ifnullN (tgt := 38) hx hb dX6_allUnits_27 (by decide) ?_
  refine lv_iinc (v := 4) (lv' := [(4, .int 4), (5, .null), (3, .int 4), (2, .ref a1), (1, .int 0), (0, .ref h0)]) hx hb dX6_allUnits_38 hl (k := 1) rfl (by decide) (by decide) rfl (fun ls hl => ?_)
  refine lv_goto (tgt := 13) hx hb dX6_allUnits_41 (by decide) ?_
  refine lv_iload hx hb dX6_allUnits_13 (lv_at hl 0 rfl) ?_
  refine lv_iload_n hx hb dX6_allUnits_15 rfl (lv_at hl 2 rfl) ?_
  refine lv_icmp_ge (tgt := 44) hx hb dX6_allUnits_16 (by decide) (fun _ => ?_) (fun c9 => absurd (by decide) c9)
  refine lv_iload_n hx hb dX6_allUnits_44 rfl (lv_at hl 4 rfl) ?_
  have hP9 := hP.sub (ws' := [(h0, .inr (9, [.int 7, .ref a1, .int 0, .ref a2, .int 0, .int 0, .ref w1, .ref p1, .ref o1])), (a1, .inl (cA1, 4, .inr (.inr (.inr (.inr (fun _ => none)))))), (a2, .inl (cA2, 10, .inr (.inr (.inr (.inr (fun _ => none))))))]) [0, 1, 2] rfl
  have hD9 := hD.sub (ws' := [(h0, .inr (9, [.int 7, .ref a1, .int 0, .ref a2, .int 0, .int 0, .ref w1, .ref p1, .ref o1])), (a1, .inl (cA1, 4, .inr (.inr (.inr (.inr (fun _ => none)))))), (a2, .inl (cA2, 10, .inr (.inr (.inr (.inr (fun _ => none))))))]) [0, 1, 2] (by decide) rfl
  have hK9 := hK.sub (tys' := [(cA1, .object RX0), (cA2, .object RX1)]) [0, 1] rfl
  refine W.widen (k := 0) (n := 0) (Nat.le_of_ble_eq_true rfl) (Nat.le_of_ble_eq_true rfl) ?_
  exact W.iret (v := 0) hx hb hr (fun t ht hW => ⟨⟨_, (), rfl, rfl, PE.mk hP9 hK9 hD9 ht hW⟩, hS.F ht⟩) hS.2.2 dX6_allUnits_45

set_option maxHeartbeats 4000000 in
set_option maxRecDepth 100000 in
/-- c_plainElements -/
theorem c_plainElements (l : Launch) (dC : Nat → ClassId) (dI : Nat → Nat → Nat) (dE : Nat) (h0 : Nat) (a1 : Nat) (a2 : Nat) (w1 : Nat) (p1 : Nat) (o1 : Nat) (cA1 : ClassId) (cA2 : ClassId) (sz : Nat) : Met l yX6_plainElements wsX6_plainElements ({ frames := 0, cells := 0, slots := 0, locals := 0 }) (va_Pc [.ref h0] (PB dC dI dE [(cA1, .object RX0), (cA2, .object RX1)] [(h0, .inr (9, [.int 7, .ref a1, .int 0, .ref a2, .int 0, .int 0, .ref w1, .ref p1, .ref o1])), (a1, .inl (cA1, 4, .inr (.inr (.inr (.inr (fun _ => none)))))), (a2, .inl (cA2, 10, .inr (.inr (.inr (.inr (fun _ => none))))))] sz)) (va_Qi (fun (r : Int32) (_ : Unit) => r = 0) (fun (_ : Unit) (t : State) => PE dC dI [(cA1, .object RX0), (cA2, .object RX1)] [(h0, .inr (9, [.int 7, .ref a1, .int 0, .ref a2, .int 0, .int 0, .ref w1, .ref p1, .ref o1])), (a1, .inl (cA1, 4, .inr (.inr (.inr (.inr (fun _ => none)))))), (a2, .inl (cA2, 10, .inr (.inr (.inr (.inr (fun _ => none))))))] (va_A [(h0, .inr (9, [.int 7, .ref a1, .int 0, .ref a2, .int 0, .int 0, .ref w1, .ref p1, .ref o1])), (a1, .inl (cA1, 4, .inr (.inr (.inr (.inr (fun _ => none)))))), (a2, .inl (cA2, 10, .inr (.inr (.inr (.inr (fun _ => none))))))] sz) t) (va_A [(h0, .inr (9, [.int 7, .ref a1, .int 0, .ref a2, .int 0, .int 0, .ref w1, .ref p1, .ref o1])), (a1, .inl (cA1, 4, .inr (.inr (.inr (.inr (fun _ => none)))))), (a2, .inl (cA2, 10, .inr (.inr (.inr (.inr (fun _ => none))))))] sz)) 0 0 (va_A [(h0, .inr (9, [.int 7, .ref a1, .int 0, .ref a2, .int 0, .int 0, .ref w1, .ref p1, .ref o1])), (a1, .inl (cA1, 4, .inr (.inr (.inr (.inr (fun _ => none)))))), (a2, .inl (cA2, 10, .inr (.inr (.inr (.inr (fun _ => none))))))] sz) := by
  refine Met.ofW (cc := cX6_plainElements) (maxL := 6) (ret := (some .int)) (by decide) rfl ?_
  intro p e s m args below meth c s₁ B hml hv
  obtain ⟨rfl, hsz, hP, hK, hD0, hTb, hZ⟩ := hv
  have hx := B.exec
  have hb := B.bytes
  have hr := B.returns
  have hts := atoms_spec (ws := wsX6_plainElements) B.pre
  have hown : s.vm.findClass RX6 = some m.cls := findClass_of_methodNamed B.named
  have hlocks := B.notSynchronized
  subst hsz
  have hD := hD0.self (sz := s.heap.size)
  generalize hAe : va_A [(h0, .inr (9, [.int 7, .ref a1, .int 0, .ref a2, .int 0, .int 0, .ref w1, .ref p1, .ref o1])), (a1, .inl (cA1, 4, .inr (.inr (.inr (.inr (fun _ => none)))))), (a2, .inl (cA2, 10, .inr (.inr (.inr (.inr (fun _ => none))))))] s.heap.size = A at hD hZ ⊢
  have hA : ∀ q : Nat, s.heap.size ≤ q → A q := fun q h => by rw [← hAe]; exact Or.inr h
  have hS : va_S A s.heap s.heap [] := va_S.rf
  have hP : va_P (dC, dI) vwCl [(h0, .inr (9, [.int 7, .ref a1, .int 0, .ref a2, .int 0, .int 0, .ref w1, .ref p1, .ref o1])), (a1, .inl (cA1, 4, .inr (.inr (.inr (.inr (fun _ => none)))))), (a2, .inl (cA2, 10, .inr (.inr (.inr (.inr (fun _ => none))))))] s.heap := hP
  have hl := lv_entry ([.ref h0]) (n := 6) (Nat.le_of_ble_eq_true rfl)
  rw [lg_entry_eq]
  generalize (lg_sl ([.ref h0]) ++ List.replicate (6 - (lg_sl ([.ref h0])).length) Slot.unset).toArray = ls at hl ⊢
  have hl : lv_has ls 6 [(0, .ref h0)] := hl
  obtain ⟨H, eH⟩ : ∃ z, z = s.heap := ⟨_, rfl⟩
  rw [← eH] at hP ⊢
  have hS : va_S A s.heap H [] := by rw [eH]; exact va_S.rf
  refine lv_iconst (v := 0) hx hb dX6_plainElements_0 (by decide) ?_
  refine lv_istore_n (lv' := [(1, .int 0), (0, .ref h0)]) hx hb dX6_plainElements_1 rfl hl (by decide) rfl (fun ls hl => ?_)
  refine lv_aload_n hx hb dX6_plainElements_2 rfl (lv_at hl 1 rfl) ?_
  refine va_get (D := (dC, dI)) (ci := 9) (v := .ref a2) (C := RX6) (T := TX6) (N := 9) hx hb hts (by decide +kernel) hown hK hP 0 rfl rfl 3 (by decide) (hts (.fieldLink RX6 24 "Versorhall" "elements" "[LVersorhall$Element;") (by decide +kernel)) (fun _ h9 => h9) rfl dX6_plainElements_3 ?_
  refine lv_astore_n (lv' := [(2, .ref a2), (1, .int 0), (0, .ref h0)]) hx hb dX6_plainElements_6 rfl hl (by decide) rfl (fun ls hl => ?_)
  refine lv_aload_n hx hb dX6_plainElements_7 rfl (lv_at hl 0 rfl) ?_
  refine va_alen (v := 10) hx hb hK hP 2 1 rfl rfl (show Int32.ofNat 10 = 10 by decide) dX6_plainElements_8 ?_
  refine lv_istore_n (lv' := [(3, .int 10), (2, .ref a2), (1, .int 0), (0, .ref h0)]) hx hb dX6_plainElements_9 rfl hl (by decide) rfl (fun ls hl => ?_)
  refine lv_iconst (v := 0) hx hb dX6_plainElements_10 (by decide) ?_
  refine lv_istore (lv' := [(4, .int 0), (3, .int 10), (2, .ref a2), (1, .int 0), (0, .ref h0)]) hx hb dX6_plainElements_11 hl (by decide) rfl (fun ls hl => ?_)
  refine lv_iload hx hb dX6_plainElements_13 (lv_at hl 0 rfl) ?_
  refine lv_iload_n hx hb dX6_plainElements_15 rfl (lv_at hl 1 rfl) ?_
  refine lv_icmp_ge (tgt := 50) hx hb dX6_plainElements_16 (by decide) (fun c9 => absurd c9 (by decide)) (fun _ => ?_)
  refine lv_aload_n hx hb dX6_plainElements_19 rfl (lv_at hl 2 rfl) ?_
  refine lv_iload hx hb dX6_plainElements_20 (lv_at hl 0 rfl) ?_
  refine va_aldq hx hb hK hP 2 1 rfl rfl (by unfold vp_in; decide) dX6_plainElements_22 ?_
  refine W.eq (g2 := F0 m 23 ls [.null]) rfl ?_
  refine lv_astoreN (lv' := [(5, .null), (4, .int 0), (3, .int 10), (2, .ref a2), (1, .int 0), (0, .ref h0)]) hx hb dX6_plainElements_23 hl (by decide) rfl (fun ls hl => ?_)
  refine lv_aloadN hx hb dX6_plainElements_25 (lv_at hl 0 rfl) ?_
  refine lv_ifnullN (tgt := 44) hx hb dX6_plainElements_27 (by decide) ?_
  refine lv_iinc (v := 1) (lv' := [(4, .int 1), (5, .null), (3, .int 10), (2, .ref a2), (1, .int 0), (0, .ref h0)]) hx hb dX6_plainElements_44 hl (k := 1) rfl (by decide) (by decide) rfl (fun ls hl => ?_)
  refine lv_goto (tgt := 13) hx hb dX6_plainElements_47 (by decide) ?_
  refine lv_iload hx hb dX6_plainElements_13 (lv_at hl 0 rfl) ?_
  refine lv_iload_n hx hb dX6_plainElements_15 rfl (lv_at hl 2 rfl) ?_
  refine lv_icmp_ge (tgt := 50) hx hb dX6_plainElements_16 (by decide) (fun c9 => absurd c9 (by decide)) (fun _ => ?_)
  refine lv_aload_n hx hb dX6_plainElements_19 rfl (lv_at hl 3 rfl) ?_
  refine lv_iload hx hb dX6_plainElements_20 (lv_at hl 0 rfl) ?_
  refine va_aldq hx hb hK hP 2 1 rfl rfl (by unfold vp_in; decide) dX6_plainElements_22 ?_
  refine W.eq (g2 := F0 m 23 ls [.null]) rfl ?_
  refine lv_astoreN (lv' := [(5, .null), (4, .int 1), (3, .int 10), (2, .ref a2), (1, .int 0), (0, .ref h0)]) hx hb dX6_plainElements_23 hl (by decide) rfl (fun ls hl => ?_)
  refine lv_aloadN hx hb dX6_plainElements_25 (lv_at hl 0 rfl) ?_
  refine lv_ifnullN (tgt := 44) hx hb dX6_plainElements_27 (by decide) ?_
  refine lv_iinc (v := 2) (lv' := [(4, .int 2), (5, .null), (3, .int 10), (2, .ref a2), (1, .int 0), (0, .ref h0)]) hx hb dX6_plainElements_44 hl (k := 1) rfl (by decide) (by decide) rfl (fun ls hl => ?_)
  refine lv_goto (tgt := 13) hx hb dX6_plainElements_47 (by decide) ?_
  refine lv_iload hx hb dX6_plainElements_13 (lv_at hl 0 rfl) ?_
  refine lv_iload_n hx hb dX6_plainElements_15 rfl (lv_at hl 2 rfl) ?_
  refine lv_icmp_ge (tgt := 50) hx hb dX6_plainElements_16 (by decide) (fun c9 => absurd c9 (by decide)) (fun _ => ?_)
  refine lv_aload_n hx hb dX6_plainElements_19 rfl (lv_at hl 3 rfl) ?_
  refine lv_iload hx hb dX6_plainElements_20 (lv_at hl 0 rfl) ?_
  refine va_aldq hx hb hK hP 2 1 rfl rfl (by unfold vp_in; decide) dX6_plainElements_22 ?_
  refine W.eq (g2 := F0 m 23 ls [.null]) rfl ?_
  refine lv_astoreN (lv' := [(5, .null), (4, .int 2), (3, .int 10), (2, .ref a2), (1, .int 0), (0, .ref h0)]) hx hb dX6_plainElements_23 hl (by decide) rfl (fun ls hl => ?_)
  refine lv_aloadN hx hb dX6_plainElements_25 (lv_at hl 0 rfl) ?_
  refine lv_ifnullN (tgt := 44) hx hb dX6_plainElements_27 (by decide) ?_
  refine lv_iinc (v := 3) (lv' := [(4, .int 3), (5, .null), (3, .int 10), (2, .ref a2), (1, .int 0), (0, .ref h0)]) hx hb dX6_plainElements_44 hl (k := 1) rfl (by decide) (by decide) rfl (fun ls hl => ?_)
  refine lv_goto (tgt := 13) hx hb dX6_plainElements_47 (by decide) ?_
  refine lv_iload hx hb dX6_plainElements_13 (lv_at hl 0 rfl) ?_
  refine lv_iload_n hx hb dX6_plainElements_15 rfl (lv_at hl 2 rfl) ?_
  refine lv_icmp_ge (tgt := 50) hx hb dX6_plainElements_16 (by decide) (fun c9 => absurd c9 (by decide)) (fun _ => ?_)
  refine lv_aload_n hx hb dX6_plainElements_19 rfl (lv_at hl 3 rfl) ?_
  refine lv_iload hx hb dX6_plainElements_20 (lv_at hl 0 rfl) ?_
  refine va_aldq hx hb hK hP 2 1 rfl rfl (by unfold vp_in; decide) dX6_plainElements_22 ?_
  refine W.eq (g2 := F0 m 23 ls [.null]) rfl ?_
  refine lv_astoreN (lv' := [(5, .null), (4, .int 3), (3, .int 10), (2, .ref a2), (1, .int 0), (0, .ref h0)]) hx hb dX6_plainElements_23 hl (by decide) rfl (fun ls hl => ?_)
  refine lv_aloadN hx hb dX6_plainElements_25 (lv_at hl 0 rfl) ?_
  refine lv_ifnullN (tgt := 44) hx hb dX6_plainElements_27 (by decide) ?_
  refine lv_iinc (v := 4) (lv' := [(4, .int 4), (5, .null), (3, .int 10), (2, .ref a2), (1, .int 0), (0, .ref h0)]) hx hb dX6_plainElements_44 hl (k := 1) rfl (by decide) (by decide) rfl (fun ls hl => ?_)
  refine lv_goto (tgt := 13) hx hb dX6_plainElements_47 (by decide) ?_
  refine lv_iload hx hb dX6_plainElements_13 (lv_at hl 0 rfl) ?_
  refine lv_iload_n hx hb dX6_plainElements_15 rfl (lv_at hl 2 rfl) ?_
  refine lv_icmp_ge (tgt := 50) hx hb dX6_plainElements_16 (by decide) (fun c9 => absurd c9 (by decide)) (fun _ => ?_)
  refine lv_aload_n hx hb dX6_plainElements_19 rfl (lv_at hl 3 rfl) ?_
  refine lv_iload hx hb dX6_plainElements_20 (lv_at hl 0 rfl) ?_
  refine va_aldq hx hb hK hP 2 1 rfl rfl (by unfold vp_in; decide) dX6_plainElements_22 ?_
  refine W.eq (g2 := F0 m 23 ls [.null]) rfl ?_
  refine lv_astoreN (lv' := [(5, .null), (4, .int 4), (3, .int 10), (2, .ref a2), (1, .int 0), (0, .ref h0)]) hx hb dX6_plainElements_23 hl (by decide) rfl (fun ls hl => ?_)
  refine lv_aloadN hx hb dX6_plainElements_25 (lv_at hl 0 rfl) ?_
  refine lv_ifnullN (tgt := 44) hx hb dX6_plainElements_27 (by decide) ?_
  refine lv_iinc (v := 5) (lv' := [(4, .int 5), (5, .null), (3, .int 10), (2, .ref a2), (1, .int 0), (0, .ref h0)]) hx hb dX6_plainElements_44 hl (k := 1) rfl (by decide) (by decide) rfl (fun ls hl => ?_)
  refine lv_goto (tgt := 13) hx hb dX6_plainElements_47 (by decide) ?_
  refine lv_iload hx hb dX6_plainElements_13 (lv_at hl 0 rfl) ?_
  refine lv_iload_n hx hb dX6_plainElements_15 rfl (lv_at hl 2 rfl) ?_
  refine lv_icmp_ge (tgt := 50) hx hb dX6_plainElements_16 (by decide) (fun c9 => absurd c9 (by decide)) (fun _ => ?_)
  refine lv_aload_n hx hb dX6_plainElements_19 rfl (lv_at hl 3 rfl) ?_
  refine lv_iload hx hb dX6_plainElements_20 (lv_at hl 0 rfl) ?_
  refine va_aldq hx hb hK hP 2 1 rfl rfl (by unfold vp_in; decide) dX6_plainElements_22 ?_
  refine W.eq (g2 := F0 m 23 ls [.null]) rfl ?_
  refine lv_astoreN (lv' := [(5, .null), (4, .int 5), (3, .int 10), (2, .ref a2), (1, .int 0), (0, .ref h0)]) hx hb dX6_plainElements_23 hl (by decide) rfl (fun ls hl => ?_)
  refine lv_aloadN hx hb dX6_plainElements_25 (lv_at hl 0 rfl) ?_
  refine lv_ifnullN (tgt := 44) hx hb dX6_plainElements_27 (by decide) ?_
  refine lv_iinc (v := 6) (lv' := [(4, .int 6), (5, .null), (3, .int 10), (2, .ref a2), (1, .int 0), (0, .ref h0)]) hx hb dX6_plainElements_44 hl (k := 1) rfl (by decide) (by decide) rfl (fun ls hl => ?_)
  refine lv_goto (tgt := 13) hx hb dX6_plainElements_47 (by decide) ?_
  refine lv_iload hx hb dX6_plainElements_13 (lv_at hl 0 rfl) ?_
  refine lv_iload_n hx hb dX6_plainElements_15 rfl (lv_at hl 2 rfl) ?_
  refine lv_icmp_ge (tgt := 50) hx hb dX6_plainElements_16 (by decide) (fun c9 => absurd c9 (by decide)) (fun _ => ?_)
  refine lv_aload_n hx hb dX6_plainElements_19 rfl (lv_at hl 3 rfl) ?_
  refine lv_iload hx hb dX6_plainElements_20 (lv_at hl 0 rfl) ?_
  refine va_aldq hx hb hK hP 2 1 rfl rfl (by unfold vp_in; decide) dX6_plainElements_22 ?_
  refine W.eq (g2 := F0 m 23 ls [.null]) rfl ?_
  refine lv_astoreN (lv' := [(5, .null), (4, .int 6), (3, .int 10), (2, .ref a2), (1, .int 0), (0, .ref h0)]) hx hb dX6_plainElements_23 hl (by decide) rfl (fun ls hl => ?_)
  refine lv_aloadN hx hb dX6_plainElements_25 (lv_at hl 0 rfl) ?_
  refine lv_ifnullN (tgt := 44) hx hb dX6_plainElements_27 (by decide) ?_
  refine lv_iinc (v := 7) (lv' := [(4, .int 7), (5, .null), (3, .int 10), (2, .ref a2), (1, .int 0), (0, .ref h0)]) hx hb dX6_plainElements_44 hl (k := 1) rfl (by decide) (by decide) rfl (fun ls hl => ?_)
  refine lv_goto (tgt := 13) hx hb dX6_plainElements_47 (by decide) ?_
  refine lv_iload hx hb dX6_plainElements_13 (lv_at hl 0 rfl) ?_
  refine lv_iload_n hx hb dX6_plainElements_15 rfl (lv_at hl 2 rfl) ?_
  refine lv_icmp_ge (tgt := 50) hx hb dX6_plainElements_16 (by decide) (fun c9 => absurd c9 (by decide)) (fun _ => ?_)
  refine lv_aload_n hx hb dX6_plainElements_19 rfl (lv_at hl 3 rfl) ?_
  refine lv_iload hx hb dX6_plainElements_20 (lv_at hl 0 rfl) ?_
  refine va_aldq hx hb hK hP 2 1 rfl rfl (by unfold vp_in; decide) dX6_plainElements_22 ?_
  refine W.eq (g2 := F0 m 23 ls [.null]) rfl ?_
  refine lv_astoreN (lv' := [(5, .null), (4, .int 7), (3, .int 10), (2, .ref a2), (1, .int 0), (0, .ref h0)]) hx hb dX6_plainElements_23 hl (by decide) rfl (fun ls hl => ?_)
  refine lv_aloadN hx hb dX6_plainElements_25 (lv_at hl 0 rfl) ?_
  refine lv_ifnullN (tgt := 44) hx hb dX6_plainElements_27 (by decide) ?_
  refine lv_iinc (v := 8) (lv' := [(4, .int 8), (5, .null), (3, .int 10), (2, .ref a2), (1, .int 0), (0, .ref h0)]) hx hb dX6_plainElements_44 hl (k := 1) rfl (by decide) (by decide) rfl (fun ls hl => ?_)
  refine lv_goto (tgt := 13) hx hb dX6_plainElements_47 (by decide) ?_
  refine lv_iload hx hb dX6_plainElements_13 (lv_at hl 0 rfl) ?_
  refine lv_iload_n hx hb dX6_plainElements_15 rfl (lv_at hl 2 rfl) ?_
  refine lv_icmp_ge (tgt := 50) hx hb dX6_plainElements_16 (by decide) (fun c9 => absurd c9 (by decide)) (fun _ => ?_)
  refine lv_aload_n hx hb dX6_plainElements_19 rfl (lv_at hl 3 rfl) ?_
  refine lv_iload hx hb dX6_plainElements_20 (lv_at hl 0 rfl) ?_
  refine va_aldq hx hb hK hP 2 1 rfl rfl (by unfold vp_in; decide) dX6_plainElements_22 ?_
  refine W.eq (g2 := F0 m 23 ls [.null]) rfl ?_
  refine lv_astoreN (lv' := [(5, .null), (4, .int 8), (3, .int 10), (2, .ref a2), (1, .int 0), (0, .ref h0)]) hx hb dX6_plainElements_23 hl (by decide) rfl (fun ls hl => ?_)
  refine lv_aloadN hx hb dX6_plainElements_25 (lv_at hl 0 rfl) ?_
  refine lv_ifnullN (tgt := 44) hx hb dX6_plainElements_27 (by decide) ?_
  refine lv_iinc (v := 9) (lv' := [(4, .int 9), (5, .null), (3, .int 10), (2, .ref a2), (1, .int 0), (0, .ref h0)]) hx hb dX6_plainElements_44 hl (k := 1) rfl (by decide) (by decide) rfl (fun ls hl => ?_)
  refine lv_goto (tgt := 13) hx hb dX6_plainElements_47 (by decide) ?_
  refine lv_iload hx hb dX6_plainElements_13 (lv_at hl 0 rfl) ?_
  refine lv_iload_n hx hb dX6_plainElements_15 rfl (lv_at hl 2 rfl) ?_
  refine lv_icmp_ge (tgt := 50) hx hb dX6_plainElements_16 (by decide) (fun c9 => absurd c9 (by decide)) (fun _ => ?_)
  refine lv_aload_n hx hb dX6_plainElements_19 rfl (lv_at hl 3 rfl) ?_
  refine lv_iload hx hb dX6_plainElements_20 (lv_at hl 0 rfl) ?_
  refine va_aldq hx hb hK hP 2 1 rfl rfl (by unfold vp_in; decide) dX6_plainElements_22 ?_
  refine W.eq (g2 := F0 m 23 ls [.null]) rfl ?_
  refine lv_astoreN (lv' := [(5, .null), (4, .int 9), (3, .int 10), (2, .ref a2), (1, .int 0), (0, .ref h0)]) hx hb dX6_plainElements_23 hl (by decide) rfl (fun ls hl => ?_)
  refine lv_aloadN hx hb dX6_plainElements_25 (lv_at hl 0 rfl) ?_
  refine lv_ifnullN (tgt := 44) hx hb dX6_plainElements_27 (by decide) ?_
  refine lv_iinc (v := 10) (lv' := [(4, .int 10), (5, .null), (3, .int 10), (2, .ref a2), (1, .int 0), (0, .ref h0)]) hx hb dX6_plainElements_44 hl (k := 1) rfl (by decide) (by decide) rfl (fun ls hl => ?_)
  refine lv_goto (tgt := 13) hx hb dX6_plainElements_47 (by decide) ?_
  refine lv_iload hx hb dX6_plainElements_13 (lv_at hl 0 rfl) ?_
  refine lv_iload_n hx hb dX6_plainElements_15 rfl (lv_at hl 2 rfl) ?_
  refine lv_icmp_ge (tgt := 50) hx hb dX6_plainElements_16 (by decide) (fun _ => ?_) (fun c9 => absurd (by decide) c9)
  refine lv_iload_n hx hb dX6_plainElements_50 rfl (lv_at hl 4 rfl) ?_
  have hP9 := hP.sub (ws' := [(h0, .inr (9, [.int 7, .ref a1, .int 0, .ref a2, .int 0, .int 0, .ref w1, .ref p1, .ref o1])), (a1, .inl (cA1, 4, .inr (.inr (.inr (.inr (fun _ => none)))))), (a2, .inl (cA2, 10, .inr (.inr (.inr (.inr (fun _ => none))))))]) [0, 1, 2] rfl
  have hD9 := hD.sub (ws' := [(h0, .inr (9, [.int 7, .ref a1, .int 0, .ref a2, .int 0, .int 0, .ref w1, .ref p1, .ref o1])), (a1, .inl (cA1, 4, .inr (.inr (.inr (.inr (fun _ => none)))))), (a2, .inl (cA2, 10, .inr (.inr (.inr (.inr (fun _ => none))))))]) [0, 1, 2] (by decide) rfl
  have hK9 := hK.sub (tys' := [(cA1, .object RX0), (cA2, .object RX1)]) [0, 1] rfl
  refine W.widen (k := 0) (n := 0) (Nat.le_of_ble_eq_true rfl) (Nat.le_of_ble_eq_true rfl) ?_
  exact W.iret (v := 0) hx hb hr (fun t ht hW => ⟨⟨_, (), rfl, rfl, PE.mk hP9 hK9 hD9 ht hW⟩, hS.F ht⟩) hS.2.2 dX6_plainElements_51

set_option maxHeartbeats 4000000 in
set_option maxRecDepth 100000 in
/-- c_elementsWithoutNorm -/
theorem c_elementsWithoutNorm (l : Launch) (dC : Nat → ClassId) (dI : Nat → Nat → Nat) (dE : Nat) (h0 : Nat) (a1 : Nat) (a2 : Nat) (w1 : Nat) (p1 : Nat) (o1 : Nat) (cA1 : ClassId) (cA2 : ClassId) (sz : Nat) : Met l yX6_elementsWithoutNorm wsX6_elementsWithoutNorm ({ frames := 0, cells := 0, slots := 0, locals := 0 }) (va_Pc [.ref h0] (PB dC dI dE [(cA1, .object RX0), (cA2, .object RX1)] [(h0, .inr (9, [.int 7, .ref a1, .int 0, .ref a2, .int 0, .int 0, .ref w1, .ref p1, .ref o1])), (a1, .inl (cA1, 4, .inr (.inr (.inr (.inr (fun _ => none)))))), (a2, .inl (cA2, 10, .inr (.inr (.inr (.inr (fun _ => none))))))] sz)) (va_Qi (fun (r : Int32) (_ : Unit) => r = 0) (fun (_ : Unit) (t : State) => PE dC dI [(cA1, .object RX0), (cA2, .object RX1)] [(h0, .inr (9, [.int 7, .ref a1, .int 0, .ref a2, .int 0, .int 0, .ref w1, .ref p1, .ref o1])), (a1, .inl (cA1, 4, .inr (.inr (.inr (.inr (fun _ => none)))))), (a2, .inl (cA2, 10, .inr (.inr (.inr (.inr (fun _ => none))))))] (va_A [(h0, .inr (9, [.int 7, .ref a1, .int 0, .ref a2, .int 0, .int 0, .ref w1, .ref p1, .ref o1])), (a1, .inl (cA1, 4, .inr (.inr (.inr (.inr (fun _ => none)))))), (a2, .inl (cA2, 10, .inr (.inr (.inr (.inr (fun _ => none))))))] sz) t) (va_A [(h0, .inr (9, [.int 7, .ref a1, .int 0, .ref a2, .int 0, .int 0, .ref w1, .ref p1, .ref o1])), (a1, .inl (cA1, 4, .inr (.inr (.inr (.inr (fun _ => none)))))), (a2, .inl (cA2, 10, .inr (.inr (.inr (.inr (fun _ => none))))))] sz)) 0 0 (va_A [(h0, .inr (9, [.int 7, .ref a1, .int 0, .ref a2, .int 0, .int 0, .ref w1, .ref p1, .ref o1])), (a1, .inl (cA1, 4, .inr (.inr (.inr (.inr (fun _ => none)))))), (a2, .inl (cA2, 10, .inr (.inr (.inr (.inr (fun _ => none))))))] sz) := by
  refine Met.ofW (cc := cX6_elementsWithoutNorm) (maxL := 6) (ret := (some .int)) (by decide) rfl ?_
  intro p e s m args below meth c s₁ B hml hv
  obtain ⟨rfl, hsz, hP, hK, hD0, hTb, hZ⟩ := hv
  have hx := B.exec
  have hb := B.bytes
  have hr := B.returns
  have hts := atoms_spec (ws := wsX6_elementsWithoutNorm) B.pre
  have hown : s.vm.findClass RX6 = some m.cls := findClass_of_methodNamed B.named
  have hlocks := B.notSynchronized
  subst hsz
  have hD := hD0.self (sz := s.heap.size)
  generalize hAe : va_A [(h0, .inr (9, [.int 7, .ref a1, .int 0, .ref a2, .int 0, .int 0, .ref w1, .ref p1, .ref o1])), (a1, .inl (cA1, 4, .inr (.inr (.inr (.inr (fun _ => none)))))), (a2, .inl (cA2, 10, .inr (.inr (.inr (.inr (fun _ => none))))))] s.heap.size = A at hD hZ ⊢
  have hA : ∀ q : Nat, s.heap.size ≤ q → A q := fun q h => by rw [← hAe]; exact Or.inr h
  have hS : va_S A s.heap s.heap [] := va_S.rf
  have hP : va_P (dC, dI) vwCl [(h0, .inr (9, [.int 7, .ref a1, .int 0, .ref a2, .int 0, .int 0, .ref w1, .ref p1, .ref o1])), (a1, .inl (cA1, 4, .inr (.inr (.inr (.inr (fun _ => none)))))), (a2, .inl (cA2, 10, .inr (.inr (.inr (.inr (fun _ => none))))))] s.heap := hP
  have hl := lv_entry ([.ref h0]) (n := 6) (Nat.le_of_ble_eq_true rfl)
  rw [lg_entry_eq]
  generalize (lg_sl ([.ref h0]) ++ List.replicate (6 - (lg_sl ([.ref h0])).length) Slot.unset).toArray = ls at hl ⊢
  have hl : lv_has ls 6 [(0, .ref h0)] := hl
  obtain ⟨H, eH⟩ : ∃ z, z = s.heap := ⟨_, rfl⟩
  rw [← eH] at hP ⊢
  have hS : va_S A s.heap H [] := by rw [eH]; exact va_S.rf
  refine lv_iconst (v := 0) hx hb dX6_elementsWithoutNorm_0 (by decide) ?_
  refine lv_istore_n (lv' := [(1, .int 0), (0, .ref h0)]) hx hb dX6_elementsWithoutNorm_1 rfl hl (by decide) rfl (fun ls hl => ?_)
  refine lv_aload_n hx hb dX6_elementsWithoutNorm_2 rfl (lv_at hl 1 rfl) ?_
  refine va_get (D := (dC, dI)) (ci := 9) (v := .ref a2) (C := RX6) (T := TX6) (N := 9) hx hb hts (by decide +kernel) hown hK hP 0 rfl rfl 3 (by decide) (hts (.fieldLink RX6 24 "Versorhall" "elements" "[LVersorhall$Element;") (by decide +kernel)) (fun _ h9 => h9) rfl dX6_elementsWithoutNorm_3 ?_
  refine lv_astore_n (lv' := [(2, .ref a2), (1, .int 0), (0, .ref h0)]) hx hb dX6_elementsWithoutNorm_6 rfl hl (by decide) rfl (fun ls hl => ?_)
  refine lv_aload_n hx hb dX6_elementsWithoutNorm_7 rfl (lv_at hl 0 rfl) ?_
  refine va_alen (v := 10) hx hb hK hP 2 1 rfl rfl (show Int32.ofNat 10 = 10 by decide) dX6_elementsWithoutNorm_8 ?_
  refine lv_istore_n (lv' := [(3, .int 10), (2, .ref a2), (1, .int 0), (0, .ref h0)]) hx hb dX6_elementsWithoutNorm_9 rfl hl (by decide) rfl (fun ls hl => ?_)
  refine lv_iconst (v := 0) hx hb dX6_elementsWithoutNorm_10 (by decide) ?_
  refine lv_istore (lv' := [(4, .int 0), (3, .int 10), (2, .ref a2), (1, .int 0), (0, .ref h0)]) hx hb dX6_elementsWithoutNorm_11 hl (by decide) rfl (fun ls hl => ?_)
  refine lv_iload hx hb dX6_elementsWithoutNorm_13 (lv_at hl 0 rfl) ?_
  refine lv_iload_n hx hb dX6_elementsWithoutNorm_15 rfl (lv_at hl 1 rfl) ?_
  refine lv_icmp_ge (tgt := 51) hx hb dX6_elementsWithoutNorm_16 (by decide) (fun c9 => absurd c9 (by decide)) (fun _ => ?_)
  refine lv_aload_n hx hb dX6_elementsWithoutNorm_19 rfl (lv_at hl 2 rfl) ?_
  refine lv_iload hx hb dX6_elementsWithoutNorm_20 (lv_at hl 0 rfl) ?_
  refine va_aldq hx hb hK hP 2 1 rfl rfl (by unfold vp_in; decide) dX6_elementsWithoutNorm_22 ?_
  refine W.eq (g2 := F0 m 23 ls [.null]) rfl ?_
  refine lv_astoreN (lv' := [(5, .null), (4, .int 0), (3, .int 10), (2, .ref a2), (1, .int 0), (0, .ref h0)]) hx hb dX6_elementsWithoutNorm_23 hl (by decide) rfl (fun ls hl => ?_)
  refine lv_aloadN hx hb dX6_elementsWithoutNorm_25 (lv_at hl 0 rfl) ?_
  refine lv_ifnullN (tgt := 45) hx hb dX6_elementsWithoutNorm_27 (by decide) ?_
  refine lv_iinc (v := 1) (lv' := [(4, .int 1), (5, .null), (3, .int 10), (2, .ref a2), (1, .int 0), (0, .ref h0)]) hx hb dX6_elementsWithoutNorm_45 hl (k := 1) rfl (by decide) (by decide) rfl (fun ls hl => ?_)
  refine lv_goto (tgt := 13) hx hb dX6_elementsWithoutNorm_48 (by decide) ?_
  refine lv_iload hx hb dX6_elementsWithoutNorm_13 (lv_at hl 0 rfl) ?_
  refine lv_iload_n hx hb dX6_elementsWithoutNorm_15 rfl (lv_at hl 2 rfl) ?_
  refine lv_icmp_ge (tgt := 51) hx hb dX6_elementsWithoutNorm_16 (by decide) (fun c9 => absurd c9 (by decide)) (fun _ => ?_)
  refine lv_aload_n hx hb dX6_elementsWithoutNorm_19 rfl (lv_at hl 3 rfl) ?_
  refine lv_iload hx hb dX6_elementsWithoutNorm_20 (lv_at hl 0 rfl) ?_
  refine va_aldq hx hb hK hP 2 1 rfl rfl (by unfold vp_in; decide) dX6_elementsWithoutNorm_22 ?_
  refine W.eq (g2 := F0 m 23 ls [.null]) rfl ?_
  refine lv_astoreN (lv' := [(5, .null), (4, .int 1), (3, .int 10), (2, .ref a2), (1, .int 0), (0, .ref h0)]) hx hb dX6_elementsWithoutNorm_23 hl (by decide) rfl (fun ls hl => ?_)
  refine lv_aloadN hx hb dX6_elementsWithoutNorm_25 (lv_at hl 0 rfl) ?_
  refine lv_ifnullN (tgt := 45) hx hb dX6_elementsWithoutNorm_27 (by decide) ?_
  refine lv_iinc (v := 2) (lv' := [(4, .int 2), (5, .null), (3, .int 10), (2, .ref a2), (1, .int 0), (0, .ref h0)]) hx hb dX6_elementsWithoutNorm_45 hl (k := 1) rfl (by decide) (by decide) rfl (fun ls hl => ?_)
  refine lv_goto (tgt := 13) hx hb dX6_elementsWithoutNorm_48 (by decide) ?_
  refine lv_iload hx hb dX6_elementsWithoutNorm_13 (lv_at hl 0 rfl) ?_
  refine lv_iload_n hx hb dX6_elementsWithoutNorm_15 rfl (lv_at hl 2 rfl) ?_
  refine lv_icmp_ge (tgt := 51) hx hb dX6_elementsWithoutNorm_16 (by decide) (fun c9 => absurd c9 (by decide)) (fun _ => ?_)
  refine lv_aload_n hx hb dX6_elementsWithoutNorm_19 rfl (lv_at hl 3 rfl) ?_
  refine lv_iload hx hb dX6_elementsWithoutNorm_20 (lv_at hl 0 rfl) ?_
  refine va_aldq hx hb hK hP 2 1 rfl rfl (by unfold vp_in; decide) dX6_elementsWithoutNorm_22 ?_
  refine W.eq (g2 := F0 m 23 ls [.null]) rfl ?_
  refine lv_astoreN (lv' := [(5, .null), (4, .int 2), (3, .int 10), (2, .ref a2), (1, .int 0), (0, .ref h0)]) hx hb dX6_elementsWithoutNorm_23 hl (by decide) rfl (fun ls hl => ?_)
  refine lv_aloadN hx hb dX6_elementsWithoutNorm_25 (lv_at hl 0 rfl) ?_
  refine lv_ifnullN (tgt := 45) hx hb dX6_elementsWithoutNorm_27 (by decide) ?_
  refine lv_iinc (v := 3) (lv' := [(4, .int 3), (5, .null), (3, .int 10), (2, .ref a2), (1, .int 0), (0, .ref h0)]) hx hb dX6_elementsWithoutNorm_45 hl (k := 1) rfl (by decide) (by decide) rfl (fun ls hl => ?_)
  refine lv_goto (tgt := 13) hx hb dX6_elementsWithoutNorm_48 (by decide) ?_
  refine lv_iload hx hb dX6_elementsWithoutNorm_13 (lv_at hl 0 rfl) ?_
  refine lv_iload_n hx hb dX6_elementsWithoutNorm_15 rfl (lv_at hl 2 rfl) ?_
  refine lv_icmp_ge (tgt := 51) hx hb dX6_elementsWithoutNorm_16 (by decide) (fun c9 => absurd c9 (by decide)) (fun _ => ?_)
  refine lv_aload_n hx hb dX6_elementsWithoutNorm_19 rfl (lv_at hl 3 rfl) ?_
  refine lv_iload hx hb dX6_elementsWithoutNorm_20 (lv_at hl 0 rfl) ?_
  refine va_aldq hx hb hK hP 2 1 rfl rfl (by unfold vp_in; decide) dX6_elementsWithoutNorm_22 ?_
  refine W.eq (g2 := F0 m 23 ls [.null]) rfl ?_
  refine lv_astoreN (lv' := [(5, .null), (4, .int 3), (3, .int 10), (2, .ref a2), (1, .int 0), (0, .ref h0)]) hx hb dX6_elementsWithoutNorm_23 hl (by decide) rfl (fun ls hl => ?_)
  refine lv_aloadN hx hb dX6_elementsWithoutNorm_25 (lv_at hl 0 rfl) ?_
  refine lv_ifnullN (tgt := 45) hx hb dX6_elementsWithoutNorm_27 (by decide) ?_
  refine lv_iinc (v := 4) (lv' := [(4, .int 4), (5, .null), (3, .int 10), (2, .ref a2), (1, .int 0), (0, .ref h0)]) hx hb dX6_elementsWithoutNorm_45 hl (k := 1) rfl (by decide) (by decide) rfl (fun ls hl => ?_)
  refine lv_goto (tgt := 13) hx hb dX6_elementsWithoutNorm_48 (by decide) ?_
  refine lv_iload hx hb dX6_elementsWithoutNorm_13 (lv_at hl 0 rfl) ?_
  refine lv_iload_n hx hb dX6_elementsWithoutNorm_15 rfl (lv_at hl 2 rfl) ?_
  refine lv_icmp_ge (tgt := 51) hx hb dX6_elementsWithoutNorm_16 (by decide) (fun c9 => absurd c9 (by decide)) (fun _ => ?_)
  refine lv_aload_n hx hb dX6_elementsWithoutNorm_19 rfl (lv_at hl 3 rfl) ?_
  refine lv_iload hx hb dX6_elementsWithoutNorm_20 (lv_at hl 0 rfl) ?_
  refine va_aldq hx hb hK hP 2 1 rfl rfl (by unfold vp_in; decide) dX6_elementsWithoutNorm_22 ?_
  refine W.eq (g2 := F0 m 23 ls [.null]) rfl ?_
  refine lv_astoreN (lv' := [(5, .null), (4, .int 4), (3, .int 10), (2, .ref a2), (1, .int 0), (0, .ref h0)]) hx hb dX6_elementsWithoutNorm_23 hl (by decide) rfl (fun ls hl => ?_)
  refine lv_aloadN hx hb dX6_elementsWithoutNorm_25 (lv_at hl 0 rfl) ?_
  refine lv_ifnullN (tgt := 45) hx hb dX6_elementsWithoutNorm_27 (by decide) ?_
  refine lv_iinc (v := 5) (lv' := [(4, .int 5), (5, .null), (3, .int 10), (2, .ref a2), (1, .int 0), (0, .ref h0)]) hx hb dX6_elementsWithoutNorm_45 hl (k := 1) rfl (by decide) (by decide) rfl (fun ls hl => ?_)
  refine lv_goto (tgt := 13) hx hb dX6_elementsWithoutNorm_48 (by decide) ?_
  refine lv_iload hx hb dX6_elementsWithoutNorm_13 (lv_at hl 0 rfl) ?_
  refine lv_iload_n hx hb dX6_elementsWithoutNorm_15 rfl (lv_at hl 2 rfl) ?_
  refine lv_icmp_ge (tgt := 51) hx hb dX6_elementsWithoutNorm_16 (by decide) (fun c9 => absurd c9 (by decide)) (fun _ => ?_)
  refine lv_aload_n hx hb dX6_elementsWithoutNorm_19 rfl (lv_at hl 3 rfl) ?_
  refine lv_iload hx hb dX6_elementsWithoutNorm_20 (lv_at hl 0 rfl) ?_
  refine va_aldq hx hb hK hP 2 1 rfl rfl (by unfold vp_in; decide) dX6_elementsWithoutNorm_22 ?_
  refine W.eq (g2 := F0 m 23 ls [.null]) rfl ?_
  refine lv_astoreN (lv' := [(5, .null), (4, .int 5), (3, .int 10), (2, .ref a2), (1, .int 0), (0, .ref h0)]) hx hb dX6_elementsWithoutNorm_23 hl (by decide) rfl (fun ls hl => ?_)
  refine lv_aloadN hx hb dX6_elementsWithoutNorm_25 (lv_at hl 0 rfl) ?_
  refine lv_ifnullN (tgt := 45) hx hb dX6_elementsWithoutNorm_27 (by decide) ?_
  refine lv_iinc (v := 6) (lv' := [(4, .int 6), (5, .null), (3, .int 10), (2, .ref a2), (1, .int 0), (0, .ref h0)]) hx hb dX6_elementsWithoutNorm_45 hl (k := 1) rfl (by decide) (by decide) rfl (fun ls hl => ?_)
  refine lv_goto (tgt := 13) hx hb dX6_elementsWithoutNorm_48 (by decide) ?_
  refine lv_iload hx hb dX6_elementsWithoutNorm_13 (lv_at hl 0 rfl) ?_
  refine lv_iload_n hx hb dX6_elementsWithoutNorm_15 rfl (lv_at hl 2 rfl) ?_
  refine lv_icmp_ge (tgt := 51) hx hb dX6_elementsWithoutNorm_16 (by decide) (fun c9 => absurd c9 (by decide)) (fun _ => ?_)
  refine lv_aload_n hx hb dX6_elementsWithoutNorm_19 rfl (lv_at hl 3 rfl) ?_
  refine lv_iload hx hb dX6_elementsWithoutNorm_20 (lv_at hl 0 rfl) ?_
  refine va_aldq hx hb hK hP 2 1 rfl rfl (by unfold vp_in; decide) dX6_elementsWithoutNorm_22 ?_
  refine W.eq (g2 := F0 m 23 ls [.null]) rfl ?_
  refine lv_astoreN (lv' := [(5, .null), (4, .int 6), (3, .int 10), (2, .ref a2), (1, .int 0), (0, .ref h0)]) hx hb dX6_elementsWithoutNorm_23 hl (by decide) rfl (fun ls hl => ?_)
  refine lv_aloadN hx hb dX6_elementsWithoutNorm_25 (lv_at hl 0 rfl) ?_
  refine lv_ifnullN (tgt := 45) hx hb dX6_elementsWithoutNorm_27 (by decide) ?_
  refine lv_iinc (v := 7) (lv' := [(4, .int 7), (5, .null), (3, .int 10), (2, .ref a2), (1, .int 0), (0, .ref h0)]) hx hb dX6_elementsWithoutNorm_45 hl (k := 1) rfl (by decide) (by decide) rfl (fun ls hl => ?_)
  refine lv_goto (tgt := 13) hx hb dX6_elementsWithoutNorm_48 (by decide) ?_
  refine lv_iload hx hb dX6_elementsWithoutNorm_13 (lv_at hl 0 rfl) ?_
  refine lv_iload_n hx hb dX6_elementsWithoutNorm_15 rfl (lv_at hl 2 rfl) ?_
  refine lv_icmp_ge (tgt := 51) hx hb dX6_elementsWithoutNorm_16 (by decide) (fun c9 => absurd c9 (by decide)) (fun _ => ?_)
  refine lv_aload_n hx hb dX6_elementsWithoutNorm_19 rfl (lv_at hl 3 rfl) ?_
  refine lv_iload hx hb dX6_elementsWithoutNorm_20 (lv_at hl 0 rfl) ?_
  refine va_aldq hx hb hK hP 2 1 rfl rfl (by unfold vp_in; decide) dX6_elementsWithoutNorm_22 ?_
  refine W.eq (g2 := F0 m 23 ls [.null]) rfl ?_
  refine lv_astoreN (lv' := [(5, .null), (4, .int 7), (3, .int 10), (2, .ref a2), (1, .int 0), (0, .ref h0)]) hx hb dX6_elementsWithoutNorm_23 hl (by decide) rfl (fun ls hl => ?_)
  refine lv_aloadN hx hb dX6_elementsWithoutNorm_25 (lv_at hl 0 rfl) ?_
  refine lv_ifnullN (tgt := 45) hx hb dX6_elementsWithoutNorm_27 (by decide) ?_
  refine lv_iinc (v := 8) (lv' := [(4, .int 8), (5, .null), (3, .int 10), (2, .ref a2), (1, .int 0), (0, .ref h0)]) hx hb dX6_elementsWithoutNorm_45 hl (k := 1) rfl (by decide) (by decide) rfl (fun ls hl => ?_)
  refine lv_goto (tgt := 13) hx hb dX6_elementsWithoutNorm_48 (by decide) ?_
  refine lv_iload hx hb dX6_elementsWithoutNorm_13 (lv_at hl 0 rfl) ?_
  refine lv_iload_n hx hb dX6_elementsWithoutNorm_15 rfl (lv_at hl 2 rfl) ?_
  refine lv_icmp_ge (tgt := 51) hx hb dX6_elementsWithoutNorm_16 (by decide) (fun c9 => absurd c9 (by decide)) (fun _ => ?_)
  refine lv_aload_n hx hb dX6_elementsWithoutNorm_19 rfl (lv_at hl 3 rfl) ?_
  refine lv_iload hx hb dX6_elementsWithoutNorm_20 (lv_at hl 0 rfl) ?_
  refine va_aldq hx hb hK hP 2 1 rfl rfl (by unfold vp_in; decide) dX6_elementsWithoutNorm_22 ?_
  refine W.eq (g2 := F0 m 23 ls [.null]) rfl ?_
  refine lv_astoreN (lv' := [(5, .null), (4, .int 8), (3, .int 10), (2, .ref a2), (1, .int 0), (0, .ref h0)]) hx hb dX6_elementsWithoutNorm_23 hl (by decide) rfl (fun ls hl => ?_)
  refine lv_aloadN hx hb dX6_elementsWithoutNorm_25 (lv_at hl 0 rfl) ?_
  refine lv_ifnullN (tgt := 45) hx hb dX6_elementsWithoutNorm_27 (by decide) ?_
  refine lv_iinc (v := 9) (lv' := [(4, .int 9), (5, .null), (3, .int 10), (2, .ref a2), (1, .int 0), (0, .ref h0)]) hx hb dX6_elementsWithoutNorm_45 hl (k := 1) rfl (by decide) (by decide) rfl (fun ls hl => ?_)
  refine lv_goto (tgt := 13) hx hb dX6_elementsWithoutNorm_48 (by decide) ?_
  refine lv_iload hx hb dX6_elementsWithoutNorm_13 (lv_at hl 0 rfl) ?_
  refine lv_iload_n hx hb dX6_elementsWithoutNorm_15 rfl (lv_at hl 2 rfl) ?_
  refine lv_icmp_ge (tgt := 51) hx hb dX6_elementsWithoutNorm_16 (by decide) (fun c9 => absurd c9 (by decide)) (fun _ => ?_)
  refine lv_aload_n hx hb dX6_elementsWithoutNorm_19 rfl (lv_at hl 3 rfl) ?_
  refine lv_iload hx hb dX6_elementsWithoutNorm_20 (lv_at hl 0 rfl) ?_
  refine va_aldq hx hb hK hP 2 1 rfl rfl (by unfold vp_in; decide) dX6_elementsWithoutNorm_22 ?_
  refine W.eq (g2 := F0 m 23 ls [.null]) rfl ?_
  refine lv_astoreN (lv' := [(5, .null), (4, .int 9), (3, .int 10), (2, .ref a2), (1, .int 0), (0, .ref h0)]) hx hb dX6_elementsWithoutNorm_23 hl (by decide) rfl (fun ls hl => ?_)
  refine lv_aloadN hx hb dX6_elementsWithoutNorm_25 (lv_at hl 0 rfl) ?_
  refine lv_ifnullN (tgt := 45) hx hb dX6_elementsWithoutNorm_27 (by decide) ?_
  refine lv_iinc (v := 10) (lv' := [(4, .int 10), (5, .null), (3, .int 10), (2, .ref a2), (1, .int 0), (0, .ref h0)]) hx hb dX6_elementsWithoutNorm_45 hl (k := 1) rfl (by decide) (by decide) rfl (fun ls hl => ?_)
  refine lv_goto (tgt := 13) hx hb dX6_elementsWithoutNorm_48 (by decide) ?_
  refine lv_iload hx hb dX6_elementsWithoutNorm_13 (lv_at hl 0 rfl) ?_
  refine lv_iload_n hx hb dX6_elementsWithoutNorm_15 rfl (lv_at hl 2 rfl) ?_
  refine lv_icmp_ge (tgt := 51) hx hb dX6_elementsWithoutNorm_16 (by decide) (fun _ => ?_) (fun c9 => absurd (by decide) c9)
  refine lv_iload_n hx hb dX6_elementsWithoutNorm_51 rfl (lv_at hl 4 rfl) ?_
  have hP9 := hP.sub (ws' := [(h0, .inr (9, [.int 7, .ref a1, .int 0, .ref a2, .int 0, .int 0, .ref w1, .ref p1, .ref o1])), (a1, .inl (cA1, 4, .inr (.inr (.inr (.inr (fun _ => none)))))), (a2, .inl (cA2, 10, .inr (.inr (.inr (.inr (fun _ => none))))))]) [0, 1, 2] rfl
  have hD9 := hD.sub (ws' := [(h0, .inr (9, [.int 7, .ref a1, .int 0, .ref a2, .int 0, .int 0, .ref w1, .ref p1, .ref o1])), (a1, .inl (cA1, 4, .inr (.inr (.inr (.inr (fun _ => none)))))), (a2, .inl (cA2, 10, .inr (.inr (.inr (.inr (fun _ => none))))))]) [0, 1, 2] (by decide) rfl
  have hK9 := hK.sub (tys' := [(cA1, .object RX0), (cA2, .object RX1)]) [0, 1] rfl
  refine W.widen (k := 0) (n := 0) (Nat.le_of_ble_eq_true rfl) (Nat.le_of_ble_eq_true rfl) ?_
  exact W.iret (v := 0) hx hb hr (fun t ht hW => ⟨⟨_, (), rfl, rfl, PE.mk hP9 hK9 hD9 ht hW⟩, hS.F ht⟩) hS.2.2 dX6_elementsWithoutNorm_52

set_option maxHeartbeats 4000000 in
set_option maxRecDepth 100000 in
/-- c_sumOfLeansInQuarters -/
theorem c_sumOfLeansInQuarters (l : Launch) (dC : Nat → ClassId) (dI : Nat → Nat → Nat) (dE : Nat) (h0 : Nat) (a1 : Nat) (a2 : Nat) (w1 : Nat) (p1 : Nat) (o1 : Nat) (cA1 : ClassId) (cA2 : ClassId) (sz : Nat) : Met l yX6_sumOfLeansInQuarters wsX6_sumOfLeansInQuarters ({ frames := 0, cells := 0, slots := 0, locals := 0 }) (va_Pc [.ref h0] (PB dC dI dE [(cA1, .object RX0), (cA2, .object RX1)] [(h0, .inr (9, [.int 7, .ref a1, .int 0, .ref a2, .int 0, .int 0, .ref w1, .ref p1, .ref o1])), (a1, .inl (cA1, 4, .inr (.inr (.inr (.inr (fun _ => none)))))), (a2, .inl (cA2, 10, .inr (.inr (.inr (.inr (fun _ => none))))))] sz)) (va_Qi (fun (r : Int32) (_ : Unit) => r = 0) (fun (_ : Unit) (t : State) => PE dC dI [(cA1, .object RX0), (cA2, .object RX1)] [(h0, .inr (9, [.int 7, .ref a1, .int 0, .ref a2, .int 0, .int 0, .ref w1, .ref p1, .ref o1])), (a1, .inl (cA1, 4, .inr (.inr (.inr (.inr (fun _ => none)))))), (a2, .inl (cA2, 10, .inr (.inr (.inr (.inr (fun _ => none))))))] (va_A [(h0, .inr (9, [.int 7, .ref a1, .int 0, .ref a2, .int 0, .int 0, .ref w1, .ref p1, .ref o1])), (a1, .inl (cA1, 4, .inr (.inr (.inr (.inr (fun _ => none)))))), (a2, .inl (cA2, 10, .inr (.inr (.inr (.inr (fun _ => none))))))] sz) t) (va_A [(h0, .inr (9, [.int 7, .ref a1, .int 0, .ref a2, .int 0, .int 0, .ref w1, .ref p1, .ref o1])), (a1, .inl (cA1, 4, .inr (.inr (.inr (.inr (fun _ => none)))))), (a2, .inl (cA2, 10, .inr (.inr (.inr (.inr (fun _ => none))))))] sz)) 0 0 (va_A [(h0, .inr (9, [.int 7, .ref a1, .int 0, .ref a2, .int 0, .int 0, .ref w1, .ref p1, .ref o1])), (a1, .inl (cA1, 4, .inr (.inr (.inr (.inr (fun _ => none)))))), (a2, .inl (cA2, 10, .inr (.inr (.inr (.inr (fun _ => none))))))] sz) := by
  refine Met.ofW (cc := cX6_sumOfLeansInQuarters) (maxL := 6) (ret := (some .int)) (by decide) rfl ?_
  intro p e s m args below meth c s₁ B hml hv
  obtain ⟨rfl, hsz, hP, hK, hD0, hTb, hZ⟩ := hv
  have hx := B.exec
  have hb := B.bytes
  have hr := B.returns
  have hts := atoms_spec (ws := wsX6_sumOfLeansInQuarters) B.pre
  have hown : s.vm.findClass RX6 = some m.cls := findClass_of_methodNamed B.named
  have hlocks := B.notSynchronized
  subst hsz
  have hD := hD0.self (sz := s.heap.size)
  generalize hAe : va_A [(h0, .inr (9, [.int 7, .ref a1, .int 0, .ref a2, .int 0, .int 0, .ref w1, .ref p1, .ref o1])), (a1, .inl (cA1, 4, .inr (.inr (.inr (.inr (fun _ => none)))))), (a2, .inl (cA2, 10, .inr (.inr (.inr (.inr (fun _ => none))))))] s.heap.size = A at hD hZ ⊢
  have hA : ∀ q : Nat, s.heap.size ≤ q → A q := fun q h => by rw [← hAe]; exact Or.inr h
  have hS : va_S A s.heap s.heap [] := va_S.rf
  have hP : va_P (dC, dI) vwCl [(h0, .inr (9, [.int 7, .ref a1, .int 0, .ref a2, .int 0, .int 0, .ref w1, .ref p1, .ref o1])), (a1, .inl (cA1, 4, .inr (.inr (.inr (.inr (fun _ => none)))))), (a2, .inl (cA2, 10, .inr (.inr (.inr (.inr (fun _ => none))))))] s.heap := hP
  have hl := lv_entry ([.ref h0]) (n := 6) (Nat.le_of_ble_eq_true rfl)
  rw [lg_entry_eq]
  generalize (lg_sl ([.ref h0]) ++ List.replicate (6 - (lg_sl ([.ref h0])).length) Slot.unset).toArray = ls at hl ⊢
  have hl : lv_has ls 6 [(0, .ref h0)] := hl
  obtain ⟨H, eH⟩ : ∃ z, z = s.heap := ⟨_, rfl⟩
  rw [← eH] at hP ⊢
  have hS : va_S A s.heap H [] := by rw [eH]; exact va_S.rf
  refine lv_iconst (v := 0) hx hb dX6_sumOfLeansInQuarters_0 (by decide) ?_
  refine lv_istore_n (lv' := [(1, .int 0), (0, .ref h0)]) hx hb dX6_sumOfLeansInQuarters_1 rfl hl (by decide) rfl (fun ls hl => ?_)
  refine lv_aload_n hx hb dX6_sumOfLeansInQuarters_2 rfl (lv_at hl 1 rfl) ?_
  refine va_get (D := (dC, dI)) (ci := 9) (v := .ref a2) (C := RX6) (T := TX6) (N := 9) hx hb hts (by decide +kernel) hown hK hP 0 rfl rfl 3 (by decide) (hts (.fieldLink RX6 24 "Versorhall" "elements" "[LVersorhall$Element;") (by decide +kernel)) (fun _ h9 => h9) rfl dX6_sumOfLeansInQuarters_3 ?_
  refine lv_astore_n (lv' := [(2, .ref a2), (1, .int 0), (0, .ref h0)]) hx hb dX6_sumOfLeansInQuarters_6 rfl hl (by decide) rfl (fun ls hl => ?_)
  refine lv_aload_n hx hb dX6_sumOfLeansInQuarters_7 rfl (lv_at hl 0 rfl) ?_
  refine va_alen (v := 10) hx hb hK hP 2 1 rfl rfl (show Int32.ofNat 10 = 10 by decide) dX6_sumOfLeansInQuarters_8 ?_
  refine lv_istore_n (lv' := [(3, .int 10), (2, .ref a2), (1, .int 0), (0, .ref h0)]) hx hb dX6_sumOfLeansInQuarters_9 rfl hl (by decide) rfl (fun ls hl => ?_)
  refine lv_iconst (v := 0) hx hb dX6_sumOfLeansInQuarters_10 (by decide) ?_
  refine lv_istore (lv' := [(4, .int 0), (3, .int 10), (2, .ref a2), (1, .int 0), (0, .ref h0)]) hx hb dX6_sumOfLeansInQuarters_11 hl (by decide) rfl (fun ls hl => ?_)
  refine lv_iload hx hb dX6_sumOfLeansInQuarters_13 (lv_at hl 0 rfl) ?_
  refine lv_iload_n hx hb dX6_sumOfLeansInQuarters_15 rfl (lv_at hl 1 rfl) ?_
  refine lv_icmp_ge (tgt := 44) hx hb dX6_sumOfLeansInQuarters_16 (by decide) (fun c9 => absurd c9 (by decide)) (fun _ => ?_)
  refine lv_aload_n hx hb dX6_sumOfLeansInQuarters_19 rfl (lv_at hl 2 rfl) ?_
  refine lv_iload hx hb dX6_sumOfLeansInQuarters_20 (lv_at hl 0 rfl) ?_
  refine va_aldq hx hb hK hP 2 1 rfl rfl (by unfold vp_in; decide) dX6_sumOfLeansInQuarters_22 ?_
  refine W.eq (g2 := F0 m 23 ls [.null]) rfl ?_
  refine lv_astoreN (lv' := [(5, .null), (4, .int 0), (3, .int 10), (2, .ref a2), (1, .int 0), (0, .ref h0)]) hx hb dX6_sumOfLeansInQuarters_23 hl (by decide) rfl (fun ls hl => ?_)
  refine lv_aloadN hx hb dX6_sumOfLeansInQuarters_25 (lv_at hl 0 rfl) ?_
  refine lv_ifnullN (tgt := 38) hx hb dX6_sumOfLeansInQuarters_27 (by decide) ?_
  refine lv_iinc (v := 1) (lv' := [(4, .int 1), (5, .null), (3, .int 10), (2, .ref a2), (1, .int 0), (0, .ref h0)]) hx hb dX6_sumOfLeansInQuarters_38 hl (k := 1) rfl (by decide) (by decide) rfl (fun ls hl => ?_)
  refine lv_goto (tgt := 13) hx hb dX6_sumOfLeansInQuarters_41 (by decide) ?_
  refine lv_iload hx hb dX6_sumOfLeansInQuarters_13 (lv_at hl 0 rfl) ?_
  refine lv_iload_n hx hb dX6_sumOfLeansInQuarters_15 rfl (lv_at hl 2 rfl) ?_
  refine lv_icmp_ge (tgt := 44) hx hb dX6_sumOfLeansInQuarters_16 (by decide) (fun c9 => absurd c9 (by decide)) (fun _ => ?_)
  refine lv_aload_n hx hb dX6_sumOfLeansInQuarters_19 rfl (lv_at hl 3 rfl) ?_
  refine lv_iload hx hb dX6_sumOfLeansInQuarters_20 (lv_at hl 0 rfl) ?_
  refine va_aldq hx hb hK hP 2 1 rfl rfl (by unfold vp_in; decide) dX6_sumOfLeansInQuarters_22 ?_
  refine W.eq (g2 := F0 m 23 ls [.null]) rfl ?_
  refine lv_astoreN (lv' := [(5, .null), (4, .int 1), (3, .int 10), (2, .ref a2), (1, .int 0), (0, .ref h0)]) hx hb dX6_sumOfLeansInQuarters_23 hl (by decide) rfl (fun ls hl => ?_)
  refine lv_aloadN hx hb dX6_sumOfLeansInQuarters_25 (lv_at hl 0 rfl) ?_
  refine lv_ifnullN (tgt := 38) hx hb dX6_sumOfLeansInQuarters_27 (by decide) ?_
  refine lv_iinc (v := 2) (lv' := [(4, .int 2), (5, .null), (3, .int 10), (2, .ref a2), (1, .int 0), (0, .ref h0)]) hx hb dX6_sumOfLeansInQuarters_38 hl (k := 1) rfl (by decide) (by decide) rfl (fun ls hl => ?_)
  refine lv_goto (tgt := 13) hx hb dX6_sumOfLeansInQuarters_41 (by decide) ?_
  refine lv_iload hx hb dX6_sumOfLeansInQuarters_13 (lv_at hl 0 rfl) ?_
  refine lv_iload_n hx hb dX6_sumOfLeansInQuarters_15 rfl (lv_at hl 2 rfl) ?_
  refine lv_icmp_ge (tgt := 44) hx hb dX6_sumOfLeansInQuarters_16 (by decide) (fun c9 => absurd c9 (by decide)) (fun _ => ?_)
  refine lv_aload_n hx hb dX6_sumOfLeansInQuarters_19 rfl (lv_at hl 3 rfl) ?_
  refine lv_iload hx hb dX6_sumOfLeansInQuarters_20 (lv_at hl 0 rfl) ?_
  refine va_aldq hx hb hK hP 2 1 rfl rfl (by unfold vp_in; decide) dX6_sumOfLeansInQuarters_22 ?_
  refine W.eq (g2 := F0 m 23 ls [.null]) rfl ?_
  refine lv_astoreN (lv' := [(5, .null), (4, .int 2), (3, .int 10), (2, .ref a2), (1, .int 0), (0, .ref h0)]) hx hb dX6_sumOfLeansInQuarters_23 hl (by decide) rfl (fun ls hl => ?_)
  refine lv_aloadN hx hb dX6_sumOfLeansInQuarters_25 (lv_at hl 0 rfl) ?_
  refine lv_ifnullN (tgt := 38) hx hb dX6_sumOfLeansInQuarters_27 (by decide) ?_
  refine lv_iinc (v := 3) (lv' := [(4, .int 3), (5, .null), (3, .int 10), (2, .ref a2), (1, .int 0), (0, .ref h0)]) hx hb dX6_sumOfLeansInQuarters_38 hl (k := 1) rfl (by decide) (by decide) rfl (fun ls hl => ?_)
  refine lv_goto (tgt := 13) hx hb dX6_sumOfLeansInQuarters_41 (by decide) ?_
  refine lv_iload hx hb dX6_sumOfLeansInQuarters_13 (lv_at hl 0 rfl) ?_
  refine lv_iload_n hx hb dX6_sumOfLeansInQuarters_15 rfl (lv_at hl 2 rfl) ?_
  refine lv_icmp_ge (tgt := 44) hx hb dX6_sumOfLeansInQuarters_16 (by decide) (fun c9 => absurd c9 (by decide)) (fun _ => ?_)
  refine lv_aload_n hx hb dX6_sumOfLeansInQuarters_19 rfl (lv_at hl 3 rfl) ?_
  refine lv_iload hx hb dX6_sumOfLeansInQuarters_20 (lv_at hl 0 rfl) ?_
  refine va_aldq hx hb hK hP 2 1 rfl rfl (by unfold vp_in; decide) dX6_sumOfLeansInQuarters_22 ?_
  refine W.eq (g2 := F0 m 23 ls [.null]) rfl ?_
  refine lv_astoreN (lv' := [(5, .null), (4, .int 3), (3, .int 10), (2, .ref a2), (1, .int 0), (0, .ref h0)]) hx hb dX6_sumOfLeansInQuarters_23 hl (by decide) rfl (fun ls hl => ?_)
  refine lv_aloadN hx hb dX6_sumOfLeansInQuarters_25 (lv_at hl 0 rfl) ?_
  refine lv_ifnullN (tgt := 38) hx hb dX6_sumOfLeansInQuarters_27 (by decide) ?_
  refine lv_iinc (v := 4) (lv' := [(4, .int 4), (5, .null), (3, .int 10), (2, .ref a2), (1, .int 0), (0, .ref h0)]) hx hb dX6_sumOfLeansInQuarters_38 hl (k := 1) rfl (by decide) (by decide) rfl (fun ls hl => ?_)
  refine lv_goto (tgt := 13) hx hb dX6_sumOfLeansInQuarters_41 (by decide) ?_
  refine lv_iload hx hb dX6_sumOfLeansInQuarters_13 (lv_at hl 0 rfl) ?_
  refine lv_iload_n hx hb dX6_sumOfLeansInQuarters_15 rfl (lv_at hl 2 rfl) ?_
  refine lv_icmp_ge (tgt := 44) hx hb dX6_sumOfLeansInQuarters_16 (by decide) (fun c9 => absurd c9 (by decide)) (fun _ => ?_)
  refine lv_aload_n hx hb dX6_sumOfLeansInQuarters_19 rfl (lv_at hl 3 rfl) ?_
  refine lv_iload hx hb dX6_sumOfLeansInQuarters_20 (lv_at hl 0 rfl) ?_
  refine va_aldq hx hb hK hP 2 1 rfl rfl (by unfold vp_in; decide) dX6_sumOfLeansInQuarters_22 ?_
  refine W.eq (g2 := F0 m 23 ls [.null]) rfl ?_
  refine lv_astoreN (lv' := [(5, .null), (4, .int 4), (3, .int 10), (2, .ref a2), (1, .int 0), (0, .ref h0)]) hx hb dX6_sumOfLeansInQuarters_23 hl (by decide) rfl (fun ls hl => ?_)
  refine lv_aloadN hx hb dX6_sumOfLeansInQuarters_25 (lv_at hl 0 rfl) ?_
  refine lv_ifnullN (tgt := 38) hx hb dX6_sumOfLeansInQuarters_27 (by decide) ?_
  refine lv_iinc (v := 5) (lv' := [(4, .int 5), (5, .null), (3, .int 10), (2, .ref a2), (1, .int 0), (0, .ref h0)]) hx hb dX6_sumOfLeansInQuarters_38 hl (k := 1) rfl (by decide) (by decide) rfl (fun ls hl => ?_)
  refine lv_goto (tgt := 13) hx hb dX6_sumOfLeansInQuarters_41 (by decide) ?_
  refine lv_iload hx hb dX6_sumOfLeansInQuarters_13 (lv_at hl 0 rfl) ?_
  refine lv_iload_n hx hb dX6_sumOfLeansInQuarters_15 rfl (lv_at hl 2 rfl) ?_
  refine lv_icmp_ge (tgt := 44) hx hb dX6_sumOfLeansInQuarters_16 (by decide) (fun c9 => absurd c9 (by decide)) (fun _ => ?_)
  refine lv_aload_n hx hb dX6_sumOfLeansInQuarters_19 rfl (lv_at hl 3 rfl) ?_
  refine lv_iload hx hb dX6_sumOfLeansInQuarters_20 (lv_at hl 0 rfl) ?_
  refine va_aldq hx hb hK hP 2 1 rfl rfl (by unfold vp_in; decide) dX6_sumOfLeansInQuarters_22 ?_
  refine W.eq (g2 := F0 m 23 ls [.null]) rfl ?_
  refine lv_astoreN (lv' := [(5, .null), (4, .int 5), (3, .int 10), (2, .ref a2), (1, .int 0), (0, .ref h0)]) hx hb dX6_sumOfLeansInQuarters_23 hl (by decide) rfl (fun ls hl => ?_)
  refine lv_aloadN hx hb dX6_sumOfLeansInQuarters_25 (lv_at hl 0 rfl) ?_
  refine lv_ifnullN (tgt := 38) hx hb dX6_sumOfLeansInQuarters_27 (by decide) ?_
  refine lv_iinc (v := 6) (lv' := [(4, .int 6), (5, .null), (3, .int 10), (2, .ref a2), (1, .int 0), (0, .ref h0)]) hx hb dX6_sumOfLeansInQuarters_38 hl (k := 1) rfl (by decide) (by decide) rfl (fun ls hl => ?_)
  refine lv_goto (tgt := 13) hx hb dX6_sumOfLeansInQuarters_41 (by decide) ?_
  refine lv_iload hx hb dX6_sumOfLeansInQuarters_13 (lv_at hl 0 rfl) ?_
  refine lv_iload_n hx hb dX6_sumOfLeansInQuarters_15 rfl (lv_at hl 2 rfl) ?_
  refine lv_icmp_ge (tgt := 44) hx hb dX6_sumOfLeansInQuarters_16 (by decide) (fun c9 => absurd c9 (by decide)) (fun _ => ?_)
  refine lv_aload_n hx hb dX6_sumOfLeansInQuarters_19 rfl (lv_at hl 3 rfl) ?_
  refine lv_iload hx hb dX6_sumOfLeansInQuarters_20 (lv_at hl 0 rfl) ?_
  refine va_aldq hx hb hK hP 2 1 rfl rfl (by unfold vp_in; decide) dX6_sumOfLeansInQuarters_22 ?_
  refine W.eq (g2 := F0 m 23 ls [.null]) rfl ?_
  refine lv_astoreN (lv' := [(5, .null), (4, .int 6), (3, .int 10), (2, .ref a2), (1, .int 0), (0, .ref h0)]) hx hb dX6_sumOfLeansInQuarters_23 hl (by decide) rfl (fun ls hl => ?_)
  refine lv_aloadN hx hb dX6_sumOfLeansInQuarters_25 (lv_at hl 0 rfl) ?_
  refine lv_ifnullN (tgt := 38) hx hb dX6_sumOfLeansInQuarters_27 (by decide) ?_
  refine lv_iinc (v := 7) (lv' := [(4, .int 7), (5, .null), (3, .int 10), (2, .ref a2), (1, .int 0), (0, .ref h0)]) hx hb dX6_sumOfLeansInQuarters_38 hl (k := 1) rfl (by decide) (by decide) rfl (fun ls hl => ?_)
  refine lv_goto (tgt := 13) hx hb dX6_sumOfLeansInQuarters_41 (by decide) ?_
  refine lv_iload hx hb dX6_sumOfLeansInQuarters_13 (lv_at hl 0 rfl) ?_
  refine lv_iload_n hx hb dX6_sumOfLeansInQuarters_15 rfl (lv_at hl 2 rfl) ?_
  refine lv_icmp_ge (tgt := 44) hx hb dX6_sumOfLeansInQuarters_16 (by decide) (fun c9 => absurd c9 (by decide)) (fun _ => ?_)
  refine lv_aload_n hx hb dX6_sumOfLeansInQuarters_19 rfl (lv_at hl 3 rfl) ?_
  refine lv_iload hx hb dX6_sumOfLeansInQuarters_20 (lv_at hl 0 rfl) ?_
  refine va_aldq hx hb hK hP 2 1 rfl rfl (by unfold vp_in; decide) dX6_sumOfLeansInQuarters_22 ?_
  refine W.eq (g2 := F0 m 23 ls [.null]) rfl ?_
  refine lv_astoreN (lv' := [(5, .null), (4, .int 7), (3, .int 10), (2, .ref a2), (1, .int 0), (0, .ref h0)]) hx hb dX6_sumOfLeansInQuarters_23 hl (by decide) rfl (fun ls hl => ?_)
  refine lv_aloadN hx hb dX6_sumOfLeansInQuarters_25 (lv_at hl 0 rfl) ?_
  refine lv_ifnullN (tgt := 38) hx hb dX6_sumOfLeansInQuarters_27 (by decide) ?_
  refine lv_iinc (v := 8) (lv' := [(4, .int 8), (5, .null), (3, .int 10), (2, .ref a2), (1, .int 0), (0, .ref h0)]) hx hb dX6_sumOfLeansInQuarters_38 hl (k := 1) rfl (by decide) (by decide) rfl (fun ls hl => ?_)
  refine lv_goto (tgt := 13) hx hb dX6_sumOfLeansInQuarters_41 (by decide) ?_
  refine lv_iload hx hb dX6_sumOfLeansInQuarters_13 (lv_at hl 0 rfl) ?_
  refine lv_iload_n hx hb dX6_sumOfLeansInQuarters_15 rfl (lv_at hl 2 rfl) ?_
  refine lv_icmp_ge (tgt := 44) hx hb dX6_sumOfLeansInQuarters_16 (by decide) (fun c9 => absurd c9 (by decide)) (fun _ => ?_)
  refine lv_aload_n hx hb dX6_sumOfLeansInQuarters_19 rfl (lv_at hl 3 rfl) ?_
  refine lv_iload hx hb dX6_sumOfLeansInQuarters_20 (lv_at hl 0 rfl) ?_
  refine va_aldq hx hb hK hP 2 1 rfl rfl (by unfold vp_in; decide) dX6_sumOfLeansInQuarters_22 ?_
  refine W.eq (g2 := F0 m 23 ls [.null]) rfl ?_
  refine lv_astoreN (lv' := [(5, .null), (4, .int 8), (3, .int 10), (2, .ref a2), (1, .int 0), (0, .ref h0)]) hx hb dX6_sumOfLeansInQuarters_23 hl (by decide) rfl (fun ls hl => ?_)
  refine lv_aloadN hx hb dX6_sumOfLeansInQuarters_25 (lv_at hl 0 rfl) ?_
  refine lv_ifnullN (tgt := 38) hx hb dX6_sumOfLeansInQuarters_27 (by decide) ?_
  refine lv_iinc (v := 9) (lv' := [(4, .int 9), (5, .null), (3, .int 10), (2, .ref a2), (1, .int 0), (0, .ref h0)]) hx hb dX6_sumOfLeansInQuarters_38 hl (k := 1) rfl (by decide) (by decide) rfl (fun ls hl => ?_)
  refine lv_goto (tgt := 13) hx hb dX6_sumOfLeansInQuarters_41 (by decide) ?_
  refine lv_iload hx hb dX6_sumOfLeansInQuarters_13 (lv_at hl 0 rfl) ?_
  refine lv_iload_n hx hb dX6_sumOfLeansInQuarters_15 rfl (lv_at hl 2 rfl) ?_
  refine lv_icmp_ge (tgt := 44) hx hb dX6_sumOfLeansInQuarters_16 (by decide) (fun c9 => absurd c9 (by decide)) (fun _ => ?_)
  refine lv_aload_n hx hb dX6_sumOfLeansInQuarters_19 rfl (lv_at hl 3 rfl) ?_
  refine lv_iload hx hb dX6_sumOfLeansInQuarters_20 (lv_at hl 0 rfl) ?_
  refine va_aldq hx hb hK hP 2 1 rfl rfl (by unfold vp_in; decide) dX6_sumOfLeansInQuarters_22 ?_
  refine W.eq (g2 := F0 m 23 ls [.null]) rfl ?_
  refine lv_astoreN (lv' := [(5, .null), (4, .int 9), (3, .int 10), (2, .ref a2), (1, .int 0), (0, .ref h0)]) hx hb dX6_sumOfLeansInQuarters_23 hl (by decide) rfl (fun ls hl => ?_)
  refine lv_aloadN hx hb dX6_sumOfLeansInQuarters_25 (lv_at hl 0 rfl) ?_
  refine lv_ifnullN (tgt := 38) hx hb dX6_sumOfLeansInQuarters_27 (by decide) ?_
  refine lv_iinc (v := 10) (lv' := [(4, .int 10), (5, .null), (3, .int 10), (2, .ref a2), (1, .int 0), (0, .ref h0)]) hx hb dX6_sumOfLeansInQuarters_38 hl (k := 1) rfl (by decide) (by decide) rfl (fun ls hl => ?_)
  refine lv_goto (tgt := 13) hx hb dX6_sumOfLeansInQuarters_41 (by decide) ?_
  refine lv_iload hx hb dX6_sumOfLeansInQuarters_13 (lv_at hl 0 rfl) ?_
  refine lv_iload_n hx hb dX6_sumOfLeansInQuarters_15 rfl (lv_at hl 2 rfl) ?_
  refine lv_icmp_ge (tgt := 44) hx hb dX6_sumOfLeansInQuarters_16 (by decide) (fun _ => ?_) (fun c9 => absurd (by decide) c9)
  refine lv_iload_n hx hb dX6_sumOfLeansInQuarters_44 rfl (lv_at hl 4 rfl) ?_
  have hP9 := hP.sub (ws' := [(h0, .inr (9, [.int 7, .ref a1, .int 0, .ref a2, .int 0, .int 0, .ref w1, .ref p1, .ref o1])), (a1, .inl (cA1, 4, .inr (.inr (.inr (.inr (fun _ => none)))))), (a2, .inl (cA2, 10, .inr (.inr (.inr (.inr (fun _ => none))))))]) [0, 1, 2] rfl
  have hD9 := hD.sub (ws' := [(h0, .inr (9, [.int 7, .ref a1, .int 0, .ref a2, .int 0, .int 0, .ref w1, .ref p1, .ref o1])), (a1, .inl (cA1, 4, .inr (.inr (.inr (.inr (fun _ => none)))))), (a2, .inl (cA2, 10, .inr (.inr (.inr (.inr (fun _ => none))))))]) [0, 1, 2] (by decide) rfl
  have hK9 := hK.sub (tys' := [(cA1, .object RX0), (cA2, .object RX1)]) [0, 1] rfl
  refine W.widen (k := 0) (n := 0) (Nat.le_of_ble_eq_true rfl) (Nat.le_of_ble_eq_true rfl) ?_
  exact W.iret (v := 0) hx hb hr (fun t ht hW => ⟨⟨_, (), rfl, rfl, PE.mk hP9 hK9 hD9 ht hW⟩, hS.F ht⟩) hS.2.2 dX6_sumOfLeansInQuarters_45

set_option maxHeartbeats 4000000 in
set_option maxRecDepth 100000 in
/-- c_meanSize -/
theorem c_meanSize (l : Launch) (dC : Nat → ClassId) (dI : Nat → Nat → Nat) (dE : Nat) (h0 : Nat) (a1 : Nat) (a2 : Nat) (w1 : Nat) (p1 : Nat) (o1 : Nat) (cA1 : ClassId) (cA2 : ClassId) (sz : Nat) : Met l yX6_meanSize wsX6_meanSize ({ frames := 0, cells := 0, slots := 0, locals := 0 }) (va_Pc [.ref h0] (PB dC dI dE [(cA1, .object RX0), (cA2, .object RX1)] [(h0, .inr (9, [.int 7, .ref a1, .int 0, .ref a2, .int 0, .int 0, .ref w1, .ref p1, .ref o1])), (a1, .inl (cA1, 4, .inr (.inr (.inr (.inr (fun _ => none)))))), (a2, .inl (cA2, 10, .inr (.inr (.inr (.inr (fun _ => none))))))] sz)) (va_Qd (fun (r : UInt64) (_ : Unit) => r = FP.dconst0) (fun (_ : Unit) (_ : State) => True) (va_A [(h0, .inr (9, [.int 7, .ref a1, .int 0, .ref a2, .int 0, .int 0, .ref w1, .ref p1, .ref o1])), (a1, .inl (cA1, 4, .inr (.inr (.inr (.inr (fun _ => none)))))), (a2, .inl (cA2, 10, .inr (.inr (.inr (.inr (fun _ => none))))))] sz)) 0 0 (va_A [(h0, .inr (9, [.int 7, .ref a1, .int 0, .ref a2, .int 0, .int 0, .ref w1, .ref p1, .ref o1])), (a1, .inl (cA1, 4, .inr (.inr (.inr (.inr (fun _ => none)))))), (a2, .inl (cA2, 10, .inr (.inr (.inr (.inr (fun _ => none))))))] sz) := by
  refine Met.ofW (cc := cX6_meanSize) (maxL := 7) (ret := (some .double)) (by decide) rfl ?_
  intro p e s m args below meth c s₁ B hml hv
  obtain ⟨rfl, hsz, hP, hK, hD0, hTb, hZ⟩ := hv
  have hx := B.exec
  have hb := B.bytes
  have hr := B.returns
  have hts := atoms_spec (ws := wsX6_meanSize) B.pre
  have hown : s.vm.findClass RX6 = some m.cls := findClass_of_methodNamed B.named
  have hlocks := B.notSynchronized
  subst hsz
  have hD := hD0.self (sz := s.heap.size)
  generalize hAe : va_A [(h0, .inr (9, [.int 7, .ref a1, .int 0, .ref a2, .int 0, .int 0, .ref w1, .ref p1, .ref o1])), (a1, .inl (cA1, 4, .inr (.inr (.inr (.inr (fun _ => none)))))), (a2, .inl (cA2, 10, .inr (.inr (.inr (.inr (fun _ => none))))))] s.heap.size = A at hD hZ ⊢
  have hA : ∀ q : Nat, s.heap.size ≤ q → A q := fun q h => by rw [← hAe]; exact Or.inr h
  have hS : va_S A s.heap s.heap [] := va_S.rf
  have hP : va_P (dC, dI) vwCl [(h0, .inr (9, [.int 7, .ref a1, .int 0, .ref a2, .int 0, .int 0, .ref w1, .ref p1, .ref o1])), (a1, .inl (cA1, 4, .inr (.inr (.inr (.inr (fun _ => none)))))), (a2, .inl (cA2, 10, .inr (.inr (.inr (.inr (fun _ => none))))))] s.heap := hP
  have hl := lv_entry ([.ref h0]) (n := 7) (Nat.le_of_ble_eq_true rfl)
  rw [lg_entry_eq]
  generalize (lg_sl ([.ref h0]) ++ List.replicate (7 - (lg_sl ([.ref h0])).length) Slot.unset).toArray = ls at hl ⊢
  have hl : lv_has ls 7 [(0, .ref h0)] := hl
  obtain ⟨H, eH⟩ : ∃ z, z = s.heap := ⟨_, rfl⟩
  rw [← eH] at hP ⊢
  have hS : va_S A s.heap H [] := by rw [eH]; exact va_S.rf
  refine lv_iconst (v := 0) hx hb dX6_meanSize_0 (by decide) ?_
  refine lv_istore_n (lv' := [(1, .int 0), (0, .ref h0)]) hx hb dX6_meanSize_1 rfl hl (by decide) rfl (fun ls hl => ?_)
  refine lv_iconst (v := 0) hx hb dX6_meanSize_2 (by decide) ?_
  refine lv_istore_n (lv' := [(2, .int 0), (1, .int 0), (0, .ref h0)]) hx hb dX6_meanSize_3 rfl hl (by decide) rfl (fun ls hl => ?_)
  refine lv_aload_n hx hb dX6_meanSize_4 rfl (lv_at hl 2 rfl) ?_
  refine va_get (D := (dC, dI)) (ci := 9) (v := .ref a2) (C := RX6) (T := TX6) (N := 9) hx hb hts (by decide +kernel) hown hK hP 0 rfl rfl 3 (by decide) (hts (.fieldLink RX6 24 "Versorhall" "elements" "[LVersorhall$Element;") (by decide +kernel)) (fun _ h9 => h9) rfl dX6_meanSize_5 ?_
  refine lv_astore_n (lv' := [(3, .ref a2), (2, .int 0), (1, .int 0), (0, .ref h0)]) hx hb dX6_meanSize_8 rfl hl (by decide) rfl (fun ls hl => ?_)
  refine lv_aload_n hx hb dX6_meanSize_9 rfl (lv_at hl 0 rfl) ?_
  refine va_alen (v := 10) hx hb hK hP 2 1 rfl rfl (show Int32.ofNat 10 = 10 by decide) dX6_meanSize_10 ?_
  refine lv_istore (lv' := [(4, .int 10), (3, .ref a2), (2, .int 0), (1, .int 0), (0, .ref h0)]) hx hb dX6_meanSize_11 hl (by decide) rfl (fun ls hl => ?_)
  refine lv_iconst (v := 0) hx hb dX6_meanSize_13 (by decide) ?_
  refine lv_istore (lv' := [(5, .int 0), (4, .int 10), (3, .ref a2), (2, .int 0), (1, .int 0), (0, .ref h0)]) hx hb dX6_meanSize_14 hl (by decide) rfl (fun ls hl => ?_)
  refine lv_iload hx hb dX6_meanSize_16 (lv_at hl 0 rfl) ?_
  refine lv_iload hx hb dX6_meanSize_18 (lv_at hl 1 rfl) ?_
  refine lv_icmp_ge (tgt := 54) hx hb dX6_meanSize_20 (by decide) (fun c9 => absurd c9 (by decide)) (fun _ => ?_)
  refine lv_aload_n hx hb dX6_meanSize_23 rfl (lv_at hl 2 rfl) ?_
  refine lv_iload hx hb dX6_meanSize_24 (lv_at hl 0 rfl) ?_
  refine va_aldq hx hb hK hP 2 1 rfl rfl (by unfold vp_in; decide) dX6_meanSize_26 ?_
  refine W.eq (g2 := F0 m 27 ls [.null]) rfl ?_
  refine lv_astoreN (lv' := [(6, .null), (5, .int 0), (4, .int 10), (3, .ref a2), (2, .int 0), (1, .int 0), (0, .ref h0)]) hx hb dX6_meanSize_27 hl (by decide) rfl (fun ls hl => ?_)
  refine lv_aloadN hx hb dX6_meanSize_29 (lv_at hl 0 rfl) ?_
  refine lv_ifnullN (tgt := 48) hx hb dX6_meanSize_31 (by decide) ?_
  refine lv_iinc (v := 1) (lv' := [(5, .int 1), (6, .null), (4, .int 10), (3, .ref a2), (2, .int 0), (1, .int 0), (0, .ref h0)]) hx hb dX6_meanSize_48 hl (k := 1) rfl (by decide) (by decide) rfl (fun ls hl => ?_)
  refine lv_goto (tgt := 16) hx hb dX6_meanSize_51 (by decide) ?_
  refine lv_iload hx hb dX6_meanSize_16 (lv_at hl 0 rfl) ?_
  refine lv_iload hx hb dX6_meanSize_18 (lv_at hl 2 rfl) ?_
  refine lv_icmp_ge (tgt := 54) hx hb dX6_meanSize_20 (by decide) (fun c9 => absurd c9 (by decide)) (fun _ => ?_)
  refine lv_aload_n hx hb dX6_meanSize_23 rfl (lv_at hl 3 rfl) ?_
  refine lv_iload hx hb dX6_meanSize_24 (lv_at hl 0 rfl) ?_
  refine va_aldq hx hb hK hP 2 1 rfl rfl (by unfold vp_in; decide) dX6_meanSize_26 ?_
  refine W.eq (g2 := F0 m 27 ls [.null]) rfl ?_
  refine lv_astoreN (lv' := [(6, .null), (5, .int 1), (4, .int 10), (3, .ref a2), (2, .int 0), (1, .int 0), (0, .ref h0)]) hx hb dX6_meanSize_27 hl (by decide) rfl (fun ls hl => ?_)
  refine lv_aloadN hx hb dX6_meanSize_29 (lv_at hl 0 rfl) ?_
  refine lv_ifnullN (tgt := 48) hx hb dX6_meanSize_31 (by decide) ?_
  refine lv_iinc (v := 2) (lv' := [(5, .int 2), (6, .null), (4, .int 10), (3, .ref a2), (2, .int 0), (1, .int 0), (0, .ref h0)]) hx hb dX6_meanSize_48 hl (k := 1) rfl (by decide) (by decide) rfl (fun ls hl => ?_)
  refine lv_goto (tgt := 16) hx hb dX6_meanSize_51 (by decide) ?_
  refine lv_iload hx hb dX6_meanSize_16 (lv_at hl 0 rfl) ?_
  refine lv_iload hx hb dX6_meanSize_18 (lv_at hl 2 rfl) ?_
  refine lv_icmp_ge (tgt := 54) hx hb dX6_meanSize_20 (by decide) (fun c9 => absurd c9 (by decide)) (fun _ => ?_)
  refine lv_aload_n hx hb dX6_meanSize_23 rfl (lv_at hl 3 rfl) ?_
  refine lv_iload hx hb dX6_meanSize_24 (lv_at hl 0 rfl) ?_
  refine va_aldq hx hb hK hP 2 1 rfl rfl (by unfold vp_in; decide) dX6_meanSize_26 ?_
  refine W.eq (g2 := F0 m 27 ls [.null]) rfl ?_
  refine lv_astoreN (lv' := [(6, .null), (5, .int 2), (4, .int 10), (3, .ref a2), (2, .int 0), (1, .int 0), (0, .ref h0)]) hx hb dX6_meanSize_27 hl (by decide) rfl (fun ls hl => ?_)
  refine lv_aloadN hx hb dX6_meanSize_29 (lv_at hl 0 rfl) ?_
  refine lv_ifnullN (tgt := 48) hx hb dX6_meanSize_31 (by decide) ?_
  refine lv_iinc (v := 3) (lv' := [(5, .int 3), (6, .null), (4, .int 10), (3, .ref a2), (2, .int 0), (1, .int 0), (0, .ref h0)]) hx hb dX6_meanSize_48 hl (k := 1) rfl (by decide) (by decide) rfl (fun ls hl => ?_)
  refine lv_goto (tgt := 16) hx hb dX6_meanSize_51 (by decide) ?_
  refine lv_iload hx hb dX6_meanSize_16 (lv_at hl 0 rfl) ?_
  refine lv_iload hx hb dX6_meanSize_18 (lv_at hl 2 rfl) ?_
  refine lv_icmp_ge (tgt := 54) hx hb dX6_meanSize_20 (by decide) (fun c9 => absurd c9 (by decide)) (fun _ => ?_)
  refine lv_aload_n hx hb dX6_meanSize_23 rfl (lv_at hl 3 rfl) ?_
  refine lv_iload hx hb dX6_meanSize_24 (lv_at hl 0 rfl) ?_
  refine va_aldq hx hb hK hP 2 1 rfl rfl (by unfold vp_in; decide) dX6_meanSize_26 ?_
  refine W.eq (g2 := F0 m 27 ls [.null]) rfl ?_
  refine lv_astoreN (lv' := [(6, .null), (5, .int 3), (4, .int 10), (3, .ref a2), (2, .int 0), (1, .int 0), (0, .ref h0)]) hx hb dX6_meanSize_27 hl (by decide) rfl (fun ls hl => ?_)
  refine lv_aloadN hx hb dX6_meanSize_29 (lv_at hl 0 rfl) ?_
  refine lv_ifnullN (tgt := 48) hx hb dX6_meanSize_31 (by decide) ?_
  refine lv_iinc (v := 4) (lv' := [(5, .int 4), (6, .null), (4, .int 10), (3, .ref a2), (2, .int 0), (1, .int 0), (0, .ref h0)]) hx hb dX6_meanSize_48 hl (k := 1) rfl (by decide) (by decide) rfl (fun ls hl => ?_)
  refine lv_goto (tgt := 16) hx hb dX6_meanSize_51 (by decide) ?_
  refine lv_iload hx hb dX6_meanSize_16 (lv_at hl 0 rfl) ?_
  refine lv_iload hx hb dX6_meanSize_18 (lv_at hl 2 rfl) ?_
  refine lv_icmp_ge (tgt := 54) hx hb dX6_meanSize_20 (by decide) (fun c9 => absurd c9 (by decide)) (fun _ => ?_)
  refine lv_aload_n hx hb dX6_meanSize_23 rfl (lv_at hl 3 rfl) ?_
  refine lv_iload hx hb dX6_meanSize_24 (lv_at hl 0 rfl) ?_
  refine va_aldq hx hb hK hP 2 1 rfl rfl (by unfold vp_in; decide) dX6_meanSize_26 ?_
  refine W.eq (g2 := F0 m 27 ls [.null]) rfl ?_
  refine lv_astoreN (lv' := [(6, .null), (5, .int 4), (4, .int 10), (3, .ref a2), (2, .int 0), (1, .int 0), (0, .ref h0)]) hx hb dX6_meanSize_27 hl (by decide) rfl (fun ls hl => ?_)
  refine lv_aloadN hx hb dX6_meanSize_29 (lv_at hl 0 rfl) ?_
  refine lv_ifnullN (tgt := 48) hx hb dX6_meanSize_31 (by decide) ?_
  refine lv_iinc (v := 5) (lv' := [(5, .int 5), (6, .null), (4, .int 10), (3, .ref a2), (2, .int 0), (1, .int 0), (0, .ref h0)]) hx hb dX6_meanSize_48 hl (k := 1) rfl (by decide) (by decide) rfl (fun ls hl => ?_)
  refine lv_goto (tgt := 16) hx hb dX6_meanSize_51 (by decide) ?_
  refine lv_iload hx hb dX6_meanSize_16 (lv_at hl 0 rfl) ?_
  refine lv_iload hx hb dX6_meanSize_18 (lv_at hl 2 rfl) ?_
  refine lv_icmp_ge (tgt := 54) hx hb dX6_meanSize_20 (by decide) (fun c9 => absurd c9 (by decide)) (fun _ => ?_)
  refine lv_aload_n hx hb dX6_meanSize_23 rfl (lv_at hl 3 rfl) ?_
  refine lv_iload hx hb dX6_meanSize_24 (lv_at hl 0 rfl) ?_
  refine va_aldq hx hb hK hP 2 1 rfl rfl (by unfold vp_in; decide) dX6_meanSize_26 ?_
  refine W.eq (g2 := F0 m 27 ls [.null]) rfl ?_
  refine lv_astoreN (lv' := [(6, .null), (5, .int 5), (4, .int 10), (3, .ref a2), (2, .int 0), (1, .int 0), (0, .ref h0)]) hx hb dX6_meanSize_27 hl (by decide) rfl (fun ls hl => ?_)
  refine lv_aloadN hx hb dX6_meanSize_29 (lv_at hl 0 rfl) ?_
  refine lv_ifnullN (tgt := 48) hx hb dX6_meanSize_31 (by decide) ?_
  refine lv_iinc (v := 6) (lv' := [(5, .int 6), (6, .null), (4, .int 10), (3, .ref a2), (2, .int 0), (1, .int 0), (0, .ref h0)]) hx hb dX6_meanSize_48 hl (k := 1) rfl (by decide) (by decide) rfl (fun ls hl => ?_)
  refine lv_goto (tgt := 16) hx hb dX6_meanSize_51 (by decide) ?_
  refine lv_iload hx hb dX6_meanSize_16 (lv_at hl 0 rfl) ?_
  refine lv_iload hx hb dX6_meanSize_18 (lv_at hl 2 rfl) ?_
  refine lv_icmp_ge (tgt := 54) hx hb dX6_meanSize_20 (by decide) (fun c9 => absurd c9 (by decide)) (fun _ => ?_)
  refine lv_aload_n hx hb dX6_meanSize_23 rfl (lv_at hl 3 rfl) ?_
  refine lv_iload hx hb dX6_meanSize_24 (lv_at hl 0 rfl) ?_
  refine va_aldq hx hb hK hP 2 1 rfl rfl (by unfold vp_in; decide) dX6_meanSize_26 ?_
  refine W.eq (g2 := F0 m 27 ls [.null]) rfl ?_
  refine lv_astoreN (lv' := [(6, .null), (5, .int 6), (4, .int 10), (3, .ref a2), (2, .int 0), (1, .int 0), (0, .ref h0)]) hx hb dX6_meanSize_27 hl (by decide) rfl (fun ls hl => ?_)
  refine lv_aloadN hx hb dX6_meanSize_29 (lv_at hl 0 rfl) ?_
  refine lv_ifnullN (tgt := 48) hx hb dX6_meanSize_31 (by decide) ?_
  refine lv_iinc (v := 7) (lv' := [(5, .int 7), (6, .null), (4, .int 10), (3, .ref a2), (2, .int 0), (1, .int 0), (0, .ref h0)]) hx hb dX6_meanSize_48 hl (k := 1) rfl (by decide) (by decide) rfl (fun ls hl => ?_)
  refine lv_goto (tgt := 16) hx hb dX6_meanSize_51 (by decide) ?_
  refine lv_iload hx hb dX6_meanSize_16 (lv_at hl 0 rfl) ?_
  refine lv_iload hx hb dX6_meanSize_18 (lv_at hl 2 rfl) ?_
  refine lv_icmp_ge (tgt := 54) hx hb dX6_meanSize_20 (by decide) (fun c9 => absurd c9 (by decide)) (fun _ => ?_)
  refine lv_aload_n hx hb dX6_meanSize_23 rfl (lv_at hl 3 rfl) ?_
  refine lv_iload hx hb dX6_meanSize_24 (lv_at hl 0 rfl) ?_
  refine va_aldq hx hb hK hP 2 1 rfl rfl (by unfold vp_in; decide) dX6_meanSize_26 ?_
  refine W.eq (g2 := F0 m 27 ls [.null]) rfl ?_
  refine lv_astoreN (lv' := [(6, .null), (5, .int 7), (4, .int 10), (3, .ref a2), (2, .int 0), (1, .int 0), (0, .ref h0)]) hx hb dX6_meanSize_27 hl (by decide) rfl (fun ls hl => ?_)
  refine lv_aloadN hx hb dX6_meanSize_29 (lv_at hl 0 rfl) ?_
  refine lv_ifnullN (tgt := 48) hx hb dX6_meanSize_31 (by decide) ?_
  refine lv_iinc (v := 8) (lv' := [(5, .int 8), (6, .null), (4, .int 10), (3, .ref a2), (2, .int 0), (1, .int 0), (0, .ref h0)]) hx hb dX6_meanSize_48 hl (k := 1) rfl (by decide) (by decide) rfl (fun ls hl => ?_)
  refine lv_goto (tgt := 16) hx hb dX6_meanSize_51 (by decide) ?_
  refine lv_iload hx hb dX6_meanSize_16 (lv_at hl 0 rfl) ?_
  refine lv_iload hx hb dX6_meanSize_18 (lv_at hl 2 rfl) ?_
  refine lv_icmp_ge (tgt := 54) hx hb dX6_meanSize_20 (by decide) (fun c9 => absurd c9 (by decide)) (fun _ => ?_)
  refine lv_aload_n hx hb dX6_meanSize_23 rfl (lv_at hl 3 rfl) ?_
  refine lv_iload hx hb dX6_meanSize_24 (lv_at hl 0 rfl) ?_
  refine va_aldq hx hb hK hP 2 1 rfl rfl (by unfold vp_in; decide) dX6_meanSize_26 ?_
  refine W.eq (g2 := F0 m 27 ls [.null]) rfl ?_
  refine lv_astoreN (lv' := [(6, .null), (5, .int 8), (4, .int 10), (3, .ref a2), (2, .int 0), (1, .int 0), (0, .ref h0)]) hx hb dX6_meanSize_27 hl (by decide) rfl (fun ls hl => ?_)
  refine lv_aloadN hx hb dX6_meanSize_29 (lv_at hl 0 rfl) ?_
  refine lv_ifnullN (tgt := 48) hx hb dX6_meanSize_31 (by decide) ?_
  refine lv_iinc (v := 9) (lv' := [(5, .int 9), (6, .null), (4, .int 10), (3, .ref a2), (2, .int 0), (1, .int 0), (0, .ref h0)]) hx hb dX6_meanSize_48 hl (k := 1) rfl (by decide) (by decide) rfl (fun ls hl => ?_)
  refine lv_goto (tgt := 16) hx hb dX6_meanSize_51 (by decide) ?_
  refine lv_iload hx hb dX6_meanSize_16 (lv_at hl 0 rfl) ?_
  refine lv_iload hx hb dX6_meanSize_18 (lv_at hl 2 rfl) ?_
  refine lv_icmp_ge (tgt := 54) hx hb dX6_meanSize_20 (by decide) (fun c9 => absurd c9 (by decide)) (fun _ => ?_)
  refine lv_aload_n hx hb dX6_meanSize_23 rfl (lv_at hl 3 rfl) ?_
  refine lv_iload hx hb dX6_meanSize_24 (lv_at hl 0 rfl) ?_
  refine va_aldq hx hb hK hP 2 1 rfl rfl (by unfold vp_in; decide) dX6_meanSize_26 ?_
  refine W.eq (g2 := F0 m 27 ls [.null]) rfl ?_
  refine lv_astoreN (lv' := [(6, .null), (5, .int 9), (4, .int 10), (3, .ref a2), (2, .int 0), (1, .int 0), (0, .ref h0)]) hx hb dX6_meanSize_27 hl (by decide) rfl (fun ls hl => ?_)
  refine lv_aloadN hx hb dX6_meanSize_29 (lv_at hl 0 rfl) ?_
  refine lv_ifnullN (tgt := 48) hx hb dX6_meanSize_31 (by decide) ?_
  refine lv_iinc (v := 10) (lv' := [(5, .int 10), (6, .null), (4, .int 10), (3, .ref a2), (2, .int 0), (1, .int 0), (0, .ref h0)]) hx hb dX6_meanSize_48 hl (k := 1) rfl (by decide) (by decide) rfl (fun ls hl => ?_)
  refine lv_goto (tgt := 16) hx hb dX6_meanSize_51 (by decide) ?_
  refine lv_iload hx hb dX6_meanSize_16 (lv_at hl 0 rfl) ?_
  refine lv_iload hx hb dX6_meanSize_18 (lv_at hl 2 rfl) ?_
  refine lv_icmp_ge (tgt := 54) hx hb dX6_meanSize_20 (by decide) (fun _ => ?_) (fun c9 => absurd (by decide) c9)
  refine lv_iload_n hx hb dX6_meanSize_54 rfl (lv_at hl 4 rfl) ?_
  refine lv_if_le (tgt := 66) hx hb dX6_meanSize_55 (by decide) (fun _ => ?_) (fun c9 => absurd (by decide) c9)
  refine lv_dconst0 hx hb dX6_meanSize_66 ?_
  refine W.widen (k := 0) (n := 0) (Nat.le_of_ble_eq_true rfl) (Nat.le_of_ble_eq_true rfl) ?_
  exact W.dret (v := FP.dconst0) hx hb hr (fun t ht hW => ⟨⟨_, (), rfl, rfl, trivial⟩, hS.F ht⟩) hS.2.2 dX6_meanSize_67

set_option maxHeartbeats 4000000 in
set_option maxRecDepth 100000 in
/-- c_poise -/
theorem c_poise (l : Launch) (dC : Nat → ClassId) (dI : Nat → Nat → Nat) (dE : Nat) (h0 : Nat) (a1 : Nat) (a2 : Nat) (w1 : Nat) (p1 : Nat) (o1 : Nat) (cA1 : ClassId) (cA2 : ClassId) (sz : Nat) : Met l yX6_poise wsX6_poise ({ frames := 0, cells := 0, slots := 0, locals := 0 }) (va_Pc [.ref h0] (PB dC dI dE [(cA1, .object RX0), (cA2, .object RX1)] [(h0, .inr (9, [.int 7, .ref a1, .int 0, .ref a2, .int 0, .int 0, .ref w1, .ref p1, .ref o1])), (a1, .inl (cA1, 4, .inr (.inr (.inr (.inr (fun _ => none)))))), (a2, .inl (cA2, 10, .inr (.inr (.inr (.inr (fun _ => none))))))] sz)) (va_Qd (fun (r : UInt64) (_ : Unit) => r = FP.dconst0) (fun (_ : Unit) (_ : State) => True) (va_A [(h0, .inr (9, [.int 7, .ref a1, .int 0, .ref a2, .int 0, .int 0, .ref w1, .ref p1, .ref o1])), (a1, .inl (cA1, 4, .inr (.inr (.inr (.inr (fun _ => none)))))), (a2, .inl (cA2, 10, .inr (.inr (.inr (.inr (fun _ => none))))))] sz)) 0 0 (va_A [(h0, .inr (9, [.int 7, .ref a1, .int 0, .ref a2, .int 0, .int 0, .ref w1, .ref p1, .ref o1])), (a1, .inl (cA1, 4, .inr (.inr (.inr (.inr (fun _ => none)))))), (a2, .inl (cA2, 10, .inr (.inr (.inr (.inr (fun _ => none))))))] sz) := by
  refine Met.ofW (cc := cX6_poise) (maxL := 1) (ret := (some .double)) (by decide) rfl ?_
  intro p e s m args below meth c s₁ B hml hv
  obtain ⟨rfl, hsz, hP, hK, hD0, hTb, hZ⟩ := hv
  have hx := B.exec
  have hb := B.bytes
  have hr := B.returns
  have hts := atoms_spec (ws := wsX6_poise) B.pre
  have hown : s.vm.findClass RX6 = some m.cls := findClass_of_methodNamed B.named
  have hlocks := B.notSynchronized
  subst hsz
  have hD := hD0.self (sz := s.heap.size)
  generalize hAe : va_A [(h0, .inr (9, [.int 7, .ref a1, .int 0, .ref a2, .int 0, .int 0, .ref w1, .ref p1, .ref o1])), (a1, .inl (cA1, 4, .inr (.inr (.inr (.inr (fun _ => none)))))), (a2, .inl (cA2, 10, .inr (.inr (.inr (.inr (fun _ => none))))))] s.heap.size = A at hD hZ ⊢
  have hA : ∀ q : Nat, s.heap.size ≤ q → A q := fun q h => by rw [← hAe]; exact Or.inr h
  have hS : va_S A s.heap s.heap [] := va_S.rf
  have hP : va_P (dC, dI) vwCl [(h0, .inr (9, [.int 7, .ref a1, .int 0, .ref a2, .int 0, .int 0, .ref w1, .ref p1, .ref o1])), (a1, .inl (cA1, 4, .inr (.inr (.inr (.inr (fun _ => none)))))), (a2, .inl (cA2, 10, .inr (.inr (.inr (.inr (fun _ => none))))))] s.heap := hP
  have hl := lv_entry ([.ref h0]) (n := 1) (Nat.le_of_ble_eq_true rfl)
  rw [lg_entry_eq]
  generalize (lg_sl ([.ref h0]) ++ List.replicate (1 - (lg_sl ([.ref h0])).length) Slot.unset).toArray = ls at hl ⊢
  have hl : lv_has ls 1 [(0, .ref h0)] := hl
  obtain ⟨H, eH⟩ : ∃ z, z = s.heap := ⟨_, rfl⟩
  rw [← eH] at hP ⊢
  have hS : va_S A s.heap H [] := by rw [eH]; exact va_S.rf
  refine lv_aload_n hx hb dX6_poise_0 rfl (lv_at hl 0 rfl) ?_
  refine va_get (D := (dC, dI)) (ci := 9) (v := .int 0) (C := RX6) (T := TX6) (N := 9) hx hb hts (by decide +kernel) hown hK hP 0 rfl rfl 4 (by decide) (hts (.fieldLink RX6 28 "Versorhall" "elementCount" "I") (by decide +kernel)) (fun _ h9 => h9) rfl dX6_poise_1 ?_
  refine lv_if_le (tgt := 24) hx hb dX6_poise_4 (by decide) (fun _ => ?_) (fun c9 => absurd (by decide) c9)
  refine lv_dconst0 hx hb dX6_poise_24 ?_
  refine W.widen (k := 0) (n := 0) (Nat.le_of_ble_eq_true rfl) (Nat.le_of_ble_eq_true rfl) ?_
  exact W.dret (v := FP.dconst0) hx hb hr (fun t ht hW => ⟨⟨_, (), rfl, rfl, trivial⟩, hS.F ht⟩) hS.2.2 dX6_poise_25

set_option maxHeartbeats 4000000 in
set_option maxRecDepth 100000 in
/-- c_many_0 -/
theorem c_many_0 (l : Launch) (dC : Nat → ClassId) (dI : Nat → Nat → Nat) (dE : Nat) (h0 : Nat) (a1 : Nat) (a2 : Nat) (w1 : Nat) (p1 : Nat) (o1 : Nat) (cA1 : ClassId) (cA2 : ClassId) (sz : Nat) : Met l yX6_many wsX6_many ({ frames := 0, cells := 0, slots := 0, locals := 0 }) (va_Pc [.ref h0, .int 0] (PB dC dI dE [(cA1, .object RX0), (cA2, .object RX1)] [(h0, .inr (9, [.int 7, .ref a1, .int 0, .ref a2, .int 0, .int 0, .ref w1, .ref p1, .ref o1])), (a1, .inl (cA1, 4, .inr (.inr (.inr (.inr (fun _ => none)))))), (a2, .inl (cA2, 10, .inr (.inr (.inr (.inr (fun _ => none))))))] sz)) (va_Qi (fun (r : Int32) (_ : Unit) => r = 7) (fun (_ : Unit) (t : State) => PE dC dI [(cA1, .object RX0), (cA2, .object RX1)] [(h0, .inr (9, [.int 7, .ref a1, .int 0, .ref a2, .int 0, .int 0, .ref w1, .ref p1, .ref o1])), (a1, .inl (cA1, 4, .inr (.inr (.inr (.inr (fun _ => none)))))), (a2, .inl (cA2, 10, .inr (.inr (.inr (.inr (fun _ => none))))))] (va_A [(h0, .inr (9, [.int 7, .ref a1, .int 0, .ref a2, .int 0, .int 0, .ref w1, .ref p1, .ref o1])), (a1, .inl (cA1, 4, .inr (.inr (.inr (.inr (fun _ => none)))))), (a2, .inl (cA2, 10, .inr (.inr (.inr (.inr (fun _ => none))))))] sz) t) (va_A [(h0, .inr (9, [.int 7, .ref a1, .int 0, .ref a2, .int 0, .int 0, .ref w1, .ref p1, .ref o1])), (a1, .inl (cA1, 4, .inr (.inr (.inr (.inr (fun _ => none)))))), (a2, .inl (cA2, 10, .inr (.inr (.inr (.inr (fun _ => none))))))] sz)) 0 0 (va_A [(h0, .inr (9, [.int 7, .ref a1, .int 0, .ref a2, .int 0, .int 0, .ref w1, .ref p1, .ref o1])), (a1, .inl (cA1, 4, .inr (.inr (.inr (.inr (fun _ => none)))))), (a2, .inl (cA2, 10, .inr (.inr (.inr (.inr (fun _ => none))))))] sz) := by
  refine Met.ofW (cc := cX6_many) (maxL := 2) (ret := (some .int)) (by decide) rfl ?_
  intro p e s m args below meth c s₁ B hml hv
  obtain ⟨rfl, hsz, hP, hK, hD0, hTb, hZ⟩ := hv
  have hx := B.exec
  have hb := B.bytes
  have hr := B.returns
  have hts := atoms_spec (ws := wsX6_many) B.pre
  have hown : s.vm.findClass RX6 = some m.cls := findClass_of_methodNamed B.named
  have hlocks := B.notSynchronized
  subst hsz
  have hD := hD0.self (sz := s.heap.size)
  generalize hAe : va_A [(h0, .inr (9, [.int 7, .ref a1, .int 0, .ref a2, .int 0, .int 0, .ref w1, .ref p1, .ref o1])), (a1, .inl (cA1, 4, .inr (.inr (.inr (.inr (fun _ => none)))))), (a2, .inl (cA2, 10, .inr (.inr (.inr (.inr (fun _ => none))))))] s.heap.size = A at hD hZ ⊢
  have hA : ∀ q : Nat, s.heap.size ≤ q → A q := fun q h => by rw [← hAe]; exact Or.inr h
  have hS : va_S A s.heap s.heap [] := va_S.rf
  have hP : va_P (dC, dI) vwCl [(h0, .inr (9, [.int 7, .ref a1, .int 0, .ref a2, .int 0, .int 0, .ref w1, .ref p1, .ref o1])), (a1, .inl (cA1, 4, .inr (.inr (.inr (.inr (fun _ => none)))))), (a2, .inl (cA2, 10, .inr (.inr (.inr (.inr (fun _ => none))))))] s.heap := hP
  have hl := lv_entry ([.ref h0, .int 0]) (n := 2) (Nat.le_of_ble_eq_true rfl)
  rw [lg_entry_eq]
  generalize (lg_sl ([.ref h0, .int 0]) ++ List.replicate (2 - (lg_sl ([.ref h0, .int 0])).length) Slot.unset).toArray = ls at hl ⊢
  have hl : lv_has ls 2 [(0, .ref h0), (1, .int 0)] := hl
  obtain ⟨H, eH⟩ : ∃ z, z = s.heap := ⟨_, rfl⟩
  rw [← eH] at hP ⊢
  have hS : va_S A s.heap H [] := by rw [eH]; exact va_S.rf
  refine lv_iload_n hx hb dX6_many_0 rfl (lv_at hl 1 rfl) ?_
  refine lv_tableIn (tgt := 48) hx hb dX6_many_1 (by decide) (by decide) rfl (by decide) ?_
  refine lv_aload_n hx hb dX6_many_48 rfl (lv_at hl 0 rfl) ?_
  refine va_get (D := (dC, dI)) (ci := 9) (v := .int 7) (C := RX6) (T := TX6) (N := 9) hx hb hts (by decide +kernel) hown hK hP 0 rfl rfl 0 (by decide) (hts (.fieldLink RX6 9 "Versorhall" "prime" "I") (by decide +kernel)) (fun _ h9 => h9) rfl dX6_many_49 ?_
  have hP9 := hP.sub (ws' := [(h0, .inr (9, [.int 7, .ref a1, .int 0, .ref a2, .int 0, .int 0, .ref w1, .ref p1, .ref o1])), (a1, .inl (cA1, 4, .inr (.inr (.inr (.inr (fun _ => none)))))), (a2, .inl (cA2, 10, .inr (.inr (.inr (.inr (fun _ => none))))))]) [0, 1, 2] rfl
  have hD9 := hD.sub (ws' := [(h0, .inr (9, [.int 7, .ref a1, .int 0, .ref a2, .int 0, .int 0, .ref w1, .ref p1, .ref o1])), (a1, .inl (cA1, 4, .inr (.inr (.inr (.inr (fun _ => none)))))), (a2, .inl (cA2, 10, .inr (.inr (.inr (.inr (fun _ => none))))))]) [0, 1, 2] (by decide) rfl
  have hK9 := hK.sub (tys' := [(cA1, .object RX0), (cA2, .object RX1)]) [0, 1] rfl
  refine W.widen (k := 0) (n := 0) (Nat.le_of_ble_eq_true rfl) (Nat.le_of_ble_eq_true rfl) ?_
  exact W.iret (v := 7) hx hb hr (fun t ht hW => ⟨⟨_, (), rfl, rfl, PE.mk hP9 hK9 hD9 ht hW⟩, hS.F ht⟩) hS.2.2 dX6_many_52

set_option maxHeartbeats 4000000 in
set_option maxRecDepth 100000 in
/-- c_many_1 -/
theorem c_many_1 (l : Launch) (dC : Nat → ClassId) (dI : Nat → Nat → Nat) (dE : Nat) (h0 : Nat) (a1 : Nat) (a2 : Nat) (w1 : Nat) (p1 : Nat) (o1 : Nat) (cA1 : ClassId) (cA2 : ClassId) (sz : Nat) : Met l yX6_many wsX6_many ({ frames := 0, cells := 0, slots := 0, locals := 0 }) (va_Pc [.ref h0, .int 1] (PB dC dI dE [(cA1, .object RX0), (cA2, .object RX1)] [(h0, .inr (9, [.int 7, .ref a1, .int 0, .ref a2, .int 0, .int 0, .ref w1, .ref p1, .ref o1])), (a1, .inl (cA1, 4, .inr (.inr (.inr (.inr (fun _ => none)))))), (a2, .inl (cA2, 10, .inr (.inr (.inr (.inr (fun _ => none))))))] sz)) (va_Qi (fun (r : Int32) (_ : Unit) => r = 0) (fun (_ : Unit) (t : State) => PE dC dI [(cA1, .object RX0), (cA2, .object RX1)] [(h0, .inr (9, [.int 7, .ref a1, .int 0, .ref a2, .int 0, .int 0, .ref w1, .ref p1, .ref o1])), (a1, .inl (cA1, 4, .inr (.inr (.inr (.inr (fun _ => none)))))), (a2, .inl (cA2, 10, .inr (.inr (.inr (.inr (fun _ => none))))))] (va_A [(h0, .inr (9, [.int 7, .ref a1, .int 0, .ref a2, .int 0, .int 0, .ref w1, .ref p1, .ref o1])), (a1, .inl (cA1, 4, .inr (.inr (.inr (.inr (fun _ => none)))))), (a2, .inl (cA2, 10, .inr (.inr (.inr (.inr (fun _ => none))))))] sz) t) (va_A [(h0, .inr (9, [.int 7, .ref a1, .int 0, .ref a2, .int 0, .int 0, .ref w1, .ref p1, .ref o1])), (a1, .inl (cA1, 4, .inr (.inr (.inr (.inr (fun _ => none)))))), (a2, .inl (cA2, 10, .inr (.inr (.inr (.inr (fun _ => none))))))] sz)) 0 0 (va_A [(h0, .inr (9, [.int 7, .ref a1, .int 0, .ref a2, .int 0, .int 0, .ref w1, .ref p1, .ref o1])), (a1, .inl (cA1, 4, .inr (.inr (.inr (.inr (fun _ => none)))))), (a2, .inl (cA2, 10, .inr (.inr (.inr (.inr (fun _ => none))))))] sz) := by
  refine Met.ofW (cc := cX6_many) (maxL := 2) (ret := (some .int)) (by decide) rfl ?_
  intro p e s m args below meth c s₁ B hml hv
  obtain ⟨rfl, hsz, hP, hK, hD0, hTb, hZ⟩ := hv
  have hx := B.exec
  have hb := B.bytes
  have hr := B.returns
  have hts := atoms_spec (ws := wsX6_many) B.pre
  have hown : s.vm.findClass RX6 = some m.cls := findClass_of_methodNamed B.named
  have hlocks := B.notSynchronized
  subst hsz
  have hD := hD0.self (sz := s.heap.size)
  generalize hAe : va_A [(h0, .inr (9, [.int 7, .ref a1, .int 0, .ref a2, .int 0, .int 0, .ref w1, .ref p1, .ref o1])), (a1, .inl (cA1, 4, .inr (.inr (.inr (.inr (fun _ => none)))))), (a2, .inl (cA2, 10, .inr (.inr (.inr (.inr (fun _ => none))))))] s.heap.size = A at hD hZ ⊢
  have hA : ∀ q : Nat, s.heap.size ≤ q → A q := fun q h => by rw [← hAe]; exact Or.inr h
  have hS : va_S A s.heap s.heap [] := va_S.rf
  have hP : va_P (dC, dI) vwCl [(h0, .inr (9, [.int 7, .ref a1, .int 0, .ref a2, .int 0, .int 0, .ref w1, .ref p1, .ref o1])), (a1, .inl (cA1, 4, .inr (.inr (.inr (.inr (fun _ => none)))))), (a2, .inl (cA2, 10, .inr (.inr (.inr (.inr (fun _ => none))))))] s.heap := hP
  have hl := lv_entry ([.ref h0, .int 1]) (n := 2) (Nat.le_of_ble_eq_true rfl)
  rw [lg_entry_eq]
  generalize (lg_sl ([.ref h0, .int 1]) ++ List.replicate (2 - (lg_sl ([.ref h0, .int 1])).length) Slot.unset).toArray = ls at hl ⊢
  have hl : lv_has ls 2 [(0, .ref h0), (1, .int 1)] := hl
  obtain ⟨H, eH⟩ : ∃ z, z = s.heap := ⟨_, rfl⟩
  rw [← eH] at hP ⊢
  have hS : va_S A s.heap H [] := by rw [eH]; exact va_S.rf
  refine lv_iload_n hx hb dX6_many_0 rfl (lv_at hl 1 rfl) ?_
  refine lv_tableIn (tgt := 53) hx hb dX6_many_1 (by decide) (by decide) rfl (by decide) ?_
  refine lv_aload_n hx hb dX6_many_53 rfl (lv_at hl 0 rfl) ?_
  refine va_get (D := (dC, dI)) (ci := 9) (v := .int 0) (C := RX6) (T := TX6) (N := 9) hx hb hts (by decide +kernel) hown hK hP 0 rfl rfl 2 (by decide) (hts (.fieldLink RX6 19 "Versorhall" "algebraCount" "I") (by decide +kernel)) (fun _ h9 => h9) rfl dX6_many_54 ?_
  have hP9 := hP.sub (ws' := [(h0, .inr (9, [.int 7, .ref a1, .int 0, .ref a2, .int 0, .int 0, .ref w1, .ref p1, .ref o1])), (a1, .inl (cA1, 4, .inr (.inr (.inr (.inr (fun _ => none)))))), (a2, .inl (cA2, 10, .inr (.inr (.inr (.inr (fun _ => none))))))]) [0, 1, 2] rfl
  have hD9 := hD.sub (ws' := [(h0, .inr (9, [.int 7, .ref a1, .int 0, .ref a2, .int 0, .int 0, .ref w1, .ref p1, .ref o1])), (a1, .inl (cA1, 4, .inr (.inr (.inr (.inr (fun _ => none)))))), (a2, .inl (cA2, 10, .inr (.inr (.inr (.inr (fun _ => none))))))]) [0, 1, 2] (by decide) rfl
  have hK9 := hK.sub (tys' := [(cA1, .object RX0), (cA2, .object RX1)]) [0, 1] rfl
  refine W.widen (k := 0) (n := 0) (Nat.le_of_ble_eq_true rfl) (Nat.le_of_ble_eq_true rfl) ?_
  exact W.iret (v := 0) hx hb hr (fun t ht hW => ⟨⟨_, (), rfl, rfl, PE.mk hP9 hK9 hD9 ht hW⟩, hS.F ht⟩) hS.2.2 dX6_many_57

set_option maxHeartbeats 4000000 in
set_option maxRecDepth 100000 in
/-- c_many_2 -/
theorem c_many_2 (l : Launch) (dC : Nat → ClassId) (dI : Nat → Nat → Nat) (dE : Nat) (h0 : Nat) (a1 : Nat) (a2 : Nat) (w1 : Nat) (p1 : Nat) (o1 : Nat) (cA1 : ClassId) (cA2 : ClassId) (sz : Nat) : Met l yX6_many wsX6_many ({ frames := 0, cells := 0, slots := 0, locals := 0 }) (va_Pc [.ref h0, .int 2] (PB dC dI dE [(cA1, .object RX0), (cA2, .object RX1)] [(h0, .inr (9, [.int 7, .ref a1, .int 0, .ref a2, .int 0, .int 0, .ref w1, .ref p1, .ref o1])), (a1, .inl (cA1, 4, .inr (.inr (.inr (.inr (fun _ => none)))))), (a2, .inl (cA2, 10, .inr (.inr (.inr (.inr (fun _ => none))))))] sz)) (va_Qi (fun (r : Int32) (_ : Unit) => r = 0) (fun (_ : Unit) (t : State) => PE dC dI [(cA1, .object RX0), (cA2, .object RX1)] [(h0, .inr (9, [.int 7, .ref a1, .int 0, .ref a2, .int 0, .int 0, .ref w1, .ref p1, .ref o1])), (a1, .inl (cA1, 4, .inr (.inr (.inr (.inr (fun _ => none)))))), (a2, .inl (cA2, 10, .inr (.inr (.inr (.inr (fun _ => none))))))] (va_A [(h0, .inr (9, [.int 7, .ref a1, .int 0, .ref a2, .int 0, .int 0, .ref w1, .ref p1, .ref o1])), (a1, .inl (cA1, 4, .inr (.inr (.inr (.inr (fun _ => none)))))), (a2, .inl (cA2, 10, .inr (.inr (.inr (.inr (fun _ => none))))))] sz) t) (va_A [(h0, .inr (9, [.int 7, .ref a1, .int 0, .ref a2, .int 0, .int 0, .ref w1, .ref p1, .ref o1])), (a1, .inl (cA1, 4, .inr (.inr (.inr (.inr (fun _ => none)))))), (a2, .inl (cA2, 10, .inr (.inr (.inr (.inr (fun _ => none))))))] sz)) 0 0 (va_A [(h0, .inr (9, [.int 7, .ref a1, .int 0, .ref a2, .int 0, .int 0, .ref w1, .ref p1, .ref o1])), (a1, .inl (cA1, 4, .inr (.inr (.inr (.inr (fun _ => none)))))), (a2, .inl (cA2, 10, .inr (.inr (.inr (.inr (fun _ => none))))))] sz) := by
  refine Met.ofW (cc := cX6_many) (maxL := 2) (ret := (some .int)) (by decide) rfl ?_
  intro p e s m args below meth c s₁ B hml hv
  obtain ⟨rfl, hsz, hP, hK, hD0, hTb, hZ⟩ := hv
  have hx := B.exec
  have hb := B.bytes
  have hr := B.returns
  have hts := atoms_spec (ws := wsX6_many) B.pre
  have hown : s.vm.findClass RX6 = some m.cls := findClass_of_methodNamed B.named
  have hlocks := B.notSynchronized
  subst hsz
  have hD := hD0.self (sz := s.heap.size)
  generalize hAe : va_A [(h0, .inr (9, [.int 7, .ref a1, .int 0, .ref a2, .int 0, .int 0, .ref w1, .ref p1, .ref o1])), (a1, .inl (cA1, 4, .inr (.inr (.inr (.inr (fun _ => none)))))), (a2, .inl (cA2, 10, .inr (.inr (.inr (.inr (fun _ => none))))))] s.heap.size = A at hD hZ ⊢
  have hA : ∀ q : Nat, s.heap.size ≤ q → A q := fun q h => by rw [← hAe]; exact Or.inr h
  have hS : va_S A s.heap s.heap [] := va_S.rf
  have hP : va_P (dC, dI) vwCl [(h0, .inr (9, [.int 7, .ref a1, .int 0, .ref a2, .int 0, .int 0, .ref w1, .ref p1, .ref o1])), (a1, .inl (cA1, 4, .inr (.inr (.inr (.inr (fun _ => none)))))), (a2, .inl (cA2, 10, .inr (.inr (.inr (.inr (fun _ => none))))))] s.heap := hP
  have hl := lv_entry ([.ref h0, .int 2]) (n := 2) (Nat.le_of_ble_eq_true rfl)
  rw [lg_entry_eq]
  generalize (lg_sl ([.ref h0, .int 2]) ++ List.replicate (2 - (lg_sl ([.ref h0, .int 2])).length) Slot.unset).toArray = ls at hl ⊢
  have hl : lv_has ls 2 [(0, .ref h0), (1, .int 2)] := hl
  obtain ⟨H, eH⟩ : ∃ z, z = s.heap := ⟨_, rfl⟩
  rw [← eH] at hP ⊢
  have hS : va_S A s.heap H [] := by rw [eH]; exact va_S.rf
  refine lv_iload_n hx hb dX6_many_0 rfl (lv_at hl 1 rfl) ?_
  refine lv_tableIn (tgt := 58) hx hb dX6_many_1 (by decide) (by decide) rfl (by decide) ?_
  refine lv_aload_n hx hb dX6_many_58 rfl (lv_at hl 0 rfl) ?_
  refine va_get (D := (dC, dI)) (ci := 9) (v := .int 0) (C := RX6) (T := TX6) (N := 9) hx hb hts (by decide +kernel) hown hK hP 0 rfl rfl 4 (by decide) (hts (.fieldLink RX6 28 "Versorhall" "elementCount" "I") (by decide +kernel)) (fun _ h9 => h9) rfl dX6_many_59 ?_
  have hP9 := hP.sub (ws' := [(h0, .inr (9, [.int 7, .ref a1, .int 0, .ref a2, .int 0, .int 0, .ref w1, .ref p1, .ref o1])), (a1, .inl (cA1, 4, .inr (.inr (.inr (.inr (fun _ => none)))))), (a2, .inl (cA2, 10, .inr (.inr (.inr (.inr (fun _ => none))))))]) [0, 1, 2] rfl
  have hD9 := hD.sub (ws' := [(h0, .inr (9, [.int 7, .ref a1, .int 0, .ref a2, .int 0, .int 0, .ref w1, .ref p1, .ref o1])), (a1, .inl (cA1, 4, .inr (.inr (.inr (.inr (fun _ => none)))))), (a2, .inl (cA2, 10, .inr (.inr (.inr (.inr (fun _ => none))))))]) [0, 1, 2] (by decide) rfl
  have hK9 := hK.sub (tys' := [(cA1, .object RX0), (cA2, .object RX1)]) [0, 1] rfl
  refine W.widen (k := 0) (n := 0) (Nat.le_of_ble_eq_true rfl) (Nat.le_of_ble_eq_true rfl) ?_
  exact W.iret (v := 0) hx hb hr (fun t ht hW => ⟨⟨_, (), rfl, rfl, PE.mk hP9 hK9 hD9 ht hW⟩, hS.F ht⟩) hS.2.2 dX6_many_62

set_option maxHeartbeats 4000000 in
set_option maxRecDepth 100000 in
/-- c_many_3 -/
theorem c_many_3 (l : Launch) (dC : Nat → ClassId) (dI : Nat → Nat → Nat) (dE : Nat) (h0 : Nat) (a1 : Nat) (a2 : Nat) (w1 : Nat) (p1 : Nat) (o1 : Nat) (cA1 : ClassId) (cA2 : ClassId) (sz : Nat) : Met l yX6_many wsX6_many ({ frames := 1, cells := 0, slots := 0, locals := 25 }) (va_Pc [.ref h0, .int 3] (PB dC dI dE [(cA1, .object RX0), (cA2, .object RX1)] [(h0, .inr (9, [.int 7, .ref a1, .int 0, .ref a2, .int 0, .int 0, .ref w1, .ref p1, .ref o1])), (a1, .inl (cA1, 4, .inr (.inr (.inr (.inr (fun _ => none)))))), (a2, .inl (cA2, 10, .inr (.inr (.inr (.inr (fun _ => none))))))] sz)) (va_Qi (fun (r : Int32) (_ : Unit) => r = 0) (fun (_ : Unit) (t : State) => PE dC dI [(cA1, .object RX0), (cA2, .object RX1)] [(h0, .inr (9, [.int 7, .ref a1, .int 0, .ref a2, .int 0, .int 0, .ref w1, .ref p1, .ref o1])), (a1, .inl (cA1, 4, .inr (.inr (.inr (.inr (fun _ => none)))))), (a2, .inl (cA2, 10, .inr (.inr (.inr (.inr (fun _ => none))))))] (va_A [(h0, .inr (9, [.int 7, .ref a1, .int 0, .ref a2, .int 0, .int 0, .ref w1, .ref p1, .ref o1])), (a1, .inl (cA1, 4, .inr (.inr (.inr (.inr (fun _ => none)))))), (a2, .inl (cA2, 10, .inr (.inr (.inr (.inr (fun _ => none))))))] sz) t) (va_A [(h0, .inr (9, [.int 7, .ref a1, .int 0, .ref a2, .int 0, .int 0, .ref w1, .ref p1, .ref o1])), (a1, .inl (cA1, 4, .inr (.inr (.inr (.inr (fun _ => none)))))), (a2, .inl (cA2, 10, .inr (.inr (.inr (.inr (fun _ => none))))))] sz)) 0 0 (va_A [(h0, .inr (9, [.int 7, .ref a1, .int 0, .ref a2, .int 0, .int 0, .ref w1, .ref p1, .ref o1])), (a1, .inl (cA1, 4, .inr (.inr (.inr (.inr (fun _ => none)))))), (a2, .inl (cA2, 10, .inr (.inr (.inr (.inr (fun _ => none))))))] sz) := by
  refine Met.ofW (cc := cX6_many) (maxL := 2) (ret := (some .int)) (by decide) rfl ?_
  intro p e s m args below meth c s₁ B hml hv
  obtain ⟨rfl, hsz, hP, hK, hD0, hTb, hZ⟩ := hv
  have hx := B.exec
  have hb := B.bytes
  have hr := B.returns
  have hts := atoms_spec (ws := wsX6_many) B.pre
  have hown : s.vm.findClass RX6 = some m.cls := findClass_of_methodNamed B.named
  have hlocks := B.notSynchronized
  subst hsz
  have hD := hD0.self (sz := s.heap.size)
  generalize hAe : va_A [(h0, .inr (9, [.int 7, .ref a1, .int 0, .ref a2, .int 0, .int 0, .ref w1, .ref p1, .ref o1])), (a1, .inl (cA1, 4, .inr (.inr (.inr (.inr (fun _ => none)))))), (a2, .inl (cA2, 10, .inr (.inr (.inr (.inr (fun _ => none))))))] s.heap.size = A at hD hZ ⊢
  have hA : ∀ q : Nat, s.heap.size ≤ q → A q := fun q h => by rw [← hAe]; exact Or.inr h
  have hS : va_S A s.heap s.heap [] := va_S.rf
  have hP : va_P (dC, dI) vwCl [(h0, .inr (9, [.int 7, .ref a1, .int 0, .ref a2, .int 0, .int 0, .ref w1, .ref p1, .ref o1])), (a1, .inl (cA1, 4, .inr (.inr (.inr (.inr (fun _ => none)))))), (a2, .inl (cA2, 10, .inr (.inr (.inr (.inr (fun _ => none))))))] s.heap := hP
  have hl := lv_entry ([.ref h0, .int 3]) (n := 2) (Nat.le_of_ble_eq_true rfl)
  rw [lg_entry_eq]
  generalize (lg_sl ([.ref h0, .int 3]) ++ List.replicate (2 - (lg_sl ([.ref h0, .int 3])).length) Slot.unset).toArray = ls at hl ⊢
  have hl : lv_has ls 2 [(0, .ref h0), (1, .int 3)] := hl
  obtain ⟨H, eH⟩ : ∃ z, z = s.heap := ⟨_, rfl⟩
  rw [← eH] at hP ⊢
  have hS : va_S A s.heap H [] := by rw [eH]; exact va_S.rf
  refine lv_iload_n hx hb dX6_many_0 rfl (lv_at hl 1 rfl) ?_
  refine lv_tableIn (tgt := 63) hx hb dX6_many_1 (by decide) (by decide) rfl (by decide) ?_
  refine lv_aload_n hx hb dX6_many_63 rfl (lv_at hl 0 rfl) ?_
  have hPc := hP.sub (ws' := [(h0, .inr (9, [.int 7, .ref a1, .int 0, .ref a2, .int 0, .int 0, .ref w1, .ref p1, .ref o1])), (a1, .inl (cA1, 4, .inr (.inr (.inr (.inr (fun _ => none)))))), (a2, .inl (cA2, 10, .inr (.inr (.inr (.inr (fun _ => none))))))]) [0, 1, 2] rfl
  have hDc := hD.sub (ws' := [(h0, .inr (9, [.int 7, .ref a1, .int 0, .ref a2, .int 0, .int 0, .ref w1, .ref p1, .ref o1])), (a1, .inl (cA1, 4, .inr (.inr (.inr (.inr (fun _ => none)))))), (a2, .inl (cA2, 10, .inr (.inr (.inr (.inr (fun _ => none))))))]) [0, 1, 2] (by decide) rfl
  have hKc := hK.sub (tys' := [(cA1, .object RX0), (cA2, .object RX1)]) [0, 1] rfl
  have hFc := va_free (wc := [(h0, .inr (9, [.int 7, .ref a1, .int 0, .ref a2, .int 0, .int 0, .ref w1, .ref p1, .ref o1])), (a1, .inl (cA1, 4, .inr (.inr (.inr (.inr (fun _ => none)))))), (a2, .inl (cA2, 10, .inr (.inr (.inr (.inr (fun _ => none))))))]) hD hS hA [0, 1, 2] rfl
  refine va_calli (va_runV (As := []) (rest := []) ⟨hx, hb, hml, hown, hts⟩ (c_allUnits l dC dI dE h0 a1 a2 w1 p1 o1 cA1 cA2 H.size) (cwV 0 hts gX6_many_X6_allUnits rfl rfl rfl (by decide +kernel) ⟨Nat.le_of_ble_eq_true rfl, Nat.le_of_ble_eq_true rfl⟩) ⟨fun a U g mk q => ⟨q.1, PB.blind q.2⟩, va_recv hKc hPc (ci := 9) (q0 := 0) rfl rfl, fun U hU hW => ⟨rfl, PB.call hPc hKc hDc hTb hZ hS hFc hU hW⟩⟩ rfl rfl hl.1 rfl (lv_room (Nat.le_of_ble_eq_true rfl)) dX6_many_64 ⟨Nat.le_of_ble_eq_true rfl, Nat.le_of_ble_eq_true rfl⟩) hS (fun q _ h => hFc q h) hFc (fun r u t H locs ht hvm hw hB hz1 hk1 hS => ?_)
  obtain ⟨hP, hD, hK⟩ := PE.join (wc := [(h0, .inr (9, [.int 7, .ref a1, .int 0, .ref a2, .int 0, .int 0, .ref w1, .ref p1, .ref o1])), (a1, .inl (cA1, 4, .inr (.inr (.inr (.inr (fun _ => none)))))), (a2, .inl (cA2, 10, .inr (.inr (.inr (.inr (fun _ => none))))))]) (wr := []) (w1 := [(h0, .inr (9, [.int 7, .ref a1, .int 0, .ref a2, .int 0, .int 0, .ref w1, .ref p1, .ref o1])), (a1, .inl (cA1, 4, .inr (.inr (.inr (.inr (fun _ => none)))))), (a2, .inl (cA2, 10, .inr (.inr (.inr (.inr (fun _ => none))))))]) (tr := []) (t1 := [(cA1, .object RX0), (cA2, .object RX1)]) hP hD hK [0, 1, 2] [] [] rfl rfl rfl (by decide) (by decide) hk1 hFc ht hvm hB
  have hP : va_P (dC, dI) vwCl [(h0, .inr (9, [.int 7, .ref a1, .int 0, .ref a2, .int 0, .int 0, .ref w1, .ref p1, .ref o1])), (a1, .inl (cA1, 4, .inr (.inr (.inr (.inr (fun _ => none)))))), (a2, .inl (cA2, 10, .inr (.inr (.inr (.inr (fun _ => none))))))] H := hP
  have hD : va_D A [(h0, .inr (9, [.int 7, .ref a1, .int 0, .ref a2, .int 0, .int 0, .ref w1, .ref p1, .ref o1])), (a1, .inl (cA1, 4, .inr (.inr (.inr (.inr (fun _ => none)))))), (a2, .inl (cA2, 10, .inr (.inr (.inr (.inr (fun _ => none))))))] := hD
  have hK : va_K (dC, dI) vwCl [(cA1, .object RX0), (cA2, .object RX1)] s := hK
  subst hw
  have hP9 := hP.sub (ws' := [(h0, .inr (9, [.int 7, .ref a1, .int 0, .ref a2, .int 0, .int 0, .ref w1, .ref p1, .ref o1])), (a1, .inl (cA1, 4, .inr (.inr (.inr (.inr (fun _ => none)))))), (a2, .inl (cA2, 10, .inr (.inr (.inr (.inr (fun _ => none))))))]) [0, 1, 2] rfl
  have hD9 := hD.sub (ws' := [(h0, .inr (9, [.int 7, .ref a1, .int 0, .ref a2, .int 0, .int 0, .ref w1, .ref p1, .ref o1])), (a1, .inl (cA1, 4, .inr (.inr (.inr (.inr (fun _ => none)))))), (a2, .inl (cA2, 10, .inr (.inr (.inr (.inr (fun _ => none))))))]) [0, 1, 2] (by decide) rfl
  have hK9 := hK.sub (tys' := [(cA1, .object RX0), (cA2, .object RX1)]) [0, 1] rfl
  refine W.widen (k := 0) (n := 0) (Nat.le_of_ble_eq_true rfl) (Nat.le_of_ble_eq_true rfl) ?_
  exact W.iret (v := 0) hx hb hr (fun t ht hW => ⟨⟨_, (), rfl, rfl, PE.mk hP9 hK9 hD9 ht hW⟩, hS.F ht⟩) hS.2.2 dX6_many_67

set_option maxHeartbeats 4000000 in
set_option maxRecDepth 100000 in
/-- c_many_4 -/
theorem c_many_4 (l : Launch) (dC : Nat → ClassId) (dI : Nat → Nat → Nat) (dE : Nat) (h0 : Nat) (a1 : Nat) (a2 : Nat) (w1 : Nat) (p1 : Nat) (o1 : Nat) (cA1 : ClassId) (cA2 : ClassId) (sz : Nat) : Met l yX6_many wsX6_many ({ frames := 1, cells := 0, slots := 0, locals := 25 }) (va_Pc [.ref h0, .int 4] (PB dC dI dE [(cA1, .object RX0), (cA2, .object RX1)] [(h0, .inr (9, [.int 7, .ref a1, .int 0, .ref a2, .int 0, .int 0, .ref w1, .ref p1, .ref o1])), (a1, .inl (cA1, 4, .inr (.inr (.inr (.inr (fun _ => none)))))), (a2, .inl (cA2, 10, .inr (.inr (.inr (.inr (fun _ => none))))))] sz)) (va_Qi (fun (r : Int32) (_ : Unit) => r = 0) (fun (_ : Unit) (t : State) => PE dC dI [(cA1, .object RX0), (cA2, .object RX1)] [(h0, .inr (9, [.int 7, .ref a1, .int 0, .ref a2, .int 0, .int 0, .ref w1, .ref p1, .ref o1])), (a1, .inl (cA1, 4, .inr (.inr (.inr (.inr (fun _ => none)))))), (a2, .inl (cA2, 10, .inr (.inr (.inr (.inr (fun _ => none))))))] (va_A [(h0, .inr (9, [.int 7, .ref a1, .int 0, .ref a2, .int 0, .int 0, .ref w1, .ref p1, .ref o1])), (a1, .inl (cA1, 4, .inr (.inr (.inr (.inr (fun _ => none)))))), (a2, .inl (cA2, 10, .inr (.inr (.inr (.inr (fun _ => none))))))] sz) t) (va_A [(h0, .inr (9, [.int 7, .ref a1, .int 0, .ref a2, .int 0, .int 0, .ref w1, .ref p1, .ref o1])), (a1, .inl (cA1, 4, .inr (.inr (.inr (.inr (fun _ => none)))))), (a2, .inl (cA2, 10, .inr (.inr (.inr (.inr (fun _ => none))))))] sz)) 0 0 (va_A [(h0, .inr (9, [.int 7, .ref a1, .int 0, .ref a2, .int 0, .int 0, .ref w1, .ref p1, .ref o1])), (a1, .inl (cA1, 4, .inr (.inr (.inr (.inr (fun _ => none)))))), (a2, .inl (cA2, 10, .inr (.inr (.inr (.inr (fun _ => none))))))] sz) := by
  refine Met.ofW (cc := cX6_many) (maxL := 2) (ret := (some .int)) (by decide) rfl ?_
  intro p e s m args below meth c s₁ B hml hv
  obtain ⟨rfl, hsz, hP, hK, hD0, hTb, hZ⟩ := hv
  have hx := B.exec
  have hb := B.bytes
  have hr := B.returns
  have hts := atoms_spec (ws := wsX6_many) B.pre
  have hown : s.vm.findClass RX6 = some m.cls := findClass_of_methodNamed B.named
  have hlocks := B.notSynchronized
  subst hsz
  have hD := hD0.self (sz := s.heap.size)
  generalize hAe : va_A [(h0, .inr (9, [.int 7, .ref a1, .int 0, .ref a2, .int 0, .int 0, .ref w1, .ref p1, .ref o1])), (a1, .inl (cA1, 4, .inr (.inr (.inr (.inr (fun _ => none)))))), (a2, .inl (cA2, 10, .inr (.inr (.inr (.inr (fun _ => none))))))] s.heap.size = A at hD hZ ⊢
  have hA : ∀ q : Nat, s.heap.size ≤ q → A q := fun q h => by rw [← hAe]; exact Or.inr h
  have hS : va_S A s.heap s.heap [] := va_S.rf
  have hP : va_P (dC, dI) vwCl [(h0, .inr (9, [.int 7, .ref a1, .int 0, .ref a2, .int 0, .int 0, .ref w1, .ref p1, .ref o1])), (a1, .inl (cA1, 4, .inr (.inr (.inr (.inr (fun _ => none)))))), (a2, .inl (cA2, 10, .inr (.inr (.inr (.inr (fun _ => none))))))] s.heap := hP
  have hl := lv_entry ([.ref h0, .int 4]) (n := 2) (Nat.le_of_ble_eq_true rfl)
  rw [lg_entry_eq]
  generalize (lg_sl ([.ref h0, .int 4]) ++ List.replicate (2 - (lg_sl ([.ref h0, .int 4])).length) Slot.unset).toArray = ls at hl ⊢
  have hl : lv_has ls 2 [(0, .ref h0), (1, .int 4)] := hl
  obtain ⟨H, eH⟩ : ∃ z, z = s.heap := ⟨_, rfl⟩
  rw [← eH] at hP ⊢
  have hS : va_S A s.heap H [] := by rw [eH]; exact va_S.rf
  refine lv_iload_n hx hb dX6_many_0 rfl (lv_at hl 1 rfl) ?_
  refine lv_tableIn (tgt := 68) hx hb dX6_many_1 (by decide) (by decide) rfl (by decide) ?_
  refine lv_aload_n hx hb dX6_many_68 rfl (lv_at hl 0 rfl) ?_
  have hPc := hP.sub (ws' := [(h0, .inr (9, [.int 7, .ref a1, .int 0, .ref a2, .int 0, .int 0, .ref w1, .ref p1, .ref o1])), (a1, .inl (cA1, 4, .inr (.inr (.inr (.inr (fun _ => none)))))), (a2, .inl (cA2, 10, .inr (.inr (.inr (.inr (fun _ => none))))))]) [0, 1, 2] rfl
  have hDc := hD.sub (ws' := [(h0, .inr (9, [.int 7, .ref a1, .int 0, .ref a2, .int 0, .int 0, .ref w1, .ref p1, .ref o1])), (a1, .inl (cA1, 4, .inr (.inr (.inr (.inr (fun _ => none)))))), (a2, .inl (cA2, 10, .inr (.inr (.inr (.inr (fun _ => none))))))]) [0, 1, 2] (by decide) rfl
  have hKc := hK.sub (tys' := [(cA1, .object RX0), (cA2, .object RX1)]) [0, 1] rfl
  have hFc := va_free (wc := [(h0, .inr (9, [.int 7, .ref a1, .int 0, .ref a2, .int 0, .int 0, .ref w1, .ref p1, .ref o1])), (a1, .inl (cA1, 4, .inr (.inr (.inr (.inr (fun _ => none)))))), (a2, .inl (cA2, 10, .inr (.inr (.inr (.inr (fun _ => none))))))]) hD hS hA [0, 1, 2] rfl
  refine va_calli (va_runV (As := []) (rest := []) ⟨hx, hb, hml, hown, hts⟩ (c_plainElements l dC dI dE h0 a1 a2 w1 p1 o1 cA1 cA2 H.size) (cwV 0 hts gX6_many_X6_plainElements rfl rfl rfl (by decide +kernel) ⟨Nat.le_of_ble_eq_true rfl, Nat.le_of_ble_eq_true rfl⟩) ⟨fun a U g mk q => ⟨q.1, PB.blind q.2⟩, va_recv hKc hPc (ci := 9) (q0 := 0) rfl rfl, fun U hU hW => ⟨rfl, PB.call hPc hKc hDc hTb hZ hS hFc hU hW⟩⟩ rfl rfl hl.1 rfl (lv_room (Nat.le_of_ble_eq_true rfl)) dX6_many_69 ⟨Nat.le_of_ble_eq_true rfl, Nat.le_of_ble_eq_true rfl⟩) hS (fun q _ h => hFc q h) hFc (fun r u t H locs ht hvm hw hB hz1 hk1 hS => ?_)
  obtain ⟨hP, hD, hK⟩ := PE.join (wc := [(h0, .inr (9, [.int 7, .ref a1, .int 0, .ref a2, .int 0, .int 0, .ref w1, .ref p1, .ref o1])), (a1, .inl (cA1, 4, .inr (.inr (.inr (.inr (fun _ => none)))))), (a2, .inl (cA2, 10, .inr (.inr (.inr (.inr (fun _ => none))))))]) (wr := []) (w1 := [(h0, .inr (9, [.int 7, .ref a1, .int 0, .ref a2, .int 0, .int 0, .ref w1, .ref p1, .ref o1])), (a1, .inl (cA1, 4, .inr (.inr (.inr (.inr (fun _ => none)))))), (a2, .inl (cA2, 10, .inr (.inr (.inr (.inr (fun _ => none))))))]) (tr := []) (t1 := [(cA1, .object RX0), (cA2, .object RX1)]) hP hD hK [0, 1, 2] [] [] rfl rfl rfl (by decide) (by decide) hk1 hFc ht hvm hB
  have hP : va_P (dC, dI) vwCl [(h0, .inr (9, [.int 7, .ref a1, .int 0, .ref a2, .int 0, .int 0, .ref w1, .ref p1, .ref o1])), (a1, .inl (cA1, 4, .inr (.inr (.inr (.inr (fun _ => none)))))), (a2, .inl (cA2, 10, .inr (.inr (.inr (.inr (fun _ => none))))))] H := hP
  have hD : va_D A [(h0, .inr (9, [.int 7, .ref a1, .int 0, .ref a2, .int 0, .int 0, .ref w1, .ref p1, .ref o1])), (a1, .inl (cA1, 4, .inr (.inr (.inr (.inr (fun _ => none)))))), (a2, .inl (cA2, 10, .inr (.inr (.inr (.inr (fun _ => none))))))] := hD
  have hK : va_K (dC, dI) vwCl [(cA1, .object RX0), (cA2, .object RX1)] s := hK
  subst hw
  have hP9 := hP.sub (ws' := [(h0, .inr (9, [.int 7, .ref a1, .int 0, .ref a2, .int 0, .int 0, .ref w1, .ref p1, .ref o1])), (a1, .inl (cA1, 4, .inr (.inr (.inr (.inr (fun _ => none)))))), (a2, .inl (cA2, 10, .inr (.inr (.inr (.inr (fun _ => none))))))]) [0, 1, 2] rfl
  have hD9 := hD.sub (ws' := [(h0, .inr (9, [.int 7, .ref a1, .int 0, .ref a2, .int 0, .int 0, .ref w1, .ref p1, .ref o1])), (a1, .inl (cA1, 4, .inr (.inr (.inr (.inr (fun _ => none)))))), (a2, .inl (cA2, 10, .inr (.inr (.inr (.inr (fun _ => none))))))]) [0, 1, 2] (by decide) rfl
  have hK9 := hK.sub (tys' := [(cA1, .object RX0), (cA2, .object RX1)]) [0, 1] rfl
  refine W.widen (k := 0) (n := 0) (Nat.le_of_ble_eq_true rfl) (Nat.le_of_ble_eq_true rfl) ?_
  exact W.iret (v := 0) hx hb hr (fun t ht hW => ⟨⟨_, (), rfl, rfl, PE.mk hP9 hK9 hD9 ht hW⟩, hS.F ht⟩) hS.2.2 dX6_many_72

set_option maxHeartbeats 4000000 in
set_option maxRecDepth 100000 in
/-- c_many_5 -/
theorem c_many_5 (l : Launch) (dC : Nat → ClassId) (dI : Nat → Nat → Nat) (dE : Nat) (h0 : Nat) (a1 : Nat) (a2 : Nat) (w1 : Nat) (p1 : Nat) (o1 : Nat) (cA1 : ClassId) (cA2 : ClassId) (sz : Nat) : Met l yX6_many wsX6_many ({ frames := 1, cells := 0, slots := 0, locals := 25 }) (va_Pc [.ref h0, .int 5] (PB dC dI dE [(cA1, .object RX0), (cA2, .object RX1)] [(h0, .inr (9, [.int 7, .ref a1, .int 0, .ref a2, .int 0, .int 0, .ref w1, .ref p1, .ref o1])), (a1, .inl (cA1, 4, .inr (.inr (.inr (.inr (fun _ => none)))))), (a2, .inl (cA2, 10, .inr (.inr (.inr (.inr (fun _ => none))))))] sz)) (va_Qi (fun (r : Int32) (_ : Unit) => r = 0) (fun (_ : Unit) (t : State) => PE dC dI [(cA1, .object RX0), (cA2, .object RX1)] [(h0, .inr (9, [.int 7, .ref a1, .int 0, .ref a2, .int 0, .int 0, .ref w1, .ref p1, .ref o1])), (a1, .inl (cA1, 4, .inr (.inr (.inr (.inr (fun _ => none)))))), (a2, .inl (cA2, 10, .inr (.inr (.inr (.inr (fun _ => none))))))] (va_A [(h0, .inr (9, [.int 7, .ref a1, .int 0, .ref a2, .int 0, .int 0, .ref w1, .ref p1, .ref o1])), (a1, .inl (cA1, 4, .inr (.inr (.inr (.inr (fun _ => none)))))), (a2, .inl (cA2, 10, .inr (.inr (.inr (.inr (fun _ => none))))))] sz) t) (va_A [(h0, .inr (9, [.int 7, .ref a1, .int 0, .ref a2, .int 0, .int 0, .ref w1, .ref p1, .ref o1])), (a1, .inl (cA1, 4, .inr (.inr (.inr (.inr (fun _ => none)))))), (a2, .inl (cA2, 10, .inr (.inr (.inr (.inr (fun _ => none))))))] sz)) 0 0 (va_A [(h0, .inr (9, [.int 7, .ref a1, .int 0, .ref a2, .int 0, .int 0, .ref w1, .ref p1, .ref o1])), (a1, .inl (cA1, 4, .inr (.inr (.inr (.inr (fun _ => none)))))), (a2, .inl (cA2, 10, .inr (.inr (.inr (.inr (fun _ => none))))))] sz) := by
  refine Met.ofW (cc := cX6_many) (maxL := 2) (ret := (some .int)) (by decide) rfl ?_
  intro p e s m args below meth c s₁ B hml hv
  obtain ⟨rfl, hsz, hP, hK, hD0, hTb, hZ⟩ := hv
  have hx := B.exec
  have hb := B.bytes
  have hr := B.returns
  have hts := atoms_spec (ws := wsX6_many) B.pre
  have hown : s.vm.findClass RX6 = some m.cls := findClass_of_methodNamed B.named
  have hlocks := B.notSynchronized
  subst hsz
  have hD := hD0.self (sz := s.heap.size)
  generalize hAe : va_A [(h0, .inr (9, [.int 7, .ref a1, .int 0, .ref a2, .int 0, .int 0, .ref w1, .ref p1, .ref o1])), (a1, .inl (cA1, 4, .inr (.inr (.inr (.inr (fun _ => none)))))), (a2, .inl (cA2, 10, .inr (.inr (.inr (.inr (fun _ => none))))))] s.heap.size = A at hD hZ ⊢
  have hA : ∀ q : Nat, s.heap.size ≤ q → A q := fun q h => by rw [← hAe]; exact Or.inr h
  have hS : va_S A s.heap s.heap [] := va_S.rf
  have hP : va_P (dC, dI) vwCl [(h0, .inr (9, [.int 7, .ref a1, .int 0, .ref a2, .int 0, .int 0, .ref w1, .ref p1, .ref o1])), (a1, .inl (cA1, 4, .inr (.inr (.inr (.inr (fun _ => none)))))), (a2, .inl (cA2, 10, .inr (.inr (.inr (.inr (fun _ => none))))))] s.heap := hP
  have hl := lv_entry ([.ref h0, .int 5]) (n := 2) (Nat.le_of_ble_eq_true rfl)
  rw [lg_entry_eq]
  generalize (lg_sl ([.ref h0, .int 5]) ++ List.replicate (2 - (lg_sl ([.ref h0, .int 5])).length) Slot.unset).toArray = ls at hl ⊢
  have hl : lv_has ls 2 [(0, .ref h0), (1, .int 5)] := hl
  obtain ⟨H, eH⟩ : ∃ z, z = s.heap := ⟨_, rfl⟩
  rw [← eH] at hP ⊢
  have hS : va_S A s.heap H [] := by rw [eH]; exact va_S.rf
  refine lv_iload_n hx hb dX6_many_0 rfl (lv_at hl 1 rfl) ?_
  refine lv_tableIn (tgt := 73) hx hb dX6_many_1 (by decide) (by decide) rfl (by decide) ?_
  refine lv_aload_n hx hb dX6_many_73 rfl (lv_at hl 0 rfl) ?_
  have hPc := hP.sub (ws' := [(h0, .inr (9, [.int 7, .ref a1, .int 0, .ref a2, .int 0, .int 0, .ref w1, .ref p1, .ref o1])), (a1, .inl (cA1, 4, .inr (.inr (.inr (.inr (fun _ => none)))))), (a2, .inl (cA2, 10, .inr (.inr (.inr (.inr (fun _ => none))))))]) [0, 1, 2] rfl
  have hDc := hD.sub (ws' := [(h0, .inr (9, [.int 7, .ref a1, .int 0, .ref a2, .int 0, .int 0, .ref w1, .ref p1, .ref o1])), (a1, .inl (cA1, 4, .inr (.inr (.inr (.inr (fun _ => none)))))), (a2, .inl (cA2, 10, .inr (.inr (.inr (.inr (fun _ => none))))))]) [0, 1, 2] (by decide) rfl
  have hKc := hK.sub (tys' := [(cA1, .object RX0), (cA2, .object RX1)]) [0, 1] rfl
  have hFc := va_free (wc := [(h0, .inr (9, [.int 7, .ref a1, .int 0, .ref a2, .int 0, .int 0, .ref w1, .ref p1, .ref o1])), (a1, .inl (cA1, 4, .inr (.inr (.inr (.inr (fun _ => none)))))), (a2, .inl (cA2, 10, .inr (.inr (.inr (.inr (fun _ => none))))))]) hD hS hA [0, 1, 2] rfl
  refine va_calli (va_runV (As := []) (rest := []) ⟨hx, hb, hml, hown, hts⟩ (c_elementsWithoutNorm l dC dI dE h0 a1 a2 w1 p1 o1 cA1 cA2 H.size) (cwV 0 hts gX6_many_X6_elementsWithoutNorm rfl rfl rfl (by decide +kernel) ⟨Nat.le_of_ble_eq_true rfl, Nat.le_of_ble_eq_true rfl⟩) ⟨fun a U g mk q => ⟨q.1, PB.blind q.2⟩, va_recv hKc hPc (ci := 9) (q0 := 0) rfl rfl, fun U hU hW => ⟨rfl, PB.call hPc hKc hDc hTb hZ hS hFc hU hW⟩⟩ rfl rfl hl.1 rfl (lv_room (Nat.le_of_ble_eq_true rfl)) dX6_many_74 ⟨Nat.le_of_ble_eq_true rfl, Nat.le_of_ble_eq_true rfl⟩) hS (fun q _ h => hFc q h) hFc (fun r u t H locs ht hvm hw hB hz1 hk1 hS => ?_)
  obtain ⟨hP, hD, hK⟩ := PE.join (wc := [(h0, .inr (9, [.int 7, .ref a1, .int 0, .ref a2, .int 0, .int 0, .ref w1, .ref p1, .ref o1])), (a1, .inl (cA1, 4, .inr (.inr (.inr (.inr (fun _ => none)))))), (a2, .inl (cA2, 10, .inr (.inr (.inr (.inr (fun _ => none))))))]) (wr := []) (w1 := [(h0, .inr (9, [.int 7, .ref a1, .int 0, .ref a2, .int 0, .int 0, .ref w1, .ref p1, .ref o1])), (a1, .inl (cA1, 4, .inr (.inr (.inr (.inr (fun _ => none)))))), (a2, .inl (cA2, 10, .inr (.inr (.inr (.inr (fun _ => none))))))]) (tr := []) (t1 := [(cA1, .object RX0), (cA2, .object RX1)]) hP hD hK [0, 1, 2] [] [] rfl rfl rfl (by decide) (by decide) hk1 hFc ht hvm hB
  have hP : va_P (dC, dI) vwCl [(h0, .inr (9, [.int 7, .ref a1, .int 0, .ref a2, .int 0, .int 0, .ref w1, .ref p1, .ref o1])), (a1, .inl (cA1, 4, .inr (.inr (.inr (.inr (fun _ => none)))))), (a2, .inl (cA2, 10, .inr (.inr (.inr (.inr (fun _ => none))))))] H := hP
  have hD : va_D A [(h0, .inr (9, [.int 7, .ref a1, .int 0, .ref a2, .int 0, .int 0, .ref w1, .ref p1, .ref o1])), (a1, .inl (cA1, 4, .inr (.inr (.inr (.inr (fun _ => none)))))), (a2, .inl (cA2, 10, .inr (.inr (.inr (.inr (fun _ => none))))))] := hD
  have hK : va_K (dC, dI) vwCl [(cA1, .object RX0), (cA2, .object RX1)] s := hK
  subst hw
  have hP9 := hP.sub (ws' := [(h0, .inr (9, [.int 7, .ref a1, .int 0, .ref a2, .int 0, .int 0, .ref w1, .ref p1, .ref o1])), (a1, .inl (cA1, 4, .inr (.inr (.inr (.inr (fun _ => none)))))), (a2, .inl (cA2, 10, .inr (.inr (.inr (.inr (fun _ => none))))))]) [0, 1, 2] rfl
  have hD9 := hD.sub (ws' := [(h0, .inr (9, [.int 7, .ref a1, .int 0, .ref a2, .int 0, .int 0, .ref w1, .ref p1, .ref o1])), (a1, .inl (cA1, 4, .inr (.inr (.inr (.inr (fun _ => none)))))), (a2, .inl (cA2, 10, .inr (.inr (.inr (.inr (fun _ => none))))))]) [0, 1, 2] (by decide) rfl
  have hK9 := hK.sub (tys' := [(cA1, .object RX0), (cA2, .object RX1)]) [0, 1] rfl
  refine W.widen (k := 0) (n := 0) (Nat.le_of_ble_eq_true rfl) (Nat.le_of_ble_eq_true rfl) ?_
  exact W.iret (v := 0) hx hb hr (fun t ht hW => ⟨⟨_, (), rfl, rfl, PE.mk hP9 hK9 hD9 ht hW⟩, hS.F ht⟩) hS.2.2 dX6_many_77

set_option maxHeartbeats 4000000 in
set_option maxRecDepth 100000 in
/-- c_many_6 -/
theorem c_many_6 (l : Launch) (dC : Nat → ClassId) (dI : Nat → Nat → Nat) (dE : Nat) (h0 : Nat) (a1 : Nat) (a2 : Nat) (w1 : Nat) (p1 : Nat) (o1 : Nat) (cA1 : ClassId) (cA2 : ClassId) (sz : Nat) : Met l yX6_many wsX6_many ({ frames := 0, cells := 0, slots := 0, locals := 0 }) (va_Pc [.ref h0, .int 6] (PB dC dI dE [(cA1, .object RX0), (cA2, .object RX1)] [(h0, .inr (9, [.int 7, .ref a1, .int 0, .ref a2, .int 0, .int 0, .ref w1, .ref p1, .ref o1])), (a1, .inl (cA1, 4, .inr (.inr (.inr (.inr (fun _ => none)))))), (a2, .inl (cA2, 10, .inr (.inr (.inr (.inr (fun _ => none))))))] sz)) (va_Qi (fun (r : Int32) (_ : Unit) => r = 0) (fun (_ : Unit) (t : State) => PE dC dI [(cA1, .object RX0), (cA2, .object RX1)] [(h0, .inr (9, [.int 7, .ref a1, .int 0, .ref a2, .int 0, .int 0, .ref w1, .ref p1, .ref o1])), (a1, .inl (cA1, 4, .inr (.inr (.inr (.inr (fun _ => none)))))), (a2, .inl (cA2, 10, .inr (.inr (.inr (.inr (fun _ => none))))))] (va_A [(h0, .inr (9, [.int 7, .ref a1, .int 0, .ref a2, .int 0, .int 0, .ref w1, .ref p1, .ref o1])), (a1, .inl (cA1, 4, .inr (.inr (.inr (.inr (fun _ => none)))))), (a2, .inl (cA2, 10, .inr (.inr (.inr (.inr (fun _ => none))))))] sz) t) (va_A [(h0, .inr (9, [.int 7, .ref a1, .int 0, .ref a2, .int 0, .int 0, .ref w1, .ref p1, .ref o1])), (a1, .inl (cA1, 4, .inr (.inr (.inr (.inr (fun _ => none)))))), (a2, .inl (cA2, 10, .inr (.inr (.inr (.inr (fun _ => none))))))] sz)) 0 0 (va_A [(h0, .inr (9, [.int 7, .ref a1, .int 0, .ref a2, .int 0, .int 0, .ref w1, .ref p1, .ref o1])), (a1, .inl (cA1, 4, .inr (.inr (.inr (.inr (fun _ => none)))))), (a2, .inl (cA2, 10, .inr (.inr (.inr (.inr (fun _ => none))))))] sz) := by
  refine Met.ofW (cc := cX6_many) (maxL := 2) (ret := (some .int)) (by decide) rfl ?_
  intro p e s m args below meth c s₁ B hml hv
  obtain ⟨rfl, hsz, hP, hK, hD0, hTb, hZ⟩ := hv
  have hx := B.exec
  have hb := B.bytes
  have hr := B.returns
  have hts := atoms_spec (ws := wsX6_many) B.pre
  have hown : s.vm.findClass RX6 = some m.cls := findClass_of_methodNamed B.named
  have hlocks := B.notSynchronized
  subst hsz
  have hD := hD0.self (sz := s.heap.size)
  generalize hAe : va_A [(h0, .inr (9, [.int 7, .ref a1, .int 0, .ref a2, .int 0, .int 0, .ref w1, .ref p1, .ref o1])), (a1, .inl (cA1, 4, .inr (.inr (.inr (.inr (fun _ => none)))))), (a2, .inl (cA2, 10, .inr (.inr (.inr (.inr (fun _ => none))))))] s.heap.size = A at hD hZ ⊢
  have hA : ∀ q : Nat, s.heap.size ≤ q → A q := fun q h => by rw [← hAe]; exact Or.inr h
  have hS : va_S A s.heap s.heap [] := va_S.rf
  have hP : va_P (dC, dI) vwCl [(h0, .inr (9, [.int 7, .ref a1, .int 0, .ref a2, .int 0, .int 0, .ref w1, .ref p1, .ref o1])), (a1, .inl (cA1, 4, .inr (.inr (.inr (.inr (fun _ => none)))))), (a2, .inl (cA2, 10, .inr (.inr (.inr (.inr (fun _ => none))))))] s.heap := hP
  have hl := lv_entry ([.ref h0, .int 6]) (n := 2) (Nat.le_of_ble_eq_true rfl)
  rw [lg_entry_eq]
  generalize (lg_sl ([.ref h0, .int 6]) ++ List.replicate (2 - (lg_sl ([.ref h0, .int 6])).length) Slot.unset).toArray = ls at hl ⊢
  have hl : lv_has ls 2 [(0, .ref h0), (1, .int 6)] := hl
  obtain ⟨H, eH⟩ : ∃ z, z = s.heap := ⟨_, rfl⟩
  rw [← eH] at hP ⊢
  have hS : va_S A s.heap H [] := by rw [eH]; exact va_S.rf
  refine lv_iload_n hx hb dX6_many_0 rfl (lv_at hl 1 rfl) ?_
  refine lv_tableIn (tgt := 78) hx hb dX6_many_1 (by decide) (by decide) rfl (by decide) ?_
  refine lv_aload_n hx hb dX6_many_78 rfl (lv_at hl 0 rfl) ?_
  refine va_get (D := (dC, dI)) (ci := 9) (v := .int 0) (C := RX6) (T := TX6) (N := 9) hx hb hts (by decide +kernel) hown hK hP 0 rfl rfl 5 (by decide) (hts (.fieldLink RX6 31 "Versorhall" "knocks" "I") (by decide +kernel)) (fun _ h9 => h9) rfl dX6_many_79 ?_
  have hP9 := hP.sub (ws' := [(h0, .inr (9, [.int 7, .ref a1, .int 0, .ref a2, .int 0, .int 0, .ref w1, .ref p1, .ref o1])), (a1, .inl (cA1, 4, .inr (.inr (.inr (.inr (fun _ => none)))))), (a2, .inl (cA2, 10, .inr (.inr (.inr (.inr (fun _ => none))))))]) [0, 1, 2] rfl
  have hD9 := hD.sub (ws' := [(h0, .inr (9, [.int 7, .ref a1, .int 0, .ref a2, .int 0, .int 0, .ref w1, .ref p1, .ref o1])), (a1, .inl (cA1, 4, .inr (.inr (.inr (.inr (fun _ => none)))))), (a2, .inl (cA2, 10, .inr (.inr (.inr (.inr (fun _ => none))))))]) [0, 1, 2] (by decide) rfl
  have hK9 := hK.sub (tys' := [(cA1, .object RX0), (cA2, .object RX1)]) [0, 1] rfl
  refine W.widen (k := 0) (n := 0) (Nat.le_of_ble_eq_true rfl) (Nat.le_of_ble_eq_true rfl) ?_
  exact W.iret (v := 0) hx hb hr (fun t ht hW => ⟨⟨_, (), rfl, rfl, PE.mk hP9 hK9 hD9 ht hW⟩, hS.F ht⟩) hS.2.2 dX6_many_82

set_option maxHeartbeats 4000000 in
set_option maxRecDepth 100000 in
/-- c_many_7 -/
theorem c_many_7 (l : Launch) (dC : Nat → ClassId) (dI : Nat → Nat → Nat) (dE : Nat) (h0 : Nat) (a1 : Nat) (a2 : Nat) (w1 : Nat) (p1 : Nat) (o1 : Nat) (cA1 : ClassId) (cA2 : ClassId) (sz : Nat) : Met l yX6_many wsX6_many ({ frames := 1, cells := 0, slots := 0, locals := 25 }) (va_Pc [.ref h0, .int 7] (PB dC dI dE [(cA1, .object RX0), (cA2, .object RX1)] [(h0, .inr (9, [.int 7, .ref a1, .int 0, .ref a2, .int 0, .int 0, .ref w1, .ref p1, .ref o1])), (a1, .inl (cA1, 4, .inr (.inr (.inr (.inr (fun _ => none)))))), (a2, .inl (cA2, 10, .inr (.inr (.inr (.inr (fun _ => none))))))] sz)) (va_Qi (fun (r : Int32) (_ : Unit) => r = 0) (fun (_ : Unit) (t : State) => PE dC dI [(cA1, .object RX0), (cA2, .object RX1)] [(h0, .inr (9, [.int 7, .ref a1, .int 0, .ref a2, .int 0, .int 0, .ref w1, .ref p1, .ref o1])), (a1, .inl (cA1, 4, .inr (.inr (.inr (.inr (fun _ => none)))))), (a2, .inl (cA2, 10, .inr (.inr (.inr (.inr (fun _ => none))))))] (va_A [(h0, .inr (9, [.int 7, .ref a1, .int 0, .ref a2, .int 0, .int 0, .ref w1, .ref p1, .ref o1])), (a1, .inl (cA1, 4, .inr (.inr (.inr (.inr (fun _ => none)))))), (a2, .inl (cA2, 10, .inr (.inr (.inr (.inr (fun _ => none))))))] sz) t) (va_A [(h0, .inr (9, [.int 7, .ref a1, .int 0, .ref a2, .int 0, .int 0, .ref w1, .ref p1, .ref o1])), (a1, .inl (cA1, 4, .inr (.inr (.inr (.inr (fun _ => none)))))), (a2, .inl (cA2, 10, .inr (.inr (.inr (.inr (fun _ => none))))))] sz)) 0 0 (va_A [(h0, .inr (9, [.int 7, .ref a1, .int 0, .ref a2, .int 0, .int 0, .ref w1, .ref p1, .ref o1])), (a1, .inl (cA1, 4, .inr (.inr (.inr (.inr (fun _ => none)))))), (a2, .inl (cA2, 10, .inr (.inr (.inr (.inr (fun _ => none))))))] sz) := by
  refine Met.ofW (cc := cX6_many) (maxL := 2) (ret := (some .int)) (by decide) rfl ?_
  intro p e s m args below meth c s₁ B hml hv
  obtain ⟨rfl, hsz, hP, hK, hD0, hTb, hZ⟩ := hv
  have hx := B.exec
  have hb := B.bytes
  have hr := B.returns
  have hts := atoms_spec (ws := wsX6_many) B.pre
  have hown : s.vm.findClass RX6 = some m.cls := findClass_of_methodNamed B.named
  have hlocks := B.notSynchronized
  subst hsz
  have hD := hD0.self (sz := s.heap.size)
  generalize hAe : va_A [(h0, .inr (9, [.int 7, .ref a1, .int 0, .ref a2, .int 0, .int 0, .ref w1, .ref p1, .ref o1])), (a1, .inl (cA1, 4, .inr (.inr (.inr (.inr (fun _ => none)))))), (a2, .inl (cA2, 10, .inr (.inr (.inr (.inr (fun _ => none))))))] s.heap.size = A at hD hZ ⊢
  have hA : ∀ q : Nat, s.heap.size ≤ q → A q := fun q h => by rw [← hAe]; exact Or.inr h
  have hS : va_S A s.heap s.heap [] := va_S.rf
  have hP : va_P (dC, dI) vwCl [(h0, .inr (9, [.int 7, .ref a1, .int 0, .ref a2, .int 0, .int 0, .ref w1, .ref p1, .ref o1])), (a1, .inl (cA1, 4, .inr (.inr (.inr (.inr (fun _ => none)))))), (a2, .inl (cA2, 10, .inr (.inr (.inr (.inr (fun _ => none))))))] s.heap := hP
  have hl := lv_entry ([.ref h0, .int 7]) (n := 2) (Nat.le_of_ble_eq_true rfl)
  rw [lg_entry_eq]
  generalize (lg_sl ([.ref h0, .int 7]) ++ List.replicate (2 - (lg_sl ([.ref h0, .int 7])).length) Slot.unset).toArray = ls at hl ⊢
  have hl : lv_has ls 2 [(0, .ref h0), (1, .int 7)] := hl
  obtain ⟨H, eH⟩ : ∃ z, z = s.heap := ⟨_, rfl⟩
  rw [← eH] at hP ⊢
  have hS : va_S A s.heap H [] := by rw [eH]; exact va_S.rf
  refine lv_iload_n hx hb dX6_many_0 rfl (lv_at hl 1 rfl) ?_
  refine lv_tableIn (tgt := 83) hx hb dX6_many_1 (by decide) (by decide) rfl (by decide) ?_
  refine lv_aload_n hx hb dX6_many_83 rfl (lv_at hl 0 rfl) ?_
  have hPc := hP.sub (ws' := [(h0, .inr (9, [.int 7, .ref a1, .int 0, .ref a2, .int 0, .int 0, .ref w1, .ref p1, .ref o1])), (a1, .inl (cA1, 4, .inr (.inr (.inr (.inr (fun _ => none)))))), (a2, .inl (cA2, 10, .inr (.inr (.inr (.inr (fun _ => none))))))]) [0, 1, 2] rfl
  have hDc := hD.sub (ws' := [(h0, .inr (9, [.int 7, .ref a1, .int 0, .ref a2, .int 0, .int 0, .ref w1, .ref p1, .ref o1])), (a1, .inl (cA1, 4, .inr (.inr (.inr (.inr (fun _ => none)))))), (a2, .inl (cA2, 10, .inr (.inr (.inr (.inr (fun _ => none))))))]) [0, 1, 2] (by decide) rfl
  have hKc := hK.sub (tys' := [(cA1, .object RX0), (cA2, .object RX1)]) [0, 1] rfl
  have hFc := va_free (wc := [(h0, .inr (9, [.int 7, .ref a1, .int 0, .ref a2, .int 0, .int 0, .ref w1, .ref p1, .ref o1])), (a1, .inl (cA1, 4, .inr (.inr (.inr (.inr (fun _ => none)))))), (a2, .inl (cA2, 10, .inr (.inr (.inr (.inr (fun _ => none))))))]) hD hS hA [0, 1, 2] rfl
  refine va_calli (va_runV (As := []) (rest := []) ⟨hx, hb, hml, hown, hts⟩ (c_sumOfLeansInQuarters l dC dI dE h0 a1 a2 w1 p1 o1 cA1 cA2 H.size) (cwV 0 hts gX6_many_X6_sumOfLeansInQuarters rfl rfl rfl (by decide +kernel) ⟨Nat.le_of_ble_eq_true rfl, Nat.le_of_ble_eq_true rfl⟩) ⟨fun a U g mk q => ⟨q.1, PB.blind q.2⟩, va_recv hKc hPc (ci := 9) (q0 := 0) rfl rfl, fun U hU hW => ⟨rfl, PB.call hPc hKc hDc hTb hZ hS hFc hU hW⟩⟩ rfl rfl hl.1 rfl (lv_room (Nat.le_of_ble_eq_true rfl)) dX6_many_84 ⟨Nat.le_of_ble_eq_true rfl, Nat.le_of_ble_eq_true rfl⟩) hS (fun q _ h => hFc q h) hFc (fun r u t H locs ht hvm hw hB hz1 hk1 hS => ?_)
  obtain ⟨hP, hD, hK⟩ := PE.join (wc := [(h0, .inr (9, [.int 7, .ref a1, .int 0, .ref a2, .int 0, .int 0, .ref w1, .ref p1, .ref o1])), (a1, .inl (cA1, 4, .inr (.inr (.inr (.inr (fun _ => none)))))), (a2, .inl (cA2, 10, .inr (.inr (.inr (.inr (fun _ => none))))))]) (wr := []) (w1 := [(h0, .inr (9, [.int 7, .ref a1, .int 0, .ref a2, .int 0, .int 0, .ref w1, .ref p1, .ref o1])), (a1, .inl (cA1, 4, .inr (.inr (.inr (.inr (fun _ => none)))))), (a2, .inl (cA2, 10, .inr (.inr (.inr (.inr (fun _ => none))))))]) (tr := []) (t1 := [(cA1, .object RX0), (cA2, .object RX1)]) hP hD hK [0, 1, 2] [] [] rfl rfl rfl (by decide) (by decide) hk1 hFc ht hvm hB
  have hP : va_P (dC, dI) vwCl [(h0, .inr (9, [.int 7, .ref a1, .int 0, .ref a2, .int 0, .int 0, .ref w1, .ref p1, .ref o1])), (a1, .inl (cA1, 4, .inr (.inr (.inr (.inr (fun _ => none)))))), (a2, .inl (cA2, 10, .inr (.inr (.inr (.inr (fun _ => none))))))] H := hP
  have hD : va_D A [(h0, .inr (9, [.int 7, .ref a1, .int 0, .ref a2, .int 0, .int 0, .ref w1, .ref p1, .ref o1])), (a1, .inl (cA1, 4, .inr (.inr (.inr (.inr (fun _ => none)))))), (a2, .inl (cA2, 10, .inr (.inr (.inr (.inr (fun _ => none))))))] := hD
  have hK : va_K (dC, dI) vwCl [(cA1, .object RX0), (cA2, .object RX1)] s := hK
  subst hw
  refine lv_iconst (v := 4) hx hb dX6_many_87 (by decide) ?_
  refine lv_idiv hx hb dX6_many_88 (by decide) ?_
  refine lv_topi (fun f1 ef1 => ?_)
  obtain rfl : f1 = 0 := ef1.trans (by decide)
  have hP9 := hP.sub (ws' := [(h0, .inr (9, [.int 7, .ref a1, .int 0, .ref a2, .int 0, .int 0, .ref w1, .ref p1, .ref o1])), (a1, .inl (cA1, 4, .inr (.inr (.inr (.inr (fun _ => none)))))), (a2, .inl (cA2, 10, .inr (.inr (.inr (.inr (fun _ => none))))))]) [0, 1, 2] rfl
  have hD9 := hD.sub (ws' := [(h0, .inr (9, [.int 7, .ref a1, .int 0, .ref a2, .int 0, .int 0, .ref w1, .ref p1, .ref o1])), (a1, .inl (cA1, 4, .inr (.inr (.inr (.inr (fun _ => none)))))), (a2, .inl (cA2, 10, .inr (.inr (.inr (.inr (fun _ => none))))))]) [0, 1, 2] (by decide) rfl
  have hK9 := hK.sub (tys' := [(cA1, .object RX0), (cA2, .object RX1)]) [0, 1] rfl
  refine W.widen (k := 0) (n := 0) (Nat.le_of_ble_eq_true rfl) (Nat.le_of_ble_eq_true rfl) ?_
  exact W.iret (v := 0) hx hb hr (fun t ht hW => ⟨⟨_, (), rfl, rfl, PE.mk hP9 hK9 hD9 ht hW⟩, hS.F ht⟩) hS.2.2 dX6_many_89

