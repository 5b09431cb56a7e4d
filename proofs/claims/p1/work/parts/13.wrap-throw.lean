def wsX7_init : List Cond := .code yX7_init cX7_init 1 none :: ([.methodLink RX7 1 objectInit, .instanceMethod objectInit, .code objectInit ⟨#[0xb1]⟩ 1 none])
theorem dX7_init_0 : decode cX7_init 0 = .ok (.aload_n 0, 1) := by decide +kernel
theorem dX7_init_1 : decode cX7_init 1 = .ok (.invokespecial 1, 3) := by decide +kernel
theorem dX7_init_4 : decode cX7_init 4 = .ok (.return_, 1) := by decide +kernel
def wsL_dial_r1 : List Cond := [Cond.classLink RL 30 "java/lang/IndexOutOfBoundsException", Cond.classLink RL 19 "java/lang/IllegalArgumentException", Cond.classLink RL 21 "java/lang/IllegalStateException", Cond.methodLink RL 26 yX6_dial, Cond.instanceMethod yX6_dial, Cond.selects RX6 yX6_dial yX6_dial, Cond.initialized RX6, Cond.code yX6_dial cX6_dial 4 (some .int), Cond.classLink RX6 52 "java/lang/IllegalArgumentException", Cond.initialized "java/lang/IllegalArgumentException", Cond.classLink RX6 59 "java/lang/IllegalStateException", Cond.initialized "java/lang/IllegalStateException", Cond.fieldLink RX6 9 "Versorhall" "prime" "I", Cond.fieldLink RX6 77 "Versorhall$Algebra" "dialCount" "I", Cond.fieldLink RX6 80 "Versorhall$Algebra" "elementCount" "I", Cond.fieldLink RX6 87 "Versorhall$Algebra" "units" "I", Cond.methodLink RX6 71 yX6_algebraOf, Cond.instanceMethod yX6_algebraOf, Cond.selects RX6 yX6_algebraOf yX6_algebraOf, Cond.code yX6_algebraOf cX6_algebraOf 3 (some (.object "Versorhall$Algebra")), Cond.classLink RX6 276 "java/lang/IndexOutOfBoundsException", Cond.initialized "java/lang/IndexOutOfBoundsException", Cond.fieldLink RX6 15 "Versorhall" "algebras" "[LVersorhall$Algebra;", Cond.methodLink RX6 83 yX0_addDial]
def wsL_dial_r2 : List Cond := [Cond.instanceMethod yX0_addDial, Cond.selects RX0 yX0_addDial yX0_addDial, Cond.initialized RX0, Cond.code yX0_addDial cX0_addDial 3 none, Cond.fieldLink RX0 9 "Versorhall$Algebra" "dialCount" "I", Cond.fieldLink RX0 28 "Versorhall$Algebra" "dials" "[I", Cond.fieldLink RX0 15 "Versorhall$Algebra" "units" "I", Cond.fieldLink RX0 48 "Versorhall$Algebra" "kind" "I", Cond.methodLink RX0 61 yX0_doubleSigns, Cond.instanceMethod yX0_doubleSigns, Cond.selects RX0 yX0_doubleSigns yX0_doubleSigns, Cond.code yX0_doubleSigns cX0_doubleSigns 6 none, Cond.methodLink RX0 68 yX0_signOf, Cond.instanceMethod yX0_signOf, Cond.selects RX0 yX0_signOf yX0_signOf, Cond.code yX0_signOf cX0_signOf 4 (some .int), Cond.fieldLink RX0 32 "Versorhall$Algebra" "signs" "[I", Cond.methodLink RX0 54 yX0_putSign, Cond.instanceMethod yX0_putSign, Cond.selects RX0 yX0_putSign yX0_putSign, Cond.code yX0_putSign cX0_putSign 5 none, Cond.methodLink RX0 72 yX0_conjugateSign, Cond.instanceMethod yX0_conjugateSign, Cond.selects RX0 yX0_conjugateSign yX0_conjugateSign]
def wsL_dial_r3 : List Cond := [Cond.code yX0_conjugateSign cX0_conjugateSign 3 (some .int), Cond.methodLink RX0 82 yJ6_bitCount_0f7a4, Cond.static yJ6_bitCount_0f7a4, Cond.initialized RJ6, Cond.code yJ6_bitCount_0f7a4 cJ6_bitCount_0f7a4 1 (some .int), Cond.constant RJ6 265 (1431655765), Cond.constant RJ6 266 (858993459), Cond.constant RJ6 267 (252645135), Cond.methodLink RX0 76 yX0_reduced, Cond.instanceMethod yX0_reduced, Cond.selects RX0 yX0_reduced yX0_reduced, Cond.code yX0_reduced cX0_reduced 3 (some .int), Cond.fieldLink RX0 51 "Versorhall$Algebra" "prime" "I", Cond.methodLink RX0 65 yX0_reckonBladeSigns, Cond.instanceMethod yX0_reckonBladeSigns, Cond.selects RX0 yX0_reckonBladeSigns yX0_reckonBladeSigns, Cond.code yX0_reckonBladeSigns cX0_reckonBladeSigns 3 none, Cond.methodLink RX0 79 yX0_bladeSign, Cond.instanceMethod yX0_bladeSign, Cond.selects RX0 yX0_bladeSign yX0_bladeSign, Cond.code yX0_bladeSign cX0_bladeSign 7 (some .int), Cond.methodLink RX0 87 yX0_dialOf, Cond.instanceMethod yX0_dialOf, Cond.selects RX0 yX0_dialOf yX0_dialOf]
def wsL_dial_r4 : List Cond := [Cond.code yX0_dialOf cX0_dialOf 2 (some .int), Cond.methodLink RX0 58 yX0_forgetBreaks, Cond.instanceMethod yX0_forgetBreaks, Cond.selects RX0 yX0_forgetBreaks yX0_forgetBreaks, Cond.code yX0_forgetBreaks cX0_forgetBreaks 2 none, Cond.fieldLink RX0 35 "Versorhall$Algebra" "firstBreaks" "[I"]
def wsL_dial : List Cond := .codeWith yL_dial cL_dial 5 (some .int) [(0, 11, 14, 30), (0, 11, 18, 19), (0, 11, 22, 21)] :: ((wsL_dial_r1 ++ (wsL_dial_r2 ++ (wsL_dial_r3 ++ wsL_dial_r4))) ++ wsX70 ++ wsX60 ++ wsX00 ++ (vx_atS RX6 56 "java/lang/IllegalArgumentException" ["java/lang/RuntimeException", "java/lang/Exception"]).filter goodWord ++ (vx_atS RX6 63 "java/lang/IllegalStateException" ["java/lang/RuntimeException", "java/lang/Exception"]).filter goodWord ++ (vx_atS RX6 280 "java/lang/IndexOutOfBoundsException" ["java/lang/RuntimeException", "java/lang/Exception"]).filter goodWord)
theorem dL_dial_0 : decode cL_dial 0 = .ok (.aload_n 3, 1) := by decide +kernel
theorem dL_dial_1 : decode cL_dial 1 = .ok (.aload_n 0, 1) := by decide +kernel
theorem dL_dial_2 : decode cL_dial 2 = .ok (.iload_n 1, 1) := by decide +kernel
theorem dL_dial_3 : decode cL_dial 3 = .ok (.iload_n 2, 1) := by decide +kernel
set_option maxRecDepth 20000 in
theorem ggL_dial_X6_dial : GoodIn wsL_dial wsX6_dial := goodIn_ca (goodIn_ca (goodIn_ca (goodIn_r _ [8, 9, 10, 11, 12, 13, 14, 15, 16, 17, 18, 19, 7, 20, 21, 22, 23, 24, 25, 26, 27, 28, 29, 30, 31, 32, 33, 34, 35, 36, 37, 38, 39, 40, 41, 42, 43, 44, 45, 46, 47, 48, 49, 50, 51, 52, 53, 54, 55, 56, 57, 58, 59, 60, 61, 62, 63, 64, 65, 66, 67, 68, 69, 70, 71, 72, 73, 74, 75, 76, 77, 78, 82, 83, 84, 85, 86, 87, 88, 89, 90, 91, 92, 93, 94, 95, 96, 97, 98, 99, 100, 101] (by decide +kernel) (by decide +kernel)) (goodIn_sub (fun _ h => List.mem_cons_of_mem _ (List.mem_append_left _ (List.mem_append_left _ (List.mem_append_right _ h)))) (by decide +kernel))) (goodIn_sub (fun _ h => List.mem_cons_of_mem _ (List.mem_append_left _ (List.mem_append_right _ h))) (by decide +kernel))) (goodIn_sub (fun _ h => List.mem_cons_of_mem _ (List.mem_append_right _ h)) (by decide +kernel))
set_option maxRecDepth 20000 in
theorem gL_dial_X6_dial : GoodIn wsL_dial (wsV RL 26 RX6 yX6_dial wsX6_dial) := goodIn_app (goodIn_of _ (by decide +kernel)) ggL_dial_X6_dial
theorem dL_dial_4 : decode cL_dial 4 = .ok (.invokevirtual 26, 3) := by decide +kernel
theorem dL_dial_14 : decode cL_dial 14 = .ok (.astore 4, 2) := by decide +kernel
theorem dL_dial_16 : decode cL_dial 16 = .ok (.iconst 1, 1) := by decide +kernel
theorem dL_dial_17 : decode cL_dial 17 = .ok (.ireturn, 1) := by decide +kernel
def wsL_element_r1 : List Cond := [Cond.classLink RL 30 "java/lang/IndexOutOfBoundsException", Cond.classLink RL 21 "java/lang/IllegalStateException", Cond.methodLink RL 32 yX6_element, Cond.instanceMethod yX6_element, Cond.selects RX6 yX6_element yX6_element, Cond.initialized RX6, Cond.code yX6_element cX6_element 4 (some .int), Cond.classLink RX6 59 "java/lang/IllegalStateException", Cond.initialized "java/lang/IllegalStateException", Cond.fieldLink RX6 28 "Versorhall" "elementCount" "I", Cond.fieldLink RX6 24 "Versorhall" "elements" "[LVersorhall$Element;", Cond.classLink RX6 22 RX1, Cond.instantiable RX1 2, Cond.initialized RX1, Cond.fieldLink RX6 80 "Versorhall$Algebra" "elementCount" "I", Cond.methodLink RX6 71 yX6_algebraOf, Cond.instanceMethod yX6_algebraOf, Cond.selects RX6 yX6_algebraOf yX6_algebraOf, Cond.code yX6_algebraOf cX6_algebraOf 3 (some (.object "Versorhall$Algebra")), Cond.classLink RX6 276 "java/lang/IndexOutOfBoundsException", Cond.initialized "java/lang/IndexOutOfBoundsException", Cond.fieldLink RX6 15 "Versorhall" "algebras" "[LVersorhall$Algebra;", Cond.methodLink RX6 92 yX1_init, Cond.instanceMethod yX1_init]
def wsL_element_r2 : List Cond := [Cond.code yX1_init cX1_init 2 none, Cond.methodLink RX1 1 objectInit, Cond.instanceMethod objectInit, Cond.code objectInit ⟨#[0xb1]⟩ 1 none, Cond.classLink RX1 7 RX4, Cond.instantiable RX4 1, Cond.initialized RX4, Cond.fieldLink RX1 10 "Versorhall$Element" "row" "LVersorhall$Row;", Cond.fieldLink RX1 16 "Versorhall$Element" "home" "LVersorhall$Algebra;", Cond.instanceMethod yX4_init, Cond.code yX4_init cX4_init 1 none, Cond.methodLink RX4 3 objectInit, Cond.arrayClass .int, Cond.fieldLink RX4 9 "Versorhall$Row" "numbers" "[I"]
def wsL_element : List Cond := .codeWith yL_element cL_element 4 (some .int) [(0, 10, 13, 30), (0, 10, 16, 21)] :: ((wsL_element_r1 ++ wsL_element_r2) ++ wsX70 ++ wsX60 ++ wsX10 ++ wsX00 ++ wsX40 ++ (vx_atS RX6 63 "java/lang/IllegalStateException" ["java/lang/RuntimeException", "java/lang/Exception"]).filter goodWord ++ (vx_atS RX6 280 "java/lang/IndexOutOfBoundsException" ["java/lang/RuntimeException", "java/lang/Exception"]).filter goodWord)
theorem dL_element_0 : decode cL_element 0 = .ok (.aload_n 2, 1) := by decide +kernel
theorem dL_element_1 : decode cL_element 1 = .ok (.aload_n 0, 1) := by decide +kernel
theorem dL_element_2 : decode cL_element 2 = .ok (.iload_n 1, 1) := by decide +kernel
set_option maxRecDepth 20000 in
theorem ggL_element_X6_element : GoodIn wsL_element wsX6_element := goodIn_ca (goodIn_ca (goodIn_r _ [7, 8, 9, 10, 11, 12, 13, 14, 15, 16, 17, 18, 6, 19, 20, 21, 22, 23, 24, 25, 26, 27, 28, 29, 30, 31, 32, 33, 34, 35, 36, 37, 38, 42, 43, 44, 45, 46, 47, 48, 49, 50, 51, 52, 53, 54, 55, 56, 57, 58, 59, 60, 61, 62, 63, 64] (by decide +kernel) (by decide +kernel)) (goodIn_sub (fun _ h => List.mem_cons_of_mem _ (List.mem_append_left _ (List.mem_append_right _ h))) (by decide +kernel))) (goodIn_sub (fun _ h => List.mem_cons_of_mem _ (List.mem_append_right _ h)) (by decide +kernel))
set_option maxRecDepth 20000 in
theorem gL_element_X6_element : GoodIn wsL_element (wsV RL 32 RX6 yX6_element wsX6_element) := goodIn_app (goodIn_of _ (by decide +kernel)) ggL_element_X6_element
theorem dL_element_3 : decode cL_element 3 = .ok (.invokevirtual 32, 3) := by decide +kernel
theorem dL_element_13 : decode cL_element 13 = .ok (.astore_n 3, 1) := by decide +kernel
theorem dL_element_14 : decode cL_element 14 = .ok (.iconst 1, 1) := by decide +kernel
theorem dL_element_15 : decode cL_element 15 = .ok (.ireturn, 1) := by decide +kernel
def wsL_set_r1 : List Cond := [Cond.classLink RL 30 "java/lang/IndexOutOfBoundsException", Cond.classLink RL 19 "java/lang/IllegalArgumentException", Cond.methodLink RL 35 yX6_set, Cond.instanceMethod yX6_set, Cond.selects RX6 yX6_set yX6_set, Cond.initialized RX6, Cond.code yX6_set cX6_set 6 (some .int), Cond.fieldLink RX6 99 "Versorhall$Element" "home" "LVersorhall$Algebra;", Cond.fieldLink RX6 110 "Versorhall$Element" "row" "LVersorhall$Row;", Cond.methodLink RX6 95 yX6_elementOf, Cond.instanceMethod yX6_elementOf, Cond.selects RX6 yX6_elementOf yX6_elementOf, Cond.code yX6_elementOf cX6_elementOf 3 (some (.object "Versorhall$Element")), Cond.classLink RX6 276 "java/lang/IndexOutOfBoundsException", Cond.initialized "java/lang/IndexOutOfBoundsException", Cond.methodLink RX6 360 yX6_elementOrNull, Cond.instanceMethod yX6_elementOrNull, Cond.selects RX6 yX6_elementOrNull yX6_elementOrNull, Cond.code yX6_elementOrNull cX6_elementOrNull 2 (some (.object "Versorhall$Element")), Cond.fieldLink RX6 24 "Versorhall" "elements" "[LVersorhall$Element;", Cond.methodLink RX6 103 yX6_demandUnit, Cond.static yX6_demandUnit, Cond.code yX6_demandUnit cX6_demandUnit 2 none, Cond.fieldLink RX6 87 "Versorhall$Algebra" "units" "I"]
def wsL_set_r2 : List Cond := [Cond.methodLink RX6 107 yX6_demandNumber, Cond.instanceMethod yX6_demandNumber, Cond.selects RX6 yX6_demandNumber yX6_demandNumber, Cond.code yX6_demandNumber cX6_demandNumber 2 none, Cond.classLink RX6 52 "java/lang/IllegalArgumentException", Cond.initialized "java/lang/IllegalArgumentException", Cond.fieldLink RX6 9 "Versorhall" "prime" "I", Cond.methodLink RX6 114 yX4_get, Cond.instanceMethod yX4_get, Cond.selects RX4 yX4_get yX4_get, Cond.initialized RX4, Cond.code yX4_get cX4_get 2 (some .int), Cond.fieldLink RX4 9 "Versorhall$Row" "numbers" "[I", Cond.methodLink RX6 120 yX4_put, Cond.instanceMethod yX4_put, Cond.selects RX4 yX4_put yX4_put, Cond.code yX4_put cX4_put 3 none]
def wsL_set : List Cond := .codeWith yL_set cL_set 6 (some .int) [(0, 13, 16, 30), (0, 13, 20, 19)] :: ((wsL_set_r1 ++ wsL_set_r2) ++ wsX70 ++ wsX10 ++ wsX60 ++ wsX00 ++ wsX40 ++ (vx_atS RX6 280 "java/lang/IndexOutOfBoundsException" ["java/lang/RuntimeException", "java/lang/Exception"]).filter goodWord ++ (vx_atS RX6 56 "java/lang/IllegalArgumentException" ["java/lang/RuntimeException", "java/lang/Exception"]).filter goodWord)
theorem dL_set_0 : decode cL_set 0 = .ok (.aload 4, 2) := by decide +kernel
theorem dL_set_2 : decode cL_set 2 = .ok (.aload_n 0, 1) := by decide +kernel
theorem dL_set_3 : decode cL_set 3 = .ok (.iload_n 1, 1) := by decide +kernel
theorem dL_set_4 : decode cL_set 4 = .ok (.iload_n 2, 1) := by decide +kernel
theorem dL_set_5 : decode cL_set 5 = .ok (.iload_n 3, 1) := by decide +kernel
set_option maxRecDepth 20000 in
theorem ggL_set_X6_set : GoodIn wsL_set wsX6_set := goodIn_ca (goodIn_ca (goodIn_r _ [7, 8, 9, 10, 11, 12, 6, 13, 14, 15, 16, 17, 18, 19, 20, 21, 22, 23, 24, 25, 26, 27, 28, 29, 30, 31, 32, 33, 34, 35, 36, 37, 38, 39, 40, 41, 45, 46, 47, 48, 49, 50, 51, 52, 53, 54, 55, 56, 57, 58, 59, 60, 61, 62, 63, 64, 65, 66, 67] (by decide +kernel) (by decide +kernel)) (goodIn_sub (fun _ h => List.mem_cons_of_mem _ (List.mem_append_left _ (List.mem_append_right _ h))) (by decide +kernel))) (goodIn_sub (fun _ h => List.mem_cons_of_mem _ (List.mem_append_right _ h)) (by decide +kernel))
set_option maxRecDepth 20000 in
theorem gL_set_X6_set : GoodIn wsL_set (wsV RL 35 RX6 yX6_set wsX6_set) := goodIn_app (goodIn_of _ (by decide +kernel)) ggL_set_X6_set
theorem dL_set_6 : decode cL_set 6 = .ok (.invokevirtual 35, 3) := by decide +kernel
theorem dL_set_16 : decode cL_set 16 = .ok (.astore 5, 2) := by decide +kernel
theorem dL_set_18 : decode cL_set 18 = .ok (.iconst 1, 1) := by decide +kernel
theorem dL_set_19 : decode cL_set 19 = .ok (.ireturn, 1) := by decide +kernel
def wsL_sum_r1 : List Cond := [Cond.classLink RL 30 "java/lang/IndexOutOfBoundsException", Cond.classLink RL 19 "java/lang/IllegalArgumentException", Cond.methodLink RL 39 yX6_sum, Cond.instanceMethod yX6_sum, Cond.selects RX6 yX6_sum yX6_sum, Cond.initialized RX6, Cond.code yX6_sum cX6_sum 7 (some .int), Cond.fieldLink RX6 99 "Versorhall$Element" "home" "LVersorhall$Algebra;", Cond.fieldLink RX6 110 "Versorhall$Element" "row" "LVersorhall$Row;", Cond.methodLink RX6 95 yX6_elementOf, Cond.instanceMethod yX6_elementOf, Cond.selects RX6 yX6_elementOf yX6_elementOf, Cond.code yX6_elementOf cX6_elementOf 3 (some (.object "Versorhall$Element")), Cond.classLink RX6 276 "java/lang/IndexOutOfBoundsException", Cond.initialized "java/lang/IndexOutOfBoundsException", Cond.methodLink RX6 360 yX6_elementOrNull, Cond.instanceMethod yX6_elementOrNull, Cond.selects RX6 yX6_elementOrNull yX6_elementOrNull, Cond.code yX6_elementOrNull cX6_elementOrNull 2 (some (.object "Versorhall$Element")), Cond.fieldLink RX6 24 "Versorhall" "elements" "[LVersorhall$Element;", Cond.methodLink RX6 124 yX6_demandOneAlgebra, Cond.static yX6_demandOneAlgebra, Cond.code yX6_demandOneAlgebra cX6_demandOneAlgebra 2 none, Cond.classLink RX6 52 "java/lang/IllegalArgumentException"]
def wsL_sum_r2 : List Cond := [Cond.initialized "java/lang/IllegalArgumentException", Cond.fieldLink RX6 217 "Versorhall$Algebra" "number" "I", Cond.methodLink RX6 128 yX0_add, Cond.instanceMethod yX0_add, Cond.selects RX0 yX0_add yX0_add, Cond.initialized RX0, Cond.code yX0_add cX0_add 6 none, Cond.methodLink RX0 90 yX4_get, Cond.instanceMethod yX4_get, Cond.selects RX4 yX4_get yX4_get, Cond.initialized RX4, Cond.code yX4_get cX4_get 2 (some .int), Cond.fieldLink RX4 9 "Versorhall$Row" "numbers" "[I", Cond.methodLink RX0 76 yX0_reduced, Cond.instanceMethod yX0_reduced, Cond.selects RX0 yX0_reduced yX0_reduced, Cond.code yX0_reduced cX0_reduced 3 (some .int), Cond.fieldLink RX0 51 "Versorhall$Algebra" "prime" "I", Cond.methodLink RX0 93 yX4_put, Cond.instanceMethod yX4_put, Cond.selects RX4 yX4_put yX4_put, Cond.code yX4_put cX4_put 3 none, Cond.methodLink RX6 132 yX4_size, Cond.instanceMethod yX4_size]
def wsL_sum_r3 : List Cond := [Cond.selects RX4 yX4_size yX4_size, Cond.code yX4_size cX4_size 6 (some .int)]
def wsL_sum : List Cond := .codeWith yL_sum cL_sum 6 (some .int) [(0, 13, 16, 30), (0, 13, 20, 19)] :: ((wsL_sum_r1 ++ (wsL_sum_r2 ++ wsL_sum_r3)) ++ wsX70 ++ wsX10 ++ wsX60 ++ wsX00 ++ wsX40 ++ (vx_atS RX6 280 "java/lang/IndexOutOfBoundsException" ["java/lang/RuntimeException", "java/lang/Exception"]).filter goodWord ++ (vx_atS RX6 56 "java/lang/IllegalArgumentException" ["java/lang/RuntimeException", "java/lang/Exception"]).filter goodWord)
theorem dL_sum_0 : decode cL_sum 0 = .ok (.aload 4, 2) := by decide +kernel
theorem dL_sum_2 : decode cL_sum 2 = .ok (.aload_n 0, 1) := by decide +kernel
theorem dL_sum_3 : decode cL_sum 3 = .ok (.iload_n 1, 1) := by decide +kernel
theorem dL_sum_4 : decode cL_sum 4 = .ok (.iload_n 2, 1) := by decide +kernel
theorem dL_sum_5 : decode cL_sum 5 = .ok (.iload_n 3, 1) := by decide +kernel
set_option maxRecDepth 20000 in
theorem ggL_sum_X6_sum : GoodIn wsL_sum wsX6_sum := goodIn_ca (goodIn_ca (goodIn_r _ [7, 8, 9, 10, 11, 12, 6, 13, 14, 15, 16, 17, 18, 19, 20, 21, 22, 23, 24, 25, 26, 27, 28, 29, 30, 31, 32, 33, 34, 35, 36, 37, 38, 39, 40, 41, 42, 43, 44, 45, 46, 47, 48, 49, 50, 54, 55, 56, 57, 58, 59, 60, 61, 62, 63, 64, 65, 66, 67, 68, 69, 70, 71, 72, 73, 74, 75, 76] (by decide +kernel) (by decide +kernel)) (goodIn_sub (fun _ h => List.mem_cons_of_mem _ (List.mem_append_left _ (List.mem_append_right _ h))) (by decide +kernel))) (goodIn_sub (fun _ h => List.mem_cons_of_mem _ (List.mem_append_right _ h)) (by decide +kernel))
set_option maxRecDepth 20000 in
theorem gL_sum_X6_sum : GoodIn wsL_sum (wsV RL 39 RX6 yX6_sum wsX6_sum) := goodIn_app (goodIn_of _ (by decide +kernel)) ggL_sum_X6_sum
theorem dL_sum_6 : decode cL_sum 6 = .ok (.invokevirtual 39, 3) := by decide +kernel
theorem dL_sum_16 : decode cL_sum 16 = .ok (.astore 5, 2) := by decide +kernel
theorem dL_sum_18 : decode cL_sum 18 = .ok (.iconst 1, 1) := by decide +kernel
theorem dL_sum_19 : decode cL_sum 19 = .ok (.ireturn, 1) := by decide +kernel
def wsL_product_r1 : List Cond := [Cond.classLink RL 30 "java/lang/IndexOutOfBoundsException", Cond.classLink RL 19 "java/lang/IllegalArgumentException", Cond.methodLink RL 42 yX6_product, Cond.instanceMethod yX6_product, Cond.selects RX6 yX6_product yX6_product, Cond.initialized RX6, Cond.code yX6_product cX6_product 7 (some .int), Cond.fieldLink RX6 99 "Versorhall$Element" "home" "LVersorhall$Algebra;", Cond.fieldLink RX6 110 "Versorhall$Element" "row" "LVersorhall$Row;", Cond.methodLink RX6 95 yX6_elementOf, Cond.instanceMethod yX6_elementOf, Cond.selects RX6 yX6_elementOf yX6_elementOf, Cond.code yX6_elementOf cX6_elementOf 3 (some (.object "Versorhall$Element")), Cond.classLink RX6 276 "java/lang/IndexOutOfBoundsException", Cond.initialized "java/lang/IndexOutOfBoundsException", Cond.methodLink RX6 360 yX6_elementOrNull, Cond.instanceMethod yX6_elementOrNull, Cond.selects RX6 yX6_elementOrNull yX6_elementOrNull, Cond.code yX6_elementOrNull cX6_elementOrNull 2 (some (.object "Versorhall$Element")), Cond.fieldLink RX6 24 "Versorhall" "elements" "[LVersorhall$Element;", Cond.methodLink RX6 124 yX6_demandOneAlgebra, Cond.static yX6_demandOneAlgebra, Cond.code yX6_demandOneAlgebra cX6_demandOneAlgebra 2 none, Cond.classLink RX6 52 "java/lang/IllegalArgumentException"]
def wsL_product_r2 : List Cond := [Cond.initialized "java/lang/IllegalArgumentException", Cond.fieldLink RX6 217 "Versorhall$Algebra" "number" "I", Cond.methodLink RX6 136 yX0_multiply, Cond.instanceMethod yX0_multiply, Cond.selects RX0 yX0_multiply yX0_multiply, Cond.initialized RX0, Cond.code yX0_multiply cX0_multiply 6 none, Cond.fieldLink RX0 41 "Versorhall$Algebra" "gathered" "LVersorhall$Row;", Cond.fieldLink RX0 15 "Versorhall$Algebra" "units" "I", Cond.methodLink RX0 96 yX4_becomeNumber, Cond.instanceMethod yX4_becomeNumber, Cond.selects RX4 yX4_becomeNumber yX4_becomeNumber, Cond.initialized RX4, Cond.code yX4_becomeNumber cX4_becomeNumber 3 none, Cond.fieldLink RX4 9 "Versorhall$Row" "numbers" "[I", Cond.methodLink RX0 90 yX4_get, Cond.instanceMethod yX4_get, Cond.selects RX4 yX4_get yX4_get, Cond.code yX4_get cX4_get 2 (some .int), Cond.methodLink RX0 100 yX0_gatherProducts, Cond.instanceMethod yX0_gatherProducts, Cond.selects RX0 yX0_gatherProducts yX0_gatherProducts, Cond.code yX0_gatherProducts cX0_gatherProducts 7 none, Cond.methodLink RX0 68 yX0_signOf]
def wsL_product_r3 : List Cond := [Cond.instanceMethod yX0_signOf, Cond.selects RX0 yX0_signOf yX0_signOf, Cond.code yX0_signOf cX0_signOf 4 (some .int), Cond.fieldLink RX0 32 "Versorhall$Algebra" "signs" "[I", Cond.methodLink RX0 93 yX4_put, Cond.instanceMethod yX4_put, Cond.selects RX4 yX4_put yX4_put, Cond.code yX4_put cX4_put 3 none, Cond.methodLink RX0 76 yX0_reduced, Cond.instanceMethod yX0_reduced, Cond.selects RX0 yX0_reduced yX0_reduced, Cond.code yX0_reduced cX0_reduced 3 (some .int), Cond.fieldLink RX0 51 "Versorhall$Algebra" "prime" "I", Cond.methodLink RX6 132 yX4_size, Cond.instanceMethod yX4_size, Cond.selects RX4 yX4_size yX4_size, Cond.code yX4_size cX4_size 6 (some .int)]
def wsL_product : List Cond := .codeWith yL_product cL_product 6 (some .int) [(0, 13, 16, 30), (0, 13, 20, 19)] :: ((wsL_product_r1 ++ (wsL_product_r2 ++ wsL_product_r3)) ++ wsX70 ++ wsX10 ++ wsX60 ++ wsX00 ++ wsX40 ++ (vx_atS RX6 280 "java/lang/IndexOutOfBoundsException" ["java/lang/RuntimeException", "java/lang/Exception"]).filter goodWord ++ (vx_atS RX6 56 "java/lang/IllegalArgumentException" ["java/lang/RuntimeException", "java/lang/Exception"]).filter goodWord)
theorem dL_product_0 : decode cL_product 0 = .ok (.aload 4, 2) := by decide +kernel
theorem dL_product_2 : decode cL_product 2 = .ok (.aload_n 0, 1) := by decide +kernel
theorem dL_product_3 : decode cL_product 3 = .ok (.iload_n 1, 1) := by decide +kernel
theorem dL_product_4 : decode cL_product 4 = .ok (.iload_n 2, 1) := by decide +kernel
theorem dL_product_5 : decode cL_product 5 = .ok (.iload_n 3, 1) := by decide +kernel
set_option maxRecDepth 20000 in
theorem ggL_product_X6_product : GoodIn wsL_product wsX6_product := goodIn_ca (goodIn_ca (goodIn_r _ [7, 8, 9, 10, 11, 12, 6, 13, 14, 15, 16, 17, 18, 19, 20, 21, 22, 23, 24, 25, 26, 27, 28, 29, 30, 31, 32, 33, 34, 35, 36, 37, 38, 39, 40, 41, 42, 43, 44, 45, 46, 47, 48, 49, 50, 51, 52, 53, 54, 55, 56, 57, 58, 59, 60, 61, 62, 63, 64, 65, 69, 70, 71, 72, 73, 74, 75, 76, 77, 78, 79, 80, 81, 82, 83, 84, 85, 86, 87, 88, 89, 90, 91] (by decide +kernel) (by decide +kernel)) (goodIn_sub (fun _ h => List.mem_cons_of_mem _ (List.mem_append_left _ (List.mem_append_right _ h))) (by decide +kernel))) (goodIn_sub (fun _ h => List.mem_cons_of_mem _ (List.mem_append_right _ h)) (by decide +kernel))
set_option maxRecDepth 20000 in
theorem gL_product_X6_product : GoodIn wsL_product (wsV RL 42 RX6 yX6_product wsX6_product) := goodIn_app (goodIn_of _ (by decide +kernel)) ggL_product_X6_product
theorem dL_product_6 : decode cL_product 6 = .ok (.invokevirtual 42, 3) := by decide +kernel
theorem dL_product_16 : decode cL_product 16 = .ok (.astore 5, 2) := by decide +kernel
theorem dL_product_18 : decode cL_product 18 = .ok (.iconst 1, 1) := by decide +kernel
theorem dL_product_19 : decode cL_product 19 = .ok (.ireturn, 1) := by decide +kernel
def wsL_scale_r1 : List Cond := [Cond.classLink RL 30 "java/lang/IndexOutOfBoundsException", Cond.classLink RL 19 "java/lang/IllegalArgumentException", Cond.methodLink RL 45 yX6_scale, Cond.instanceMethod yX6_scale, Cond.selects RX6 yX6_scale yX6_scale, Cond.initialized RX6, Cond.code yX6_scale cX6_scale 6 (some .int), Cond.fieldLink RX6 99 "Versorhall$Element" "home" "LVersorhall$Algebra;", Cond.fieldLink RX6 110 "Versorhall$Element" "row" "LVersorhall$Row;", Cond.methodLink RX6 95 yX6_elementOf, Cond.instanceMethod yX6_elementOf, Cond.selects RX6 yX6_elementOf yX6_elementOf, Cond.code yX6_elementOf cX6_elementOf 3 (some (.object "Versorhall$Element")), Cond.classLink RX6 276 "java/lang/IndexOutOfBoundsException", Cond.initialized "java/lang/IndexOutOfBoundsException", Cond.methodLink RX6 360 yX6_elementOrNull, Cond.instanceMethod yX6_elementOrNull, Cond.selects RX6 yX6_elementOrNull yX6_elementOrNull, Cond.code yX6_elementOrNull cX6_elementOrNull 2 (some (.object "Versorhall$Element")), Cond.fieldLink RX6 24 "Versorhall" "elements" "[LVersorhall$Element;", Cond.methodLink RX6 124 yX6_demandOneAlgebra, Cond.static yX6_demandOneAlgebra, Cond.code yX6_demandOneAlgebra cX6_demandOneAlgebra 2 none, Cond.classLink RX6 52 "java/lang/IllegalArgumentException"]
def wsL_scale_r2 : List Cond := [Cond.initialized "java/lang/IllegalArgumentException", Cond.fieldLink RX6 217 "Versorhall$Algebra" "number" "I", Cond.methodLink RX6 107 yX6_demandNumber, Cond.instanceMethod yX6_demandNumber, Cond.selects RX6 yX6_demandNumber yX6_demandNumber, Cond.code yX6_demandNumber cX6_demandNumber 2 none, Cond.fieldLink RX6 9 "Versorhall" "prime" "I", Cond.methodLink RX6 140 yX0_makeMultiple, Cond.instanceMethod yX0_makeMultiple, Cond.selects RX0 yX0_makeMultiple yX0_makeMultiple, Cond.initialized RX0, Cond.code yX0_makeMultiple cX0_makeMultiple 5 none, Cond.methodLink RX0 90 yX4_get, Cond.instanceMethod yX4_get, Cond.selects RX4 yX4_get yX4_get, Cond.initialized RX4, Cond.code yX4_get cX4_get 2 (some .int), Cond.fieldLink RX4 9 "Versorhall$Row" "numbers" "[I", Cond.methodLink RX0 76 yX0_reduced, Cond.instanceMethod yX0_reduced, Cond.selects RX0 yX0_reduced yX0_reduced, Cond.code yX0_reduced cX0_reduced 3 (some .int), Cond.fieldLink RX0 51 "Versorhall$Algebra" "prime" "I", Cond.methodLink RX0 93 yX4_put]
def wsL_scale_r3 : List Cond := [Cond.instanceMethod yX4_put, Cond.selects RX4 yX4_put yX4_put, Cond.code yX4_put cX4_put 3 none, Cond.methodLink RX6 132 yX4_size, Cond.instanceMethod yX4_size, Cond.selects RX4 yX4_size yX4_size, Cond.code yX4_size cX4_size 6 (some .int)]
def wsL_scale : List Cond := .codeWith yL_scale cL_scale 6 (some .int) [(0, 13, 16, 30), (0, 13, 20, 19)] :: ((wsL_scale_r1 ++ (wsL_scale_r2 ++ wsL_scale_r3)) ++ wsX70 ++ wsX10 ++ wsX60 ++ wsX00 ++ wsX40 ++ (vx_atS RX6 280 "java/lang/IndexOutOfBoundsException" ["java/lang/RuntimeException", "java/lang/Exception"]).filter goodWord ++ (vx_atS RX6 56 "java/lang/IllegalArgumentException" ["java/lang/RuntimeException", "java/lang/Exception"]).filter goodWord)
theorem dL_scale_0 : decode cL_scale 0 = .ok (.aload 4, 2) := by decide +kernel
theorem dL_scale_2 : decode cL_scale 2 = .ok (.aload_n 0, 1) := by decide +kernel
theorem dL_scale_3 : decode cL_scale 3 = .ok (.iload_n 1, 1) := by decide +kernel
theorem dL_scale_4 : decode cL_scale 4 = .ok (.iload_n 2, 1) := by decide +kernel
theorem dL_scale_5 : decode cL_scale 5 = .ok (.iload_n 3, 1) := by decide +kernel
set_option maxRecDepth 20000 in
theorem ggL_scale_X6_scale : GoodIn wsL_scale wsX6_scale := goodIn_ca (goodIn_ca (goodIn_r _ [7, 8, 9, 10, 11, 12, 6, 13, 14, 15, 16, 17, 18, 19, 20, 21, 22, 23, 24, 25, 26, 27, 28, 29, 30, 31, 32, 33, 34, 35, 36, 37, 38, 39, 40, 41, 42, 43, 44, 45, 46, 47, 48, 49, 50, 51, 52, 53, 54, 55, 59, 60, 61, 62, 63, 64, 65, 66, 67, 68, 69, 70, 71, 72, 73, 74, 75, 76, 77, 78, 79, 80, 81] (by decide +kernel) (by decide +kernel)) (goodIn_sub (fun _ h => List.mem_cons_of_mem _ (List.mem_append_left _ (List.mem_append_right _ h))) (by decide +kernel))) (goodIn_sub (fun _ h => List.mem_cons_of_mem _ (List.mem_append_right _ h)) (by decide +kernel))
set_option maxRecDepth 20000 in
theorem gL_scale_X6_scale : GoodIn wsL_scale (wsV RL 45 RX6 yX6_scale wsX6_scale) := goodIn_app (goodIn_of _ (by decide +kernel)) ggL_scale_X6_scale
theorem dL_scale_6 : decode cL_scale 6 = .ok (.invokevirtual 45, 3) := by decide +kernel
theorem dL_scale_16 : decode cL_scale 16 = .ok (.astore 5, 2) := by decide +kernel
theorem dL_scale_18 : decode cL_scale 18 = .ok (.iconst 1, 1) := by decide +kernel
theorem dL_scale_19 : decode cL_scale 19 = .ok (.ireturn, 1) := by decide +kernel
def wsL_conjugate_r1 : List Cond := [Cond.classLink RL 30 "java/lang/IndexOutOfBoundsException", Cond.classLink RL 19 "java/lang/IllegalArgumentException", Cond.methodLink RL 48 yX6_conjugate, Cond.instanceMethod yX6_conjugate, Cond.selects RX6 yX6_conjugate yX6_conjugate, Cond.initialized RX6, Cond.code yX6_conjugate cX6_conjugate 5 (some .int), Cond.fieldLink RX6 99 "Versorhall$Element" "home" "LVersorhall$Algebra;", Cond.fieldLink RX6 110 "Versorhall$Element" "row" "LVersorhall$Row;", Cond.methodLink RX6 95 yX6_elementOf, Cond.instanceMethod yX6_elementOf, Cond.selects RX6 yX6_elementOf yX6_elementOf, Cond.code yX6_elementOf cX6_elementOf 3 (some (.object "Versorhall$Element")), Cond.classLink RX6 276 "java/lang/IndexOutOfBoundsException", Cond.initialized "java/lang/IndexOutOfBoundsException", Cond.methodLink RX6 360 yX6_elementOrNull, Cond.instanceMethod yX6_elementOrNull, Cond.selects RX6 yX6_elementOrNull yX6_elementOrNull, Cond.code yX6_elementOrNull cX6_elementOrNull 2 (some (.object "Versorhall$Element")), Cond.fieldLink RX6 24 "Versorhall" "elements" "[LVersorhall$Element;", Cond.methodLink RX6 124 yX6_demandOneAlgebra, Cond.static yX6_demandOneAlgebra, Cond.code yX6_demandOneAlgebra cX6_demandOneAlgebra 2 none, Cond.classLink RX6 52 "java/lang/IllegalArgumentException"]
def wsL_conjugate_r2 : List Cond := [Cond.initialized "java/lang/IllegalArgumentException", Cond.fieldLink RX6 217 "Versorhall$Algebra" "number" "I", Cond.methodLink RX6 144 yX0_makeConjugate, Cond.instanceMethod yX0_makeConjugate, Cond.selects RX0 yX0_makeConjugate yX0_makeConjugate, Cond.initialized RX0, Cond.code yX0_makeConjugate cX0_makeConjugate 4 none, Cond.methodLink RX0 72 yX0_conjugateSign, Cond.instanceMethod yX0_conjugateSign, Cond.selects RX0 yX0_conjugateSign yX0_conjugateSign, Cond.code yX0_conjugateSign cX0_conjugateSign 3 (some .int), Cond.fieldLink RX0 48 "Versorhall$Algebra" "kind" "I", Cond.methodLink RX0 82 yJ6_bitCount_0f7a4, Cond.static yJ6_bitCount_0f7a4, Cond.initialized RJ6, Cond.code yJ6_bitCount_0f7a4 cJ6_bitCount_0f7a4 1 (some .int), Cond.constant RJ6 265 (1431655765), Cond.constant RJ6 266 (858993459), Cond.constant RJ6 267 (252645135), Cond.methodLink RX0 90 yX4_get, Cond.instanceMethod yX4_get, Cond.selects RX4 yX4_get yX4_get, Cond.initialized RX4, Cond.code yX4_get cX4_get 2 (some .int)]
def wsL_conjugate_r3 : List Cond := [Cond.fieldLink RX4 9 "Versorhall$Row" "numbers" "[I", Cond.methodLink RX0 76 yX0_reduced, Cond.instanceMethod yX0_reduced, Cond.selects RX0 yX0_reduced yX0_reduced, Cond.code yX0_reduced cX0_reduced 3 (some .int), Cond.fieldLink RX0 51 "Versorhall$Algebra" "prime" "I", Cond.methodLink RX0 93 yX4_put, Cond.instanceMethod yX4_put, Cond.selects RX4 yX4_put yX4_put, Cond.code yX4_put cX4_put 3 none, Cond.methodLink RX6 132 yX4_size, Cond.instanceMethod yX4_size, Cond.selects RX4 yX4_size yX4_size, Cond.code yX4_size cX4_size 6 (some .int)]
def wsL_conjugate : List Cond := .codeWith yL_conjugate cL_conjugate 5 (some .int) [(0, 11, 14, 30), (0, 11, 18, 19)] :: ((wsL_conjugate_r1 ++ (wsL_conjugate_r2 ++ wsL_conjugate_r3)) ++ wsX70 ++ wsX10 ++ wsX60 ++ wsX00 ++ wsX40 ++ (vx_atS RX6 280 "java/lang/IndexOutOfBoundsException" ["java/lang/RuntimeException", "java/lang/Exception"]).filter goodWord ++ (vx_atS RX6 56 "java/lang/IllegalArgumentException" ["java/lang/RuntimeException", "java/lang/Exception"]).filter goodWord)
theorem dL_conjugate_0 : decode cL_conjugate 0 = .ok (.aload_n 3, 1) := by decide +kernel
theorem dL_conjugate_1 : decode cL_conjugate 1 = .ok (.aload_n 0, 1) := by decide +kernel
theorem dL_conjugate_2 : decode cL_conjugate 2 = .ok (.iload_n 1, 1) := by decide +kernel
theorem dL_conjugate_3 : decode cL_conjugate 3 = .ok (.iload_n 2, 1) := by decide +kernel
set_option maxRecDepth 20000 in
theorem ggL_conjugate_X6_conjugate : GoodIn wsL_conjugate wsX6_conjugate := goodIn_ca (goodIn_ca (goodIn_r _ [7, 8, 9, 10, 11, 12, 6, 13, 14, 15, 16, 17, 18, 19, 20, 21, 22, 23, 24, 25, 26, 27, 28, 29, 30, 31, 32, 33, 34, 35, 36, 37, 38, 39, 40, 41, 42, 43, 44, 45, 46, 47, 48, 49, 50, 51, 52, 53, 54, 55, 56, 57, 58, 59, 60, 61, 62, 66, 67, 68, 69, 70, 71, 72, 73, 74, 75, 76, 77, 78, 79, 80, 81, 82, 83, 84, 85, 86, 87, 88] (by decide +kernel) (by decide +kernel)) (goodIn_sub (fun _ h => List.mem_cons_of_mem _ (List.mem_append_left _ (List.mem_append_right _ h))) (by decide +kernel))) (goodIn_sub (fun _ h => List.mem_cons_of_mem _ (List.mem_append_right _ h)) (by decide +kernel))
set_option maxRecDepth 20000 in
theorem gL_conjugate_X6_conjugate : GoodIn wsL_conjugate (wsV RL 48 RX6 yX6_conjugate wsX6_conjugate) := goodIn_app (goodIn_of _ (by decide +kernel)) ggL_conjugate_X6_conjugate
theorem dL_conjugate_4 : decode cL_conjugate 4 = .ok (.invokevirtual 48, 3) := by decide +kernel
theorem dL_conjugate_14 : decode cL_conjugate 14 = .ok (.astore 4, 2) := by decide +kernel
theorem dL_conjugate_16 : decode cL_conjugate 16 = .ok (.iconst 1, 1) := by decide +kernel
theorem dL_conjugate_17 : decode cL_conjugate 17 = .ok (.ireturn, 1) := by decide +kernel
def wsL_power_r1 : List Cond := [Cond.classLink RL 30 "java/lang/IndexOutOfBoundsException", Cond.classLink RL 19 "java/lang/IllegalArgumentException", Cond.methodLink RL 51 yX6_power, Cond.instanceMethod yX6_power, Cond.selects RX6 yX6_power yX6_power, Cond.initialized RX6, Cond.code yX6_power cX6_power 6 (some .int), Cond.classLink RX6 52 "java/lang/IllegalArgumentException", Cond.initialized "java/lang/IllegalArgumentException", Cond.fieldLink RX6 37 "Versorhall" "workshop" "LVersorhall$Workshop;", Cond.methodLink RX6 95 yX6_elementOf, Cond.instanceMethod yX6_elementOf, Cond.selects RX6 yX6_elementOf yX6_elementOf, Cond.code yX6_elementOf cX6_elementOf 3 (some (.object "Versorhall$Element")), Cond.classLink RX6 276 "java/lang/IndexOutOfBoundsException", Cond.initialized "java/lang/IndexOutOfBoundsException", Cond.methodLink RX6 360 yX6_elementOrNull, Cond.instanceMethod yX6_elementOrNull, Cond.selects RX6 yX6_elementOrNull yX6_elementOrNull, Cond.code yX6_elementOrNull cX6_elementOrNull 2 (some (.object "Versorhall$Element")), Cond.fieldLink RX6 24 "Versorhall" "elements" "[LVersorhall$Element;", Cond.methodLink RX6 124 yX6_demandOneAlgebra, Cond.static yX6_demandOneAlgebra, Cond.code yX6_demandOneAlgebra cX6_demandOneAlgebra 2 none]
def wsL_power_r2 : List Cond := [Cond.fieldLink RX6 99 "Versorhall$Element" "home" "LVersorhall$Algebra;", Cond.fieldLink RX6 217 "Versorhall$Algebra" "number" "I", Cond.methodLink RX6 150 yX5_makePower, Cond.instanceMethod yX5_makePower, Cond.selects RX5 yX5_makePower yX5_makePower, Cond.initialized RX5, Cond.code yX5_makePower cX5_makePower 4 none, Cond.fieldLink RX5 12 "Versorhall$Workshop" "result" "LVersorhall$Row;", Cond.fieldLink RX5 32 "Versorhall$Element" "home" "LVersorhall$Algebra;", Cond.fieldLink RX5 38 "Versorhall$Element" "row" "LVersorhall$Row;", Cond.methodLink RX5 28 yX4_becomeNumber, Cond.instanceMethod yX4_becomeNumber, Cond.selects RX4 yX4_becomeNumber yX4_becomeNumber, Cond.initialized RX4, Cond.code yX4_becomeNumber cX4_becomeNumber 3 none, Cond.fieldLink RX4 9 "Versorhall$Row" "numbers" "[I", Cond.methodLink RX5 41 yX0_multiply, Cond.instanceMethod yX0_multiply, Cond.selects RX0 yX0_multiply yX0_multiply, Cond.initialized RX0, Cond.code yX0_multiply cX0_multiply 6 none, Cond.fieldLink RX0 41 "Versorhall$Algebra" "gathered" "LVersorhall$Row;", Cond.fieldLink RX0 15 "Versorhall$Algebra" "units" "I", Cond.methodLink RX0 96 yX4_becomeNumber]
def wsL_power_r3 : List Cond := [Cond.methodLink RX0 90 yX4_get, Cond.instanceMethod yX4_get, Cond.selects RX4 yX4_get yX4_get, Cond.code yX4_get cX4_get 2 (some .int), Cond.methodLink RX0 100 yX0_gatherProducts, Cond.instanceMethod yX0_gatherProducts, Cond.selects RX0 yX0_gatherProducts yX0_gatherProducts, Cond.code yX0_gatherProducts cX0_gatherProducts 7 none, Cond.methodLink RX0 68 yX0_signOf, Cond.instanceMethod yX0_signOf, Cond.selects RX0 yX0_signOf yX0_signOf, Cond.code yX0_signOf cX0_signOf 4 (some .int), Cond.fieldLink RX0 32 "Versorhall$Algebra" "signs" "[I", Cond.methodLink RX0 93 yX4_put, Cond.instanceMethod yX4_put, Cond.selects RX4 yX4_put yX4_put, Cond.code yX4_put cX4_put 3 none, Cond.methodLink RX0 76 yX0_reduced, Cond.instanceMethod yX0_reduced, Cond.selects RX0 yX0_reduced yX0_reduced, Cond.code yX0_reduced cX0_reduced 3 (some .int), Cond.fieldLink RX0 51 "Versorhall$Algebra" "prime" "I", Cond.methodLink RX6 154 yX6_keep, Cond.instanceMethod yX6_keep]
def wsL_power_r4 : List Cond := [Cond.selects RX6 yX6_keep yX6_keep, Cond.code yX6_keep cX6_keep 2 (some .int), Cond.fieldLink RX6 110 "Versorhall$Element" "row" "LVersorhall$Row;", Cond.fieldLink RX6 309 "Versorhall$Workshop" "result" "LVersorhall$Row;", Cond.methodLink RX6 213 yX4_become, Cond.instanceMethod yX4_become, Cond.selects RX4 yX4_become yX4_become, Cond.code yX4_become cX4_become 3 none, Cond.methodLink RX4 15 yX4_get, Cond.methodLink RX6 132 yX4_size, Cond.instanceMethod yX4_size, Cond.selects RX4 yX4_size yX4_size, Cond.code yX4_size cX4_size 6 (some .int)]
def wsL_power : List Cond := .codeWith yL_power cL_power 6 (some .int) [(0, 13, 16, 30), (0, 13, 20, 19)] :: ((wsL_power_r1 ++ (wsL_power_r2 ++ (wsL_power_r3 ++ wsL_power_r4))) ++ wsX70 ++ wsX60 ++ wsX10 ++ wsX00 ++ wsX50 ++ wsX40 ++ (vx_atS RX6 56 "java/lang/IllegalArgumentException" ["java/lang/RuntimeException", "java/lang/Exception"]).filter goodWord ++ (vx_atS RX6 280 "java/lang/IndexOutOfBoundsException" ["java/lang/RuntimeException", "java/lang/Exception"]).filter goodWord)
theorem dL_power_0 : decode cL_power 0 = .ok (.aload 4, 2) := by decide +kernel
theorem dL_power_2 : decode cL_power 2 = .ok (.aload_n 0, 1) := by decide +kernel
theorem dL_power_3 : decode cL_power 3 = .ok (.iload_n 1, 1) := by decide +kernel
theorem dL_power_4 : decode cL_power 4 = .ok (.iload_n 2, 1) := by decide +kernel
theorem dL_power_5 : decode cL_power 5 = .ok (.iload_n 3, 1) := by decide +kernel
set_option maxRecDepth 20000 in
theorem ggL_power_X6_power : GoodIn wsL_power wsX6_power := goodIn_ca (goodIn_ca (goodIn_r _ [7, 8, 9, 10, 11, 12, 13, 6, 14, 15, 16, 17, 18, 19, 20, 21, 22, 23, 24, 25, 26, 27, 28, 29, 30, 31, 32, 33, 34, 35, 36, 37, 38, 39, 40, 41, 42, 43, 44, 45, 46, 47, 48, 49, 50, 51, 52, 53, 54, 55, 56, 57, 58, 59, 60, 61, 62, 63, 64, 65, 66, 67, 68, 69, 70, 71, 72, 73, 74, 75, 76, 77, 78, 79, 80, 81, 82, 83, 84, 85, 89, 90, 91, 92, 93, 94, 95, 96, 97, 98, 99, 100, 101, 102, 103, 104, 105, 106, 107, 108, 109, 110, 111, 112, 113, 114] (by decide +kernel) (by decide +kernel)) (goodIn_sub (fun _ h => List.mem_cons_of_mem _ (List.mem_append_left _ (List.mem_append_right _ h))) (by decide +kernel))) (goodIn_sub (fun _ h => List.mem_cons_of_mem _ (List.mem_append_right _ h)) (by decide +kernel))
set_option maxRecDepth 20000 in
theorem gL_power_X6_power : GoodIn wsL_power (wsV RL 51 RX6 yX6_power wsX6_power) := goodIn_app (goodIn_of _ (by decide +kernel)) ggL_power_X6_power
theorem dL_power_6 : decode cL_power 6 = .ok (.invokevirtual 51, 3) := by decide +kernel
theorem dL_power_16 : decode cL_power 16 = .ok (.astore 5, 2) := by decide +kernel
theorem dL_power_18 : decode cL_power 18 = .ok (.iconst 1, 1) := by decide +kernel
theorem dL_power_19 : decode cL_power 19 = .ok (.ireturn, 1) := by decide +kernel
def wsL_invert_r1 : List Cond := [Cond.classLink RL 30 "java/lang/IndexOutOfBoundsException", Cond.classLink RL 19 "java/lang/IllegalArgumentException", Cond.classLink RL 21 "java/lang/IllegalStateException", Cond.methodLink RL 54 yX6_invert, Cond.instanceMethod yX6_invert, Cond.selects RX6 yX6_invert yX6_invert, Cond.initialized RX6, Cond.code yX6_invert cX6_invert 5 (some .int), Cond.classLink RX6 59 "java/lang/IllegalStateException", Cond.initialized "java/lang/IllegalStateException", Cond.fieldLink RX6 37 "Versorhall" "workshop" "LVersorhall$Workshop;", Cond.methodLink RX6 95 yX6_elementOf, Cond.instanceMethod yX6_elementOf, Cond.selects RX6 yX6_elementOf yX6_elementOf, Cond.code yX6_elementOf cX6_elementOf 3 (some (.object "Versorhall$Element")), Cond.classLink RX6 276 "java/lang/IndexOutOfBoundsException", Cond.initialized "java/lang/IndexOutOfBoundsException", Cond.methodLink RX6 360 yX6_elementOrNull, Cond.instanceMethod yX6_elementOrNull, Cond.selects RX6 yX6_elementOrNull yX6_elementOrNull, Cond.code yX6_elementOrNull cX6_elementOrNull 2 (some (.object "Versorhall$Element")), Cond.fieldLink RX6 24 "Versorhall" "elements" "[LVersorhall$Element;", Cond.methodLink RX6 124 yX6_demandOneAlgebra, Cond.static yX6_demandOneAlgebra]
def wsL_invert_r2 : List Cond := [Cond.code yX6_demandOneAlgebra cX6_demandOneAlgebra 2 none, Cond.classLink RX6 52 "java/lang/IllegalArgumentException", Cond.initialized "java/lang/IllegalArgumentException", Cond.fieldLink RX6 99 "Versorhall$Element" "home" "LVersorhall$Algebra;", Cond.fieldLink RX6 217 "Versorhall$Algebra" "number" "I", Cond.methodLink RX6 158 yX5_makeInverse, Cond.instanceMethod yX5_makeInverse, Cond.selects RX5 yX5_makeInverse yX5_makeInverse, Cond.initialized RX5, Cond.code yX5_makeInverse cX5_makeInverse 4 (some .boolean), Cond.fieldLink RX5 32 "Versorhall$Element" "home" "LVersorhall$Algebra;", Cond.fieldLink RX5 12 "Versorhall$Workshop" "result" "LVersorhall$Row;", Cond.fieldLink RX5 38 "Versorhall$Element" "row" "LVersorhall$Row;", Cond.fieldLink RX5 18 "Versorhall$Workshop" "work" "LVersorhall$Row;", Cond.methodLink RX5 55 yX0_makeConjugate, Cond.instanceMethod yX0_makeConjugate, Cond.selects RX0 yX0_makeConjugate yX0_makeConjugate, Cond.initialized RX0, Cond.code yX0_makeConjugate cX0_makeConjugate 4 none, Cond.methodLink RX0 72 yX0_conjugateSign, Cond.instanceMethod yX0_conjugateSign, Cond.selects RX0 yX0_conjugateSign yX0_conjugateSign, Cond.code yX0_conjugateSign cX0_conjugateSign 3 (some .int), Cond.fieldLink RX0 48 "Versorhall$Algebra" "kind" "I"]
def wsL_invert_r3 : List Cond := [Cond.methodLink RX0 82 yJ6_bitCount_0f7a4, Cond.static yJ6_bitCount_0f7a4, Cond.initialized RJ6, Cond.code yJ6_bitCount_0f7a4 cJ6_bitCount_0f7a4 1 (some .int), Cond.constant RJ6 265 (1431655765), Cond.constant RJ6 266 (858993459), Cond.constant RJ6 267 (252645135), Cond.methodLink RX0 90 yX4_get, Cond.instanceMethod yX4_get, Cond.selects RX4 yX4_get yX4_get, Cond.initialized RX4, Cond.code yX4_get cX4_get 2 (some .int), Cond.fieldLink RX4 9 "Versorhall$Row" "numbers" "[I", Cond.methodLink RX0 76 yX0_reduced, Cond.instanceMethod yX0_reduced, Cond.selects RX0 yX0_reduced yX0_reduced, Cond.code yX0_reduced cX0_reduced 3 (some .int), Cond.fieldLink RX0 51 "Versorhall$Algebra" "prime" "I", Cond.methodLink RX0 93 yX4_put, Cond.instanceMethod yX4_put, Cond.selects RX4 yX4_put yX4_put, Cond.code yX4_put cX4_put 3 none, Cond.methodLink RX5 41 yX0_multiply, Cond.instanceMethod yX0_multiply]
def wsL_invert_r4 : List Cond := [Cond.selects RX0 yX0_multiply yX0_multiply, Cond.code yX0_multiply cX0_multiply 6 none, Cond.fieldLink RX0 41 "Versorhall$Algebra" "gathered" "LVersorhall$Row;", Cond.fieldLink RX0 15 "Versorhall$Algebra" "units" "I", Cond.methodLink RX0 96 yX4_becomeNumber, Cond.instanceMethod yX4_becomeNumber, Cond.selects RX4 yX4_becomeNumber yX4_becomeNumber, Cond.code yX4_becomeNumber cX4_becomeNumber 3 none, Cond.methodLink RX0 100 yX0_gatherProducts, Cond.instanceMethod yX0_gatherProducts, Cond.selects RX0 yX0_gatherProducts yX0_gatherProducts, Cond.code yX0_gatherProducts cX0_gatherProducts 7 none, Cond.methodLink RX0 68 yX0_signOf, Cond.instanceMethod yX0_signOf, Cond.selects RX0 yX0_signOf yX0_signOf, Cond.code yX0_signOf cX0_signOf 4 (some .int), Cond.fieldLink RX0 32 "Versorhall$Algebra" "signs" "[I", Cond.methodLink RX5 63 yX4_get, Cond.methodLink RX5 67 yX4_isPlain, Cond.instanceMethod yX4_isPlain, Cond.selects RX4 yX4_isPlain yX4_isPlain, Cond.code yX4_isPlain cX4_isPlain 2 (some .boolean), Cond.methodLink RX5 71 yX0_inverseNumber, Cond.instanceMethod yX0_inverseNumber]
def wsL_invert_r5 : List Cond := [Cond.selects RX0 yX0_inverseNumber yX0_inverseNumber, Cond.code yX0_inverseNumber cX0_inverseNumber 3 (some .int), Cond.methodLink RX5 74 yX0_makeMultiple, Cond.instanceMethod yX0_makeMultiple, Cond.selects RX0 yX0_makeMultiple yX0_makeMultiple, Cond.code yX0_makeMultiple cX0_makeMultiple 5 none, Cond.methodLink RX6 154 yX6_keep, Cond.instanceMethod yX6_keep, Cond.selects RX6 yX6_keep yX6_keep, Cond.code yX6_keep cX6_keep 2 (some .int), Cond.fieldLink RX6 110 "Versorhall$Element" "row" "LVersorhall$Row;", Cond.fieldLink RX6 309 "Versorhall$Workshop" "result" "LVersorhall$Row;", Cond.methodLink RX6 213 yX4_become, Cond.instanceMethod yX4_become, Cond.selects RX4 yX4_become yX4_become, Cond.code yX4_become cX4_become 3 none, Cond.methodLink RX4 15 yX4_get, Cond.methodLink RX6 132 yX4_size, Cond.instanceMethod yX4_size, Cond.selects RX4 yX4_size yX4_size, Cond.code yX4_size cX4_size 6 (some .int)]
def wsL_invert : List Cond := .codeWith yL_invert cL_invert 5 (some .int) [(0, 11, 14, 30), (0, 11, 18, 19), (0, 11, 22, 21)] :: ((wsL_invert_r1 ++ (wsL_invert_r2 ++ (wsL_invert_r3 ++ (wsL_invert_r4 ++ wsL_invert_r5)))) ++ wsX70 ++ wsX60 ++ wsX10 ++ wsX00 ++ wsX50 ++ wsX40 ++ (vx_atS RX6 63 "java/lang/IllegalStateException" ["java/lang/RuntimeException", "java/lang/Exception"]).filter goodWord ++ (vx_atS RX6 280 "java/lang/IndexOutOfBoundsException" ["java/lang/RuntimeException", "java/lang/Exception"]).filter goodWord ++ (vx_atS RX6 56 "java/lang/IllegalArgumentException" ["java/lang/RuntimeException", "java/lang/Exception"]).filter goodWord)
theorem dL_invert_0 : decode cL_invert 0 = .ok (.aload_n 3, 1) := by decide +kernel
theorem dL_invert_1 : decode cL_invert 1 = .ok (.aload_n 0, 1) := by decide +kernel
theorem dL_invert_2 : decode cL_invert 2 = .ok (.iload_n 1, 1) := by decide +kernel
theorem dL_invert_3 : decode cL_invert 3 = .ok (.iload_n 2, 1) := by decide +kernel
set_option maxRecDepth 20000 in
theorem ggL_invert_X6_invert : GoodIn wsL_invert wsX6_invert := goodIn_ca (goodIn_ca (goodIn_ca (goodIn_r _ [8, 9, 10, 11, 12, 13, 14, 7, 15, 16, 17, 18, 19, 20, 21, 22, 23, 24, 25, 26, 27, 28, 29, 30, 31, 32, 33, 34, 35, 36, 37, 38, 39, 40, 41, 42, 43, 44, 45, 46, 47, 48, 49, 50, 51, 52, 53, 54, 55, 56, 57, 58, 59, 60, 61, 62, 63, 64, 65, 66, 67, 68, 69, 70, 71, 72, 73, 74, 75, 76, 77, 78, 79, 80, 81, 82, 83, 84, 85, 86, 87, 88, 89, 90, 91, 92, 93, 94, 95, 96, 97, 98, 99, 100, 101, 102, 103, 104, 105, 106, 107, 108, 109, 110, 111, 112, 113, 114, 115, 116, 117, 121, 122, 123, 124, 125, 126, 127, 128, 129, 130, 131, 132, 133, 134, 135, 136, 137, 138, 139, 140, 141, 142, 143, 144, 145, 146] (by decide +kernel) (by decide +kernel)) (goodIn_sub (fun _ h => List.mem_cons_of_mem _ (List.mem_append_left _ (List.mem_append_left _ (List.mem_append_right _ h)))) (by decide +kernel))) (goodIn_sub (fun _ h => List.mem_cons_of_mem _ (List.mem_append_left _ (List.mem_append_right _ h))) (by decide +kernel))) (goodIn_sub (fun _ h => List.mem_cons_of_mem _ (List.mem_append_right _ h)) (by decide +kernel))
set_option maxRecDepth 20000 in
theorem gL_invert_X6_invert : GoodIn wsL_invert (wsV RL 54 RX6 yX6_invert wsX6_invert) := goodIn_app (goodIn_of _ (by decide +kernel)) ggL_invert_X6_invert
theorem dL_invert_4 : decode cL_invert 4 = .ok (.invokevirtual 54, 3) := by decide +kernel
theorem dL_invert_14 : decode cL_invert 14 = .ok (.astore 4, 2) := by decide +kernel
theorem dL_invert_16 : decode cL_invert 16 = .ok (.iconst 1, 1) := by decide +kernel
theorem dL_invert_17 : decode cL_invert 17 = .ok (.ireturn, 1) := by decide +kernel
def wsL_series_r1 : List Cond := [Cond.classLink RL 30 "java/lang/IndexOutOfBoundsException", Cond.classLink RL 19 "java/lang/IllegalArgumentException", Cond.classLink RL 21 "java/lang/IllegalStateException", Cond.methodLink RL 57 yX6_series, Cond.instanceMethod yX6_series, Cond.selects RX6 yX6_series yX6_series, Cond.initialized RX6, Cond.code yX6_series cX6_series 5 (some .int), Cond.classLink RX6 59 "java/lang/IllegalStateException", Cond.initialized "java/lang/IllegalStateException", Cond.fieldLink RX6 37 "Versorhall" "workshop" "LVersorhall$Workshop;", Cond.methodLink RX6 95 yX6_elementOf, Cond.instanceMethod yX6_elementOf, Cond.selects RX6 yX6_elementOf yX6_elementOf, Cond.code yX6_elementOf cX6_elementOf 3 (some (.object "Versorhall$Element")), Cond.classLink RX6 276 "java/lang/IndexOutOfBoundsException", Cond.initialized "java/lang/IndexOutOfBoundsException", Cond.methodLink RX6 360 yX6_elementOrNull, Cond.instanceMethod yX6_elementOrNull, Cond.selects RX6 yX6_elementOrNull yX6_elementOrNull, Cond.code yX6_elementOrNull cX6_elementOrNull 2 (some (.object "Versorhall$Element")), Cond.fieldLink RX6 24 "Versorhall" "elements" "[LVersorhall$Element;", Cond.methodLink RX6 124 yX6_demandOneAlgebra, Cond.static yX6_demandOneAlgebra]
def wsL_series_r2 : List Cond := [Cond.code yX6_demandOneAlgebra cX6_demandOneAlgebra 2 none, Cond.classLink RX6 52 "java/lang/IllegalArgumentException", Cond.initialized "java/lang/IllegalArgumentException", Cond.fieldLink RX6 99 "Versorhall$Element" "home" "LVersorhall$Algebra;", Cond.fieldLink RX6 217 "Versorhall$Algebra" "number" "I", Cond.methodLink RX6 164 yX5_makeSeries, Cond.instanceMethod yX5_makeSeries, Cond.selects RX5 yX5_makeSeries yX5_makeSeries, Cond.initialized RX5, Cond.code yX5_makeSeries cX5_makeSeries 6 (some .boolean), Cond.fieldLink RX5 32 "Versorhall$Element" "home" "LVersorhall$Algebra;", Cond.fieldLink RX5 78 "Versorhall$Algebra" "prime" "I", Cond.fieldLink RX5 12 "Versorhall$Workshop" "result" "LVersorhall$Row;", Cond.fieldLink RX5 18 "Versorhall$Workshop" "work" "LVersorhall$Row;", Cond.fieldLink RX5 38 "Versorhall$Element" "row" "LVersorhall$Row;", Cond.methodLink RX5 82 yX5_firstPowerThatIs, Cond.instanceMethod yX5_firstPowerThatIs, Cond.selects RX5 yX5_firstPowerThatIs yX5_firstPowerThatIs, Cond.code yX5_firstPowerThatIs cX5_firstPowerThatIs 5 (some .int), Cond.methodLink RX5 28 yX4_becomeNumber, Cond.instanceMethod yX4_becomeNumber, Cond.selects RX4 yX4_becomeNumber yX4_becomeNumber, Cond.initialized RX4, Cond.code yX4_becomeNumber cX4_becomeNumber 3 none]
def wsL_series_r3 : List Cond := [Cond.fieldLink RX4 9 "Versorhall$Row" "numbers" "[I", Cond.methodLink RX5 41 yX0_multiply, Cond.instanceMethod yX0_multiply, Cond.selects RX0 yX0_multiply yX0_multiply, Cond.initialized RX0, Cond.code yX0_multiply cX0_multiply 6 none, Cond.fieldLink RX0 41 "Versorhall$Algebra" "gathered" "LVersorhall$Row;", Cond.fieldLink RX0 15 "Versorhall$Algebra" "units" "I", Cond.methodLink RX0 96 yX4_becomeNumber, Cond.methodLink RX0 90 yX4_get, Cond.instanceMethod yX4_get, Cond.selects RX4 yX4_get yX4_get, Cond.code yX4_get cX4_get 2 (some .int), Cond.methodLink RX0 100 yX0_gatherProducts, Cond.instanceMethod yX0_gatherProducts, Cond.selects RX0 yX0_gatherProducts yX0_gatherProducts, Cond.code yX0_gatherProducts cX0_gatherProducts 7 none, Cond.methodLink RX0 68 yX0_signOf, Cond.instanceMethod yX0_signOf, Cond.selects RX0 yX0_signOf yX0_signOf, Cond.code yX0_signOf cX0_signOf 4 (some .int), Cond.fieldLink RX0 32 "Versorhall$Algebra" "signs" "[I", Cond.methodLink RX0 93 yX4_put, Cond.instanceMethod yX4_put]
def wsL_series_r4 : List Cond := [Cond.selects RX4 yX4_put yX4_put, Cond.code yX4_put cX4_put 3 none, Cond.methodLink RX0 76 yX0_reduced, Cond.instanceMethod yX0_reduced, Cond.selects RX0 yX0_reduced yX0_reduced, Cond.code yX0_reduced cX0_reduced 3 (some .int), Cond.fieldLink RX0 51 "Versorhall$Algebra" "prime" "I", Cond.methodLink RX5 47 yX4_isNumber, Cond.instanceMethod yX4_isNumber, Cond.selects RX4 yX4_isNumber yX4_isNumber, Cond.code yX4_isNumber cX4_isNumber 2 (some .boolean), Cond.methodLink RX4 15 yX4_get, Cond.methodLink RX4 19 yX4_isPlain, Cond.instanceMethod yX4_isPlain, Cond.selects RX4 yX4_isPlain yX4_isPlain, Cond.code yX4_isPlain cX4_isPlain 2 (some .boolean), Cond.methodLink RX5 71 yX0_inverseNumber, Cond.instanceMethod yX0_inverseNumber, Cond.selects RX0 yX0_inverseNumber yX0_inverseNumber, Cond.code yX0_inverseNumber cX0_inverseNumber 3 (some .int), Cond.methodLink RX5 86 yX0_reduced, Cond.methodLink RX5 51 yX0_add, Cond.instanceMethod yX0_add, Cond.selects RX0 yX0_add yX0_add]
def wsL_series_r5 : List Cond := [Cond.code yX0_add cX0_add 6 none, Cond.methodLink RX6 154 yX6_keep, Cond.instanceMethod yX6_keep, Cond.selects RX6 yX6_keep yX6_keep, Cond.code yX6_keep cX6_keep 2 (some .int), Cond.fieldLink RX6 110 "Versorhall$Element" "row" "LVersorhall$Row;", Cond.fieldLink RX6 309 "Versorhall$Workshop" "result" "LVersorhall$Row;", Cond.methodLink RX6 213 yX4_become, Cond.instanceMethod yX4_become, Cond.selects RX4 yX4_become yX4_become, Cond.code yX4_become cX4_become 3 none, Cond.methodLink RX6 132 yX4_size, Cond.instanceMethod yX4_size, Cond.selects RX4 yX4_size yX4_size, Cond.code yX4_size cX4_size 6 (some .int)]
def wsL_series : List Cond := .codeWith yL_series cL_series 5 (some .int) [(0, 11, 14, 30), (0, 11, 18, 19), (0, 11, 22, 21)] :: ((wsL_series_r1 ++ (wsL_series_r2 ++ (wsL_series_r3 ++ (wsL_series_r4 ++ wsL_series_r5)))) ++ wsX70 ++ wsX60 ++ wsX10 ++ wsX00 ++ wsX50 ++ wsX40 ++ (vx_atS RX6 63 "java/lang/IllegalStateException" ["java/lang/RuntimeException", "java/lang/Exception"]).filter goodWord ++ (vx_atS RX6 280 "java/lang/IndexOutOfBoundsException" ["java/lang/RuntimeException", "java/lang/Exception"]).filter goodWord ++ (vx_atS RX6 56 "java/lang/IllegalArgumentException" ["java/lang/RuntimeException", "java/lang/Exception"]).filter goodWord)
theorem dL_series_0 : decode cL_series 0 = .ok (.aload_n 3, 1) := by decide +kernel
theorem dL_series_1 : decode cL_series 1 = .ok (.aload_n 0, 1) := by decide +kernel
theorem dL_series_2 : decode cL_series 2 = .ok (.iload_n 1, 1) := by decide +kernel
theorem dL_series_3 : decode cL_series 3 = .ok (.iload_n 2, 1) := by decide +kernel
set_option maxRecDepth 20000 in
theorem ggL_series_X6_series : GoodIn wsL_series wsX6_series := goodIn_ca (goodIn_ca (goodIn_ca (goodIn_r _ [8, 9, 10, 11, 12, 13, 14, 7, 15, 16, 17, 18, 19, 20, 21, 22, 23, 24, 25, 26, 27, 28, 29, 30, 31, 32, 33, 34, 35, 36, 37, 38, 39, 40, 41, 42, 43, 44, 45, 46, 47, 48, 49, 50, 51, 52, 53, 54, 55, 56, 57, 58, 59, 60, 61, 62, 63, 64, 65, 66, 67, 68, 69, 70, 71, 72, 73, 74, 75, 76, 77, 78, 79, 80, 81, 82, 83, 84, 85, 86, 87, 88, 89, 90, 91, 92, 93, 94, 95, 96, 97, 98, 99, 100, 101, 102, 103, 104, 105, 106, 107, 108, 109, 110, 111, 115, 116, 117, 118, 119, 120, 121, 122, 123, 124, 125, 126, 127, 128, 129, 130, 131, 132, 133, 134, 135, 136, 137, 138, 139, 140] (by decide +kernel) (by decide +kernel)) (goodIn_sub (fun _ h => List.mem_cons_of_mem _ (List.mem_append_left _ (List.mem_append_left _ (List.mem_append_right _ h)))) (by decide +kernel))) (goodIn_sub (fun _ h => List.mem_cons_of_mem _ (List.mem_append_left _ (List.mem_append_right _ h))) (by decide +kernel))) (goodIn_sub (fun _ h => List.mem_cons_of_mem _ (List.mem_append_right _ h)) (by decide +kernel))
set_option maxRecDepth 20000 in
theorem gL_series_X6_series : GoodIn wsL_series (wsV RL 57 RX6 yX6_series wsX6_series) := goodIn_app (goodIn_of _ (by decide +kernel)) ggL_series_X6_series
theorem dL_series_4 : decode cL_series 4 = .ok (.invokevirtual 57, 3) := by decide +kernel
theorem dL_series_14 : decode cL_series 14 = .ok (.astore 4, 2) := by decide +kernel
theorem dL_series_16 : decode cL_series 16 = .ok (.iconst 1, 1) := by decide +kernel
theorem dL_series_17 : decode cL_series 17 = .ok (.ireturn, 1) := by decide +kernel
def wsL_killer_r1 : List Cond := [Cond.classLink RL 30 "java/lang/IndexOutOfBoundsException", Cond.classLink RL 19 "java/lang/IllegalArgumentException", Cond.classLink RL 21 "java/lang/IllegalStateException", Cond.methodLink RL 60 yX6_killer, Cond.instanceMethod yX6_killer, Cond.selects RX6 yX6_killer yX6_killer, Cond.initialized RX6, Cond.code yX6_killer cX6_killer 6 (some .int), Cond.classLink RX6 59 "java/lang/IllegalStateException", Cond.initialized "java/lang/IllegalStateException", Cond.fieldLink RX6 37 "Versorhall" "workshop" "LVersorhall$Workshop;", Cond.methodLink RX6 95 yX6_elementOf, Cond.instanceMethod yX6_elementOf, Cond.selects RX6 yX6_elementOf yX6_elementOf, Cond.code yX6_elementOf cX6_elementOf 3 (some (.object "Versorhall$Element")), Cond.classLink RX6 276 "java/lang/IndexOutOfBoundsException", Cond.initialized "java/lang/IndexOutOfBoundsException", Cond.methodLink RX6 360 yX6_elementOrNull, Cond.instanceMethod yX6_elementOrNull, Cond.selects RX6 yX6_elementOrNull yX6_elementOrNull, Cond.code yX6_elementOrNull cX6_elementOrNull 2 (some (.object "Versorhall$Element")), Cond.fieldLink RX6 24 "Versorhall" "elements" "[LVersorhall$Element;", Cond.methodLink RX6 124 yX6_demandOneAlgebra, Cond.static yX6_demandOneAlgebra]
def wsL_killer_r2 : List Cond := [Cond.code yX6_demandOneAlgebra cX6_demandOneAlgebra 2 none, Cond.classLink RX6 52 "java/lang/IllegalArgumentException", Cond.initialized "java/lang/IllegalArgumentException", Cond.fieldLink RX6 99 "Versorhall$Element" "home" "LVersorhall$Algebra;", Cond.fieldLink RX6 217 "Versorhall$Algebra" "number" "I", Cond.methodLink RX6 169 yX5_makeKiller, Cond.instanceMethod yX5_makeKiller, Cond.selects RX5 yX5_makeKiller yX5_makeKiller, Cond.initialized RX5, Cond.code yX5_makeKiller cX5_makeKiller 5 (some .int), Cond.fieldLink RX5 32 "Versorhall$Element" "home" "LVersorhall$Algebra;", Cond.fieldLink RX5 24 "Versorhall$Workshop" "matrix" "LVersorhall$Matrix;", Cond.fieldLink RX5 93 "Versorhall$Algebra" "units" "I", Cond.fieldLink RX5 12 "Versorhall$Workshop" "result" "LVersorhall$Row;", Cond.methodLink RX5 89 yX2_becomeMapOf, Cond.instanceMethod yX2_becomeMapOf, Cond.selects RX2 yX2_becomeMapOf yX2_becomeMapOf, Cond.initialized RX2, Cond.code yX2_becomeMapOf cX2_becomeMapOf 7 none, Cond.fieldLink RX2 15 "Versorhall$Element" "home" "LVersorhall$Algebra;", Cond.fieldLink RX2 21 "Versorhall$Algebra" "units" "I", Cond.fieldLink RX2 31 "Versorhall$Element" "row" "LVersorhall$Row;", Cond.methodLink RX2 27 yX0_signOf, Cond.instanceMethod yX0_signOf]
def wsL_killer_r3 : List Cond := [Cond.selects RX0 yX0_signOf yX0_signOf, Cond.initialized RX0, Cond.code yX0_signOf cX0_signOf 4 (some .int), Cond.fieldLink RX0 32 "Versorhall$Algebra" "signs" "[I", Cond.methodLink RX2 35 yX4_get, Cond.instanceMethod yX4_get, Cond.selects RX4 yX4_get yX4_get, Cond.initialized RX4, Cond.code yX4_get cX4_get 2 (some .int), Cond.fieldLink RX4 9 "Versorhall$Row" "numbers" "[I", Cond.methodLink RX2 41 yX0_reduced, Cond.instanceMethod yX0_reduced, Cond.selects RX0 yX0_reduced yX0_reduced, Cond.code yX0_reduced cX0_reduced 3 (some .int), Cond.fieldLink RX0 51 "Versorhall$Algebra" "prime" "I", Cond.methodLink RX2 44 yX2_put, Cond.instanceMethod yX2_put, Cond.selects RX2 yX2_put yX2_put, Cond.code yX2_put cX2_put 5 none, Cond.fieldLink RX2 9 "Versorhall$Matrix" "cells" "[I", Cond.methodLink RX5 96 yX2_reduceColumn, Cond.instanceMethod yX2_reduceColumn, Cond.selects RX2 yX2_reduceColumn yX2_reduceColumn, Cond.code yX2_reduceColumn cX2_reduceColumn 8 (some .boolean)]
def wsL_killer_r4 : List Cond := [Cond.methodLink RX2 48 yX2_get, Cond.instanceMethod yX2_get, Cond.selects RX2 yX2_get yX2_get, Cond.code yX2_get cX2_get 4 (some .int), Cond.methodLink RX2 50 yX2_swapLines, Cond.instanceMethod yX2_swapLines, Cond.selects RX2 yX2_swapLines yX2_swapLines, Cond.code yX2_swapLines cX2_swapLines 6 none, Cond.methodLink RX2 53 yX0_inverseNumber, Cond.instanceMethod yX0_inverseNumber, Cond.selects RX0 yX0_inverseNumber yX0_inverseNumber, Cond.code yX0_inverseNumber cX0_inverseNumber 3 (some .int), Cond.methodLink RX0 76 yX0_reduced, Cond.methodLink RX2 56 yX2_subtractLine, Cond.instanceMethod yX2_subtractLine, Cond.selects RX2 yX2_subtractLine yX2_subtractLine, Cond.code yX2_subtractLine cX2_subtractLine 6 none, Cond.methodLink RX5 28 yX4_becomeNumber, Cond.instanceMethod yX4_becomeNumber, Cond.selects RX4 yX4_becomeNumber yX4_becomeNumber, Cond.code yX4_becomeNumber cX4_becomeNumber 3 none, Cond.methodLink RX5 100 yX2_get, Cond.methodLink RX5 86 yX0_reduced, Cond.methodLink RX5 103 yX4_put]
def wsL_killer_r5 : List Cond := [Cond.instanceMethod yX4_put, Cond.selects RX4 yX4_put yX4_put, Cond.code yX4_put cX4_put 3 none, Cond.methodLink RX6 154 yX6_keep, Cond.instanceMethod yX6_keep, Cond.selects RX6 yX6_keep yX6_keep, Cond.code yX6_keep cX6_keep 2 (some .int), Cond.fieldLink RX6 110 "Versorhall$Element" "row" "LVersorhall$Row;", Cond.fieldLink RX6 309 "Versorhall$Workshop" "result" "LVersorhall$Row;", Cond.methodLink RX6 213 yX4_become, Cond.instanceMethod yX4_become, Cond.selects RX4 yX4_become yX4_become, Cond.code yX4_become cX4_become 3 none, Cond.methodLink RX4 15 yX4_get, Cond.methodLink RX6 132 yX4_size, Cond.instanceMethod yX4_size, Cond.selects RX4 yX4_size yX4_size, Cond.code yX4_size cX4_size 6 (some .int)]
def wsL_killer : List Cond := .codeWith yL_killer cL_killer 5 (some .int) [(0, 11, 14, 30), (0, 11, 18, 19), (0, 11, 22, 21)] :: ((wsL_killer_r1 ++ (wsL_killer_r2 ++ (wsL_killer_r3 ++ (wsL_killer_r4 ++ wsL_killer_r5)))) ++ wsX70 ++ wsX60 ++ wsX10 ++ wsX00 ++ wsX50 ++ wsX40 ++ wsX20 ++ (vx_atS RX6 63 "java/lang/IllegalStateException" ["java/lang/RuntimeException", "java/lang/Exception"]).filter goodWord ++ (vx_atS RX6 280 "java/lang/IndexOutOfBoundsException" ["java/lang/RuntimeException", "java/lang/Exception"]).filter goodWord ++ (vx_atS RX6 56 "java/lang/IllegalArgumentException" ["java/lang/RuntimeException", "java/lang/Exception"]).filter goodWord)
theorem dL_killer_0 : decode cL_killer 0 = .ok (.aload_n 3, 1) := by decide +kernel
theorem dL_killer_1 : decode cL_killer 1 = .ok (.aload_n 0, 1) := by decide +kernel
theorem dL_killer_2 : decode cL_killer 2 = .ok (.iload_n 1, 1) := by decide +kernel
theorem dL_killer_3 : decode cL_killer 3 = .ok (.iload_n 2, 1) := by decide +kernel
set_option maxRecDepth 20000 in
theorem ggL_killer_X6_killer : GoodIn wsL_killer wsX6_killer := goodIn_ca (goodIn_ca (goodIn_ca (goodIn_r _ [8, 9, 10, 11, 12, 13, 14, 7, 15, 16, 17, 18, 19, 20, 21, 22, 23, 24, 25, 26, 27, 28, 29, 30, 31, 32, 33, 34, 35, 36, 37, 38, 39, 40, 41, 42, 43, 44, 45, 46, 47, 48, 49, 50, 51, 52, 53, 54, 55, 56, 57, 58, 59, 60, 61, 62, 63, 64, 65, 66, 67, 68, 69, 70, 71, 72, 73, 74, 75, 76, 77, 78, 79, 80, 81, 82, 83, 84, 85, 86, 87, 88, 89, 90, 91, 92, 93, 94, 95, 96, 97, 98, 99, 100, 101, 102, 103, 104, 105, 106, 107, 108, 109, 110, 111, 112, 113, 114, 118, 119, 120, 121, 122, 123, 124, 125, 126, 127, 128, 129, 130, 131, 132, 133, 134, 135, 136, 137, 138, 139, 140, 141, 142, 143, 144] (by decide +kernel) (by decide +kernel)) (goodIn_sub (fun _ h => List.mem_cons_of_mem _ (List.mem_append_left _ (List.mem_append_left _ (List.mem_append_right _ h)))) (by decide +kernel))) (goodIn_sub (fun _ h => List.mem_cons_of_mem _ (List.mem_append_left _ (List.mem_append_right _ h))) (by decide +kernel))) (goodIn_sub (fun _ h => List.mem_cons_of_mem _ (List.mem_append_right _ h)) (by decide +kernel))
set_option maxRecDepth 20000 in
theorem gL_killer_X6_killer : GoodIn wsL_killer (wsV RL 60 RX6 yX6_killer wsX6_killer) := goodIn_app (goodIn_of _ (by decide +kernel)) ggL_killer_X6_killer
theorem dL_killer_4 : decode cL_killer 4 = .ok (.invokevirtual 60, 3) := by decide +kernel
theorem dL_killer_14 : decode cL_killer 14 = .ok (.astore 4, 2) := by decide +kernel
theorem dL_killer_16 : decode cL_killer 16 = .ok (.iconst 1, 1) := by decide +kernel
theorem dL_killer_17 : decode cL_killer 17 = .ok (.ireturn, 1) := by decide +kernel
def wsL_hang_r1 : List Cond := [Cond.classLink RL 30 "java/lang/IndexOutOfBoundsException", Cond.classLink RL 21 "java/lang/IllegalStateException", Cond.methodLink RL 63 yX6_hang, Cond.instanceMethod yX6_hang, Cond.selects RX6 yX6_hang yX6_hang, Cond.initialized RX6, Cond.code yX6_hang cX6_hang 4 (some .int), Cond.classLink RX6 59 "java/lang/IllegalStateException", Cond.initialized "java/lang/IllegalStateException", Cond.fieldLink RX6 99 "Versorhall$Element" "home" "LVersorhall$Algebra;", Cond.fieldLink RX6 178 "Versorhall$Algebra" "mirrors" "LVersorhall$Pile;", Cond.fieldLink RX6 181 "Versorhall$Pile" "height" "I", Cond.fieldLink RX6 110 "Versorhall$Element" "row" "LVersorhall$Row;", Cond.methodLink RX6 95 yX6_elementOf, Cond.instanceMethod yX6_elementOf, Cond.selects RX6 yX6_elementOf yX6_elementOf, Cond.code yX6_elementOf cX6_elementOf 3 (some (.object "Versorhall$Element")), Cond.classLink RX6 276 "java/lang/IndexOutOfBoundsException", Cond.initialized "java/lang/IndexOutOfBoundsException", Cond.methodLink RX6 360 yX6_elementOrNull, Cond.instanceMethod yX6_elementOrNull, Cond.selects RX6 yX6_elementOrNull yX6_elementOrNull, Cond.code yX6_elementOrNull cX6_elementOrNull 2 (some (.object "Versorhall$Element")), Cond.fieldLink RX6 24 "Versorhall" "elements" "[LVersorhall$Element;"]
def wsL_hang_r2 : List Cond := [Cond.methodLink RX6 174 yX6_demandMirroring, Cond.static yX6_demandMirroring, Cond.code yX6_demandMirroring cX6_demandMirroring 1 none, Cond.methodLink RX6 235 yX0_squareOf, Cond.instanceMethod yX0_squareOf, Cond.selects RX0 yX0_squareOf yX0_squareOf, Cond.initialized RX0, Cond.code yX0_squareOf cX0_squareOf 2 (some .int), Cond.fieldLink RX0 48 "Versorhall$Algebra" "kind" "I", Cond.methodLink RX0 104 yX4_isOfGenerators, Cond.instanceMethod yX4_isOfGenerators, Cond.selects RX4 yX4_isOfGenerators yX4_isOfGenerators, Cond.initialized RX4, Cond.code yX4_isOfGenerators cX4_isOfGenerators 3 (some .boolean), Cond.fieldLink RX4 9 "Versorhall$Row" "numbers" "[I", Cond.methodLink RX4 23 yJ6_bitCount_0f7a4, Cond.static yJ6_bitCount_0f7a4, Cond.initialized RJ6, Cond.code yJ6_bitCount_0f7a4 cJ6_bitCount_0f7a4 1 (some .int), Cond.constant RJ6 265 (1431655765), Cond.constant RJ6 266 (858993459), Cond.constant RJ6 267 (252645135), Cond.methodLink RX0 108 yX0_numberOfUnit0, Cond.instanceMethod yX0_numberOfUnit0]
def wsL_hang_r3 : List Cond := [Cond.selects RX0 yX0_numberOfUnit0 yX0_numberOfUnit0, Cond.code yX0_numberOfUnit0 cX0_numberOfUnit0 5 (some .int), Cond.fieldLink RX0 15 "Versorhall$Algebra" "units" "I", Cond.methodLink RX0 90 yX4_get, Cond.instanceMethod yX4_get, Cond.selects RX4 yX4_get yX4_get, Cond.code yX4_get cX4_get 2 (some .int), Cond.methodLink RX0 68 yX0_signOf, Cond.instanceMethod yX0_signOf, Cond.selects RX0 yX0_signOf yX0_signOf, Cond.code yX0_signOf cX0_signOf 4 (some .int), Cond.fieldLink RX0 32 "Versorhall$Algebra" "signs" "[I", Cond.methodLink RX0 76 yX0_reduced, Cond.instanceMethod yX0_reduced, Cond.selects RX0 yX0_reduced yX0_reduced, Cond.code yX0_reduced cX0_reduced 3 (some .int), Cond.fieldLink RX0 51 "Versorhall$Algebra" "prime" "I", Cond.methodLink RX6 186 yX3_push, Cond.instanceMethod yX3_push, Cond.selects RX3 yX3_push yX3_push, Cond.initialized RX3, Cond.code yX3_push cX3_push 3 (some .boolean), Cond.fieldLink RX3 17 "Versorhall$Pile" "height" "I", Cond.fieldLink RX3 11 "Versorhall$Pile" "rows" "[LVersorhall$Row;"]
def wsL_hang_r4 : List Cond := [Cond.methodLink RX3 26 yX4_become, Cond.instanceMethod yX4_become, Cond.selects RX4 yX4_become yX4_become, Cond.code yX4_become cX4_become 3 none, Cond.methodLink RX4 15 yX4_get]
def wsL_hang : List Cond := .codeWith yL_hang cL_hang 4 (some .int) [(0, 10, 13, 30), (0, 10, 16, 21)] :: ((wsL_hang_r1 ++ (wsL_hang_r2 ++ (wsL_hang_r3 ++ wsL_hang_r4))) ++ wsX70 ++ wsX10 ++ wsX00 ++ wsX30 ++ wsX60 ++ wsX40 ++ (vx_atS RX6 63 "java/lang/IllegalStateException" ["java/lang/RuntimeException", "java/lang/Exception"]).filter goodWord ++ (vx_atS RX6 280 "java/lang/IndexOutOfBoundsException" ["java/lang/RuntimeException", "java/lang/Exception"]).filter goodWord)
theorem dL_hang_0 : decode cL_hang 0 = .ok (.aload_n 2, 1) := by decide +kernel
theorem dL_hang_1 : decode cL_hang 1 = .ok (.aload_n 0, 1) := by decide +kernel
theorem dL_hang_2 : decode cL_hang 2 = .ok (.iload_n 1, 1) := by decide +kernel
set_option maxRecDepth 20000 in
theorem ggL_hang_X6_hang : GoodIn wsL_hang wsX6_hang := goodIn_ca (goodIn_ca (goodIn_r _ [7, 8, 9, 10, 11, 12, 13, 14, 15, 16, 6, 17, 18, 19, 20, 21, 22, 23, 24, 25, 26, 27, 28, 29, 30, 31, 32, 33, 34, 35, 36, 37, 38, 39, 40, 41, 42, 43, 44, 45, 46, 47, 48, 49, 50, 51, 52, 53, 54, 55, 56, 57, 58, 59, 60, 61, 62, 63, 64, 65, 66, 67, 68, 69, 70, 71, 72, 73, 74, 75, 76, 77, 81, 82, 83, 84, 85, 86, 87, 88, 89, 90, 91, 92, 93, 94, 95, 96, 97, 98, 99, 100, 101, 102, 103, 104, 105] (by decide +kernel) (by decide +kernel)) (goodIn_sub (fun _ h => List.mem_cons_of_mem _ (List.mem_append_left _ (List.mem_append_right _ h))) (by decide +kernel))) (goodIn_sub (fun _ h => List.mem_cons_of_mem _ (List.mem_append_right _ h)) (by decide +kernel))
set_option maxRecDepth 20000 in
theorem gL_hang_X6_hang : GoodIn wsL_hang (wsV RL 63 RX6 yX6_hang wsX6_hang) := goodIn_app (goodIn_of _ (by decide +kernel)) ggL_hang_X6_hang
theorem dL_hang_3 : decode cL_hang 3 = .ok (.invokevirtual 63, 3) := by decide +kernel
theorem dL_hang_13 : decode cL_hang 13 = .ok (.astore_n 3, 1) := by decide +kernel
theorem dL_hang_14 : decode cL_hang 14 = .ok (.iconst 1, 1) := by decide +kernel
theorem dL_hang_15 : decode cL_hang 15 = .ok (.ireturn, 1) := by decide +kernel
def wsL_clear : List Cond := .codeWith yL_clear cL_clear 4 (some .int) [(0, 10, 13, 30)] :: ([.classLink RL 30 "java/lang/IndexOutOfBoundsException", .methodLink RL 66 yX6_clear, .instanceMethod yX6_clear, .selects RX6 yX6_clear yX6_clear, .initialized RX6, .code yX6_clear cX6_clear 4 (some .int), .fieldLink RX6 178 "Versorhall$Algebra" "mirrors" "LVersorhall$Pile;", .fieldLink RX6 181 "Versorhall$Pile" "height" "I", .fieldLink RX6 31 "Versorhall" "knocks" "I", .methodLink RX6 71 yX6_algebraOf, .instanceMethod yX6_algebraOf, .selects RX6 yX6_algebraOf yX6_algebraOf, .code yX6_algebraOf cX6_algebraOf 3 (some (.object "Versorhall$Algebra")), .classLink RX6 276 "java/lang/IndexOutOfBoundsException", .initialized "java/lang/IndexOutOfBoundsException", .fieldLink RX6 15 "Versorhall" "algebras" "[LVersorhall$Algebra;", .methodLink RX6 190 yX3_clearAll, .instanceMethod yX3_clearAll, .selects RX3 yX3_clearAll yX3_clearAll, .initialized RX3, .code yX3_clearAll cX3_clearAll 1 none, .fieldLink RX3 17 "Versorhall$Pile" "height" "I"] ++ wsX70 ++ wsX00 ++ wsX30 ++ wsX60 ++ (vx_atS RX6 280 "java/lang/IndexOutOfBoundsException" ["java/lang/RuntimeException", "java/lang/Exception"]).filter goodWord)
theorem dL_clear_0 : decode cL_clear 0 = .ok (.aload_n 2, 1) := by decide +kernel
theorem dL_clear_1 : decode cL_clear 1 = .ok (.aload_n 0, 1) := by decide +kernel
theorem dL_clear_2 : decode cL_clear 2 = .ok (.iload_n 1, 1) := by decide +kernel
set_option maxRecDepth 20000 in
theorem ggL_clear_X6_clear : GoodIn wsL_clear wsX6_clear := goodIn_ca (goodIn_r _ [6, 7, 8, 9, 10, 11, 12, 5, 13, 14, 15, 16, 17, 18, 19, 20, 21, 22, 26, 27, 28, 29, 30, 31, 32, 33, 34, 35, 36, 37, 38, 39, 40, 41, 42, 43, 44, 45, 46, 47] (by decide +kernel) (by decide +kernel)) (goodIn_sub (fun _ h => List.mem_cons_of_mem _ (List.mem_append_right _ h)) (by decide +kernel))
set_option maxRecDepth 20000 in
theorem gL_clear_X6_clear : GoodIn wsL_clear (wsV RL 66 RX6 yX6_clear wsX6_clear) := goodIn_app (goodIn_of _ (by decide +kernel)) ggL_clear_X6_clear
theorem dL_clear_3 : decode cL_clear 3 = .ok (.invokevirtual 66, 3) := by decide +kernel
theorem dL_clear_13 : decode cL_clear 13 = .ok (.astore_n 3, 1) := by decide +kernel
theorem dL_clear_14 : decode cL_clear 14 = .ok (.iconst 1, 1) := by decide +kernel
theorem dL_clear_15 : decode cL_clear 15 = .ok (.ireturn, 1) := by decide +kernel
def wsL_mirror_r1 : List Cond := [Cond.classLink RL 30 "java/lang/IndexOutOfBoundsException", Cond.classLink RL 19 "java/lang/IllegalArgumentException", Cond.classLink RL 21 "java/lang/IllegalStateException", Cond.methodLink RL 69 yX6_mirror, Cond.instanceMethod yX6_mirror, Cond.selects RX6 yX6_mirror yX6_mirror, Cond.initialized RX6, Cond.code yX6_mirror cX6_mirror 7 (some .int), Cond.fieldLink RX6 37 "Versorhall" "workshop" "LVersorhall$Workshop;", Cond.methodLink RX6 95 yX6_elementOf, Cond.instanceMethod yX6_elementOf, Cond.selects RX6 yX6_elementOf yX6_elementOf, Cond.code yX6_elementOf cX6_elementOf 3 (some (.object "Versorhall$Element")), Cond.classLink RX6 276 "java/lang/IndexOutOfBoundsException", Cond.initialized "java/lang/IndexOutOfBoundsException", Cond.methodLink RX6 360 yX6_elementOrNull, Cond.instanceMethod yX6_elementOrNull, Cond.selects RX6 yX6_elementOrNull yX6_elementOrNull, Cond.code yX6_elementOrNull cX6_elementOrNull 2 (some (.object "Versorhall$Element")), Cond.fieldLink RX6 24 "Versorhall" "elements" "[LVersorhall$Element;", Cond.methodLink RX6 124 yX6_demandOneAlgebra, Cond.static yX6_demandOneAlgebra, Cond.code yX6_demandOneAlgebra cX6_demandOneAlgebra 2 none, Cond.classLink RX6 52 "java/lang/IllegalArgumentException"]
def wsL_mirror_r2 : List Cond := [Cond.initialized "java/lang/IllegalArgumentException", Cond.fieldLink RX6 99 "Versorhall$Element" "home" "LVersorhall$Algebra;", Cond.fieldLink RX6 217 "Versorhall$Algebra" "number" "I", Cond.methodLink RX6 174 yX6_demandMirroring, Cond.static yX6_demandMirroring, Cond.code yX6_demandMirroring cX6_demandMirroring 1 none, Cond.classLink RX6 59 "java/lang/IllegalStateException", Cond.initialized "java/lang/IllegalStateException", Cond.fieldLink RX6 110 "Versorhall$Element" "row" "LVersorhall$Row;", Cond.methodLink RX6 235 yX0_squareOf, Cond.instanceMethod yX0_squareOf, Cond.selects RX0 yX0_squareOf yX0_squareOf, Cond.initialized RX0, Cond.code yX0_squareOf cX0_squareOf 2 (some .int), Cond.fieldLink RX0 48 "Versorhall$Algebra" "kind" "I", Cond.methodLink RX0 104 yX4_isOfGenerators, Cond.instanceMethod yX4_isOfGenerators, Cond.selects RX4 yX4_isOfGenerators yX4_isOfGenerators, Cond.initialized RX4, Cond.code yX4_isOfGenerators cX4_isOfGenerators 3 (some .boolean), Cond.fieldLink RX4 9 "Versorhall$Row" "numbers" "[I", Cond.methodLink RX4 23 yJ6_bitCount_0f7a4, Cond.static yJ6_bitCount_0f7a4, Cond.initialized RJ6]
def wsL_mirror_r3 : List Cond := [Cond.code yJ6_bitCount_0f7a4 cJ6_bitCount_0f7a4 1 (some .int), Cond.constant RJ6 265 (1431655765), Cond.constant RJ6 266 (858993459), Cond.constant RJ6 267 (252645135), Cond.methodLink RX0 108 yX0_numberOfUnit0, Cond.instanceMethod yX0_numberOfUnit0, Cond.selects RX0 yX0_numberOfUnit0 yX0_numberOfUnit0, Cond.code yX0_numberOfUnit0 cX0_numberOfUnit0 5 (some .int), Cond.fieldLink RX0 15 "Versorhall$Algebra" "units" "I", Cond.methodLink RX0 90 yX4_get, Cond.instanceMethod yX4_get, Cond.selects RX4 yX4_get yX4_get, Cond.code yX4_get cX4_get 2 (some .int), Cond.methodLink RX0 68 yX0_signOf, Cond.instanceMethod yX0_signOf, Cond.selects RX0 yX0_signOf yX0_signOf, Cond.code yX0_signOf cX0_signOf 4 (some .int), Cond.fieldLink RX0 32 "Versorhall$Algebra" "signs" "[I", Cond.methodLink RX0 76 yX0_reduced, Cond.instanceMethod yX0_reduced, Cond.selects RX0 yX0_reduced yX0_reduced, Cond.code yX0_reduced cX0_reduced 3 (some .int), Cond.fieldLink RX0 51 "Versorhall$Algebra" "prime" "I", Cond.methodLink RX6 193 yX5_makeMirrored]
def wsL_mirror_r4 : List Cond := [Cond.instanceMethod yX5_makeMirrored, Cond.selects RX5 yX5_makeMirrored yX5_makeMirrored, Cond.initialized RX5, Cond.code yX5_makeMirrored cX5_makeMirrored 3 none, Cond.fieldLink RX5 12 "Versorhall$Workshop" "result" "LVersorhall$Row;", Cond.fieldLink RX5 38 "Versorhall$Element" "row" "LVersorhall$Row;", Cond.fieldLink RX5 32 "Versorhall$Element" "home" "LVersorhall$Algebra;", Cond.methodLink RX5 107 yX4_become, Cond.instanceMethod yX4_become, Cond.selects RX4 yX4_become yX4_become, Cond.code yX4_become cX4_become 3 none, Cond.methodLink RX4 15 yX4_get, Cond.methodLink RX5 111 yX5_reflect, Cond.instanceMethod yX5_reflect, Cond.selects RX5 yX5_reflect yX5_reflect, Cond.code yX5_reflect cX5_reflect 3 none, Cond.methodLink RX5 41 yX0_multiply, Cond.instanceMethod yX0_multiply, Cond.selects RX0 yX0_multiply yX0_multiply, Cond.code yX0_multiply cX0_multiply 6 none, Cond.fieldLink RX0 41 "Versorhall$Algebra" "gathered" "LVersorhall$Row;", Cond.methodLink RX0 96 yX4_becomeNumber, Cond.instanceMethod yX4_becomeNumber, Cond.selects RX4 yX4_becomeNumber yX4_becomeNumber]
def wsL_mirror_r5 : List Cond := [Cond.code yX4_becomeNumber cX4_becomeNumber 3 none, Cond.methodLink RX0 100 yX0_gatherProducts, Cond.instanceMethod yX0_gatherProducts, Cond.selects RX0 yX0_gatherProducts yX0_gatherProducts, Cond.code yX0_gatherProducts cX0_gatherProducts 7 none, Cond.methodLink RX0 93 yX4_put, Cond.instanceMethod yX4_put, Cond.selects RX4 yX4_put yX4_put, Cond.code yX4_put cX4_put 3 none, Cond.methodLink RX5 128 yX0_squareOf, Cond.methodLink RX5 71 yX0_inverseNumber, Cond.instanceMethod yX0_inverseNumber, Cond.selects RX0 yX0_inverseNumber yX0_inverseNumber, Cond.code yX0_inverseNumber cX0_inverseNumber 3 (some .int), Cond.methodLink RX5 74 yX0_makeMultiple, Cond.instanceMethod yX0_makeMultiple, Cond.selects RX0 yX0_makeMultiple yX0_makeMultiple, Cond.code yX0_makeMultiple cX0_makeMultiple 5 none, Cond.methodLink RX6 154 yX6_keep, Cond.instanceMethod yX6_keep, Cond.selects RX6 yX6_keep yX6_keep, Cond.code yX6_keep cX6_keep 2 (some .int), Cond.fieldLink RX6 309 "Versorhall$Workshop" "result" "LVersorhall$Row;", Cond.methodLink RX6 213 yX4_become]
def wsL_mirror_r6 : List Cond := [Cond.methodLink RX6 132 yX4_size, Cond.instanceMethod yX4_size, Cond.selects RX4 yX4_size yX4_size, Cond.code yX4_size cX4_size 6 (some .int)]
def wsL_mirror : List Cond := .codeWith yL_mirror cL_mirror 6 (some .int) [(0, 13, 16, 30), (0, 13, 20, 19), (0, 13, 24, 21)] :: ((wsL_mirror_r1 ++ (wsL_mirror_r2 ++ (wsL_mirror_r3 ++ (wsL_mirror_r4 ++ (wsL_mirror_r5 ++ wsL_mirror_r6))))) ++ wsX70 ++ wsX60 ++ wsX10 ++ wsX00 ++ wsX40 ++ wsX50 ++ (vx_atS RX6 280 "java/lang/IndexOutOfBoundsException" ["java/lang/RuntimeException", "java/lang/Exception"]).filter goodWord ++ (vx_atS RX6 56 "java/lang/IllegalArgumentException" ["java/lang/RuntimeException", "java/lang/Exception"]).filter goodWord ++ (vx_atS RX6 63 "java/lang/IllegalStateException" ["java/lang/RuntimeException", "java/lang/Exception"]).filter goodWord)
theorem dL_mirror_0 : decode cL_mirror 0 = .ok (.aload 4, 2) := by decide +kernel
theorem dL_mirror_2 : decode cL_mirror 2 = .ok (.aload_n 0, 1) := by decide +kernel
theorem dL_mirror_3 : decode cL_mirror 3 = .ok (.iload_n 1, 1) := by decide +kernel
theorem dL_mirror_4 : decode cL_mirror 4 = .ok (.iload_n 2, 1) := by decide +kernel
theorem dL_mirror_5 : decode cL_mirror 5 = .ok (.iload_n 3, 1) := by decide +kernel
set_option maxRecDepth 20000 in
theorem ggL_mirror_X6_mirror : GoodIn wsL_mirror wsX6_mirror := goodIn_ca (goodIn_ca (goodIn_ca (goodIn_r _ [8, 9, 10, 11, 12, 7, 13, 14, 15, 16, 17, 18, 19, 20, 21, 22, 23, 24, 25, 26, 27, 28, 29, 30, 31, 32, 33, 34, 35, 36, 37, 38, 39, 40, 41, 42, 43, 44, 45, 46, 47, 48, 49, 50, 51, 52, 53, 54, 55, 56, 57, 58, 59, 60, 61, 62, 63, 64, 65, 66, 67, 68, 69, 70, 71, 72, 73, 74, 75, 76, 77, 78, 79, 80, 81, 82, 83, 84, 85, 86, 87, 88, 89, 90, 91, 92, 93, 94, 95, 96, 97, 98, 99, 100, 101, 102, 103, 104, 105, 106, 107, 108, 109, 110, 111, 112, 113, 114, 115, 116, 117, 118, 119, 120, 121, 122, 123, 124, 128, 129, 130, 131, 132, 133, 134, 135, 136, 137, 138, 139, 140, 141, 142, 143, 144, 145, 146, 147, 148, 149, 150, 151, 152, 153] (by decide +kernel) (by decide +kernel)) (goodIn_sub (fun _ h => List.mem_cons_of_mem _ (List.mem_append_left _ (List.mem_append_left _ (List.mem_append_right _ h)))) (by decide +kernel))) (goodIn_sub (fun _ h => List.mem_cons_of_mem _ (List.mem_append_left _ (List.mem_append_right _ h))) (by decide +kernel))) (goodIn_sub (fun _ h => List.mem_cons_of_mem _ (List.mem_append_right _ h)) (by decide +kernel))
set_option maxRecDepth 20000 in
theorem gL_mirror_X6_mirror : GoodIn wsL_mirror (wsV RL 69 RX6 yX6_mirror wsX6_mirror) := goodIn_app (goodIn_of _ (by decide +kernel)) ggL_mirror_X6_mirror
theorem dL_mirror_6 : decode cL_mirror 6 = .ok (.invokevirtual 69, 3) := by decide +kernel
theorem dL_mirror_16 : decode cL_mirror 16 = .ok (.astore 5, 2) := by decide +kernel
theorem dL_mirror_18 : decode cL_mirror 18 = .ok (.iconst 1, 1) := by decide +kernel
theorem dL_mirror_19 : decode cL_mirror 19 = .ok (.ireturn, 1) := by decide +kernel
def wsL_turn_r1 : List Cond := [Cond.classLink RL 30 "java/lang/IndexOutOfBoundsException", Cond.classLink RL 19 "java/lang/IllegalArgumentException", Cond.classLink RL 21 "java/lang/IllegalStateException", Cond.methodLink RL 72 yX6_turn, Cond.instanceMethod yX6_turn, Cond.selects RX6 yX6_turn yX6_turn, Cond.initialized RX6, Cond.code yX6_turn cX6_turn 5 (some .int), Cond.fieldLink RX6 99 "Versorhall$Element" "home" "LVersorhall$Algebra;", Cond.fieldLink RX6 37 "Versorhall" "workshop" "LVersorhall$Workshop;", Cond.methodLink RX6 95 yX6_elementOf, Cond.instanceMethod yX6_elementOf, Cond.selects RX6 yX6_elementOf yX6_elementOf, Cond.code yX6_elementOf cX6_elementOf 3 (some (.object "Versorhall$Element")), Cond.classLink RX6 276 "java/lang/IndexOutOfBoundsException", Cond.initialized "java/lang/IndexOutOfBoundsException", Cond.methodLink RX6 360 yX6_elementOrNull, Cond.instanceMethod yX6_elementOrNull, Cond.selects RX6 yX6_elementOrNull yX6_elementOrNull, Cond.code yX6_elementOrNull cX6_elementOrNull 2 (some (.object "Versorhall$Element")), Cond.fieldLink RX6 24 "Versorhall" "elements" "[LVersorhall$Element;", Cond.methodLink RX6 124 yX6_demandOneAlgebra, Cond.static yX6_demandOneAlgebra, Cond.code yX6_demandOneAlgebra cX6_demandOneAlgebra 2 none]
def wsL_turn_r2 : List Cond := [Cond.classLink RX6 52 "java/lang/IllegalArgumentException", Cond.initialized "java/lang/IllegalArgumentException", Cond.fieldLink RX6 217 "Versorhall$Algebra" "number" "I", Cond.methodLink RX6 196 yX6_demandBlades, Cond.static yX6_demandBlades, Cond.code yX6_demandBlades cX6_demandBlades 1 none, Cond.classLink RX6 59 "java/lang/IllegalStateException", Cond.initialized "java/lang/IllegalStateException", Cond.fieldLink RX6 264 "Versorhall$Algebra" "kind" "I", Cond.methodLink RX6 199 yX5_makeTurned, Cond.instanceMethod yX5_makeTurned, Cond.selects RX5 yX5_makeTurned yX5_makeTurned, Cond.initialized RX5, Cond.code yX5_makeTurned cX5_makeTurned 5 none, Cond.fieldLink RX5 12 "Versorhall$Workshop" "result" "LVersorhall$Row;", Cond.fieldLink RX5 38 "Versorhall$Element" "row" "LVersorhall$Row;", Cond.fieldLink RX5 32 "Versorhall$Element" "home" "LVersorhall$Algebra;", Cond.fieldLink RX5 115 "Versorhall$Algebra" "mirrors" "LVersorhall$Pile;", Cond.fieldLink RX5 119 "Versorhall$Pile" "height" "I", Cond.methodLink RX5 107 yX4_become, Cond.instanceMethod yX4_become, Cond.selects RX4 yX4_become yX4_become, Cond.initialized RX4, Cond.code yX4_become cX4_become 3 none]
def wsL_turn_r3 : List Cond := [Cond.fieldLink RX4 9 "Versorhall$Row" "numbers" "[I", Cond.methodLink RX4 15 yX4_get, Cond.instanceMethod yX4_get, Cond.selects RX4 yX4_get yX4_get, Cond.code yX4_get cX4_get 2 (some .int), Cond.methodLink RX5 124 yX3_fromBottom, Cond.instanceMethod yX3_fromBottom, Cond.selects RX3 yX3_fromBottom yX3_fromBottom, Cond.initialized RX3, Cond.code yX3_fromBottom cX3_fromBottom 2 (some (.object "Versorhall$Row")), Cond.fieldLink RX3 17 "Versorhall$Pile" "height" "I", Cond.fieldLink RX3 11 "Versorhall$Pile" "rows" "[LVersorhall$Row;", Cond.methodLink RX5 111 yX5_reflect, Cond.instanceMethod yX5_reflect, Cond.selects RX5 yX5_reflect yX5_reflect, Cond.code yX5_reflect cX5_reflect 3 none, Cond.methodLink RX5 41 yX0_multiply, Cond.instanceMethod yX0_multiply, Cond.selects RX0 yX0_multiply yX0_multiply, Cond.initialized RX0, Cond.code yX0_multiply cX0_multiply 6 none, Cond.fieldLink RX0 41 "Versorhall$Algebra" "gathered" "LVersorhall$Row;", Cond.fieldLink RX0 15 "Versorhall$Algebra" "units" "I", Cond.methodLink RX0 96 yX4_becomeNumber]
def wsL_turn_r4 : List Cond := [Cond.instanceMethod yX4_becomeNumber, Cond.selects RX4 yX4_becomeNumber yX4_becomeNumber, Cond.code yX4_becomeNumber cX4_becomeNumber 3 none, Cond.methodLink RX0 90 yX4_get, Cond.methodLink RX0 100 yX0_gatherProducts, Cond.instanceMethod yX0_gatherProducts, Cond.selects RX0 yX0_gatherProducts yX0_gatherProducts, Cond.code yX0_gatherProducts cX0_gatherProducts 7 none, Cond.methodLink RX0 68 yX0_signOf, Cond.instanceMethod yX0_signOf, Cond.selects RX0 yX0_signOf yX0_signOf, Cond.code yX0_signOf cX0_signOf 4 (some .int), Cond.fieldLink RX0 32 "Versorhall$Algebra" "signs" "[I", Cond.methodLink RX0 93 yX4_put, Cond.instanceMethod yX4_put, Cond.selects RX4 yX4_put yX4_put, Cond.code yX4_put cX4_put 3 none, Cond.methodLink RX0 76 yX0_reduced, Cond.instanceMethod yX0_reduced, Cond.selects RX0 yX0_reduced yX0_reduced, Cond.code yX0_reduced cX0_reduced 3 (some .int), Cond.fieldLink RX0 51 "Versorhall$Algebra" "prime" "I", Cond.methodLink RX5 128 yX0_squareOf, Cond.instanceMethod yX0_squareOf]
def wsL_turn_r5 : List Cond := [Cond.selects RX0 yX0_squareOf yX0_squareOf, Cond.code yX0_squareOf cX0_squareOf 2 (some .int), Cond.fieldLink RX0 48 "Versorhall$Algebra" "kind" "I", Cond.methodLink RX0 104 yX4_isOfGenerators, Cond.instanceMethod yX4_isOfGenerators, Cond.selects RX4 yX4_isOfGenerators yX4_isOfGenerators, Cond.code yX4_isOfGenerators cX4_isOfGenerators 3 (some .boolean), Cond.methodLink RX4 23 yJ6_bitCount_0f7a4, Cond.static yJ6_bitCount_0f7a4, Cond.initialized RJ6, Cond.code yJ6_bitCount_0f7a4 cJ6_bitCount_0f7a4 1 (some .int), Cond.constant RJ6 265 (1431655765), Cond.constant RJ6 266 (858993459), Cond.constant RJ6 267 (252645135), Cond.methodLink RX0 108 yX0_numberOfUnit0, Cond.instanceMethod yX0_numberOfUnit0, Cond.selects RX0 yX0_numberOfUnit0 yX0_numberOfUnit0, Cond.code yX0_numberOfUnit0 cX0_numberOfUnit0 5 (some .int), Cond.methodLink RX5 71 yX0_inverseNumber, Cond.instanceMethod yX0_inverseNumber, Cond.selects RX0 yX0_inverseNumber yX0_inverseNumber, Cond.code yX0_inverseNumber cX0_inverseNumber 3 (some .int), Cond.methodLink RX5 74 yX0_makeMultiple, Cond.instanceMethod yX0_makeMultiple]
def wsL_turn_r6 : List Cond := [Cond.selects RX0 yX0_makeMultiple yX0_makeMultiple, Cond.code yX0_makeMultiple cX0_makeMultiple 5 none, Cond.methodLink RX6 154 yX6_keep, Cond.instanceMethod yX6_keep, Cond.selects RX6 yX6_keep yX6_keep, Cond.code yX6_keep cX6_keep 2 (some .int), Cond.fieldLink RX6 110 "Versorhall$Element" "row" "LVersorhall$Row;", Cond.fieldLink RX6 309 "Versorhall$Workshop" "result" "LVersorhall$Row;", Cond.methodLink RX6 213 yX4_become, Cond.methodLink RX6 132 yX4_size, Cond.instanceMethod yX4_size, Cond.selects RX4 yX4_size yX4_size, Cond.code yX4_size cX4_size 6 (some .int)]
def wsL_turn : List Cond := .codeWith yL_turn cL_turn 5 (some .int) [(0, 11, 14, 30), (0, 11, 18, 19), (0, 11, 22, 21)] :: ((wsL_turn_r1 ++ (wsL_turn_r2 ++ (wsL_turn_r3 ++ (wsL_turn_r4 ++ (wsL_turn_r5 ++ wsL_turn_r6))))) ++ wsX70 ++ wsX10 ++ wsX60 ++ wsX00 ++ wsX50 ++ wsX30 ++ wsX40 ++ (vx_atS RX6 280 "java/lang/IndexOutOfBoundsException" ["java/lang/RuntimeException", "java/lang/Exception"]).filter goodWord ++ (vx_atS RX6 56 "java/lang/IllegalArgumentException" ["java/lang/RuntimeException", "java/lang/Exception"]).filter goodWord ++ (vx_atS RX6 63 "java/lang/IllegalStateException" ["java/lang/RuntimeException", "java/lang/Exception"]).filter goodWord)
theorem dL_turn_0 : decode cL_turn 0 = .ok (.aload_n 3, 1) := by decide +kernel
theorem dL_turn_1 : decode cL_turn 1 = .ok (.aload_n 0, 1) := by decide +kernel
theorem dL_turn_2 : decode cL_turn 2 = .ok (.iload_n 1, 1) := by decide +kernel
theorem dL_turn_3 : decode cL_turn 3 = .ok (.iload_n 2, 1) := by decide +kernel
set_option maxRecDepth 20000 in
theorem ggL_turn_X6_turn : GoodIn wsL_turn wsX6_turn := goodIn_ca (goodIn_ca (goodIn_ca (goodIn_r _ [8, 9, 10, 11, 12, 13, 7, 14, 15, 16, 17, 18, 19, 20, 21, 22, 23, 24, 25, 26, 27, 28, 29, 30, 31, 32, 33, 34, 35, 36, 37, 38, 39, 40, 41, 42, 43, 44, 45, 46, 47, 48, 49, 50, 51, 52, 53, 54, 55, 56, 57, 58, 59, 60, 61, 62, 63, 64, 65, 66, 67, 68, 69, 70, 71, 72, 73, 74, 75, 76, 77, 78, 79, 80, 81, 82, 83, 84, 85, 86, 87, 88, 89, 90, 91, 92, 93, 94, 95, 96, 97, 98, 99, 100, 101, 102, 103, 104, 105, 106, 107, 108, 109, 110, 111, 112, 113, 114, 115, 116, 117, 118, 119, 120, 121, 122, 123, 124, 125, 126, 127, 128, 129, 130, 131, 132, 133, 137, 138, 139, 140, 141, 142, 143, 144, 145, 146, 147, 148, 149, 150, 151, 152, 153, 154, 155, 156, 157, 158, 159, 160, 161, 162, 163, 164] (by decide +kernel) (by decide +kernel)) (goodIn_sub (fun _ h => List.mem_cons_of_mem _ (List.mem_append_left _ (List.mem_append_left _ (List.mem_append_right _ h)))) (by decide +kernel))) (goodIn_sub (fun _ h => List.mem_cons_of_mem _ (List.mem_append_left _ (List.mem_append_right _ h))) (by decide +kernel))) (goodIn_sub (fun _ h => List.mem_cons_of_mem _ (List.mem_append_right _ h)) (by decide +kernel))
set_option maxRecDepth 20000 in
theorem gL_turn_X6_turn : GoodIn wsL_turn (wsV RL 72 RX6 yX6_turn wsX6_turn) := goodIn_app (goodIn_of _ (by decide +kernel)) ggL_turn_X6_turn
theorem dL_turn_4 : decode cL_turn 4 = .ok (.invokevirtual 72, 3) := by decide +kernel
theorem dL_turn_14 : decode cL_turn 14 = .ok (.astore 4, 2) := by decide +kernel
theorem dL_turn_16 : decode cL_turn 16 = .ok (.iconst 1, 1) := by decide +kernel
theorem dL_turn_17 : decode cL_turn 17 = .ok (.ireturn, 1) := by decide +kernel
def wsL_versor_r1 : List Cond := [Cond.classLink RL 30 "java/lang/IndexOutOfBoundsException", Cond.classLink RL 21 "java/lang/IllegalStateException", Cond.methodLink RL 75 yX6_versor, Cond.instanceMethod yX6_versor, Cond.selects RX6 yX6_versor yX6_versor, Cond.initialized RX6, Cond.code yX6_versor cX6_versor 3 (some .int), Cond.fieldLink RX6 99 "Versorhall$Element" "home" "LVersorhall$Algebra;", Cond.fieldLink RX6 37 "Versorhall" "workshop" "LVersorhall$Workshop;", Cond.methodLink RX6 95 yX6_elementOf, Cond.instanceMethod yX6_elementOf, Cond.selects RX6 yX6_elementOf yX6_elementOf, Cond.code yX6_elementOf cX6_elementOf 3 (some (.object "Versorhall$Element")), Cond.classLink RX6 276 "java/lang/IndexOutOfBoundsException", Cond.initialized "java/lang/IndexOutOfBoundsException", Cond.methodLink RX6 360 yX6_elementOrNull, Cond.instanceMethod yX6_elementOrNull, Cond.selects RX6 yX6_elementOrNull yX6_elementOrNull, Cond.code yX6_elementOrNull cX6_elementOrNull 2 (some (.object "Versorhall$Element")), Cond.fieldLink RX6 24 "Versorhall" "elements" "[LVersorhall$Element;", Cond.methodLink RX6 196 yX6_demandBlades, Cond.static yX6_demandBlades, Cond.code yX6_demandBlades cX6_demandBlades 1 none, Cond.classLink RX6 59 "java/lang/IllegalStateException"]
def wsL_versor_r2 : List Cond := [Cond.initialized "java/lang/IllegalStateException", Cond.fieldLink RX6 264 "Versorhall$Algebra" "kind" "I", Cond.methodLink RX6 202 yX5_makeVersor, Cond.instanceMethod yX5_makeVersor, Cond.selects RX5 yX5_makeVersor yX5_makeVersor, Cond.initialized RX5, Cond.code yX5_makeVersor cX5_makeVersor 5 none, Cond.fieldLink RX5 12 "Versorhall$Workshop" "result" "LVersorhall$Row;", Cond.fieldLink RX5 115 "Versorhall$Algebra" "mirrors" "LVersorhall$Pile;", Cond.fieldLink RX5 119 "Versorhall$Pile" "height" "I", Cond.methodLink RX5 28 yX4_becomeNumber, Cond.instanceMethod yX4_becomeNumber, Cond.selects RX4 yX4_becomeNumber yX4_becomeNumber, Cond.initialized RX4, Cond.code yX4_becomeNumber cX4_becomeNumber 3 none, Cond.fieldLink RX4 9 "Versorhall$Row" "numbers" "[I", Cond.methodLink RX5 124 yX3_fromBottom, Cond.instanceMethod yX3_fromBottom, Cond.selects RX3 yX3_fromBottom yX3_fromBottom, Cond.initialized RX3, Cond.code yX3_fromBottom cX3_fromBottom 2 (some (.object "Versorhall$Row")), Cond.fieldLink RX3 17 "Versorhall$Pile" "height" "I", Cond.fieldLink RX3 11 "Versorhall$Pile" "rows" "[LVersorhall$Row;", Cond.methodLink RX5 41 yX0_multiply]
def wsL_versor_r3 : List Cond := [Cond.instanceMethod yX0_multiply, Cond.selects RX0 yX0_multiply yX0_multiply, Cond.initialized RX0, Cond.code yX0_multiply cX0_multiply 6 none, Cond.fieldLink RX0 41 "Versorhall$Algebra" "gathered" "LVersorhall$Row;", Cond.fieldLink RX0 15 "Versorhall$Algebra" "units" "I", Cond.methodLink RX0 96 yX4_becomeNumber, Cond.methodLink RX0 90 yX4_get, Cond.instanceMethod yX4_get, Cond.selects RX4 yX4_get yX4_get, Cond.code yX4_get cX4_get 2 (some .int), Cond.methodLink RX0 100 yX0_gatherProducts, Cond.instanceMethod yX0_gatherProducts, Cond.selects RX0 yX0_gatherProducts yX0_gatherProducts, Cond.code yX0_gatherProducts cX0_gatherProducts 7 none, Cond.methodLink RX0 68 yX0_signOf, Cond.instanceMethod yX0_signOf, Cond.selects RX0 yX0_signOf yX0_signOf, Cond.code yX0_signOf cX0_signOf 4 (some .int), Cond.fieldLink RX0 32 "Versorhall$Algebra" "signs" "[I", Cond.methodLink RX0 93 yX4_put, Cond.instanceMethod yX4_put, Cond.selects RX4 yX4_put yX4_put, Cond.code yX4_put cX4_put 3 none]
def wsL_versor_r4 : List Cond := [Cond.methodLink RX0 76 yX0_reduced, Cond.instanceMethod yX0_reduced, Cond.selects RX0 yX0_reduced yX0_reduced, Cond.code yX0_reduced cX0_reduced 3 (some .int), Cond.fieldLink RX0 51 "Versorhall$Algebra" "prime" "I", Cond.methodLink RX6 154 yX6_keep, Cond.instanceMethod yX6_keep, Cond.selects RX6 yX6_keep yX6_keep, Cond.code yX6_keep cX6_keep 2 (some .int), Cond.fieldLink RX6 110 "Versorhall$Element" "row" "LVersorhall$Row;", Cond.fieldLink RX6 309 "Versorhall$Workshop" "result" "LVersorhall$Row;", Cond.methodLink RX6 213 yX4_become, Cond.instanceMethod yX4_become, Cond.selects RX4 yX4_become yX4_become, Cond.code yX4_become cX4_become 3 none, Cond.methodLink RX4 15 yX4_get, Cond.methodLink RX6 132 yX4_size, Cond.instanceMethod yX4_size, Cond.selects RX4 yX4_size yX4_size, Cond.code yX4_size cX4_size 6 (some .int)]
def wsL_versor : List Cond := .codeWith yL_versor cL_versor 4 (some .int) [(0, 10, 13, 30), (0, 10, 16, 21)] :: ((wsL_versor_r1 ++ (wsL_versor_r2 ++ (wsL_versor_r3 ++ wsL_versor_r4))) ++ wsX70 ++ wsX10 ++ wsX60 ++ wsX00 ++ wsX50 ++ wsX30 ++ wsX40 ++ (vx_atS RX6 280 "java/lang/IndexOutOfBoundsException" ["java/lang/RuntimeException", "java/lang/Exception"]).filter goodWord ++ (vx_atS RX6 63 "java/lang/IllegalStateException" ["java/lang/RuntimeException", "java/lang/Exception"]).filter goodWord)
theorem dL_versor_0 : decode cL_versor 0 = .ok (.aload_n 2, 1) := by decide +kernel
theorem dL_versor_1 : decode cL_versor 1 = .ok (.aload_n 0, 1) := by decide +kernel
theorem dL_versor_2 : decode cL_versor 2 = .ok (.iload_n 1, 1) := by decide +kernel
set_option maxRecDepth 20000 in
theorem ggL_versor_X6_versor : GoodIn wsL_versor wsX6_versor := goodIn_ca (goodIn_ca (goodIn_r _ [7, 8, 9, 10, 11, 12, 6, 13, 14, 15, 16, 17, 18, 19, 20, 21, 22, 23, 24, 25, 26, 27, 28, 29, 30, 31, 32, 33, 34, 35, 36, 37, 38, 39, 40, 41, 42, 43, 44, 45, 46, 47, 48, 49, 50, 51, 52, 53, 54, 55, 56, 57, 58, 59, 60, 61, 62, 63, 64, 65, 66, 67, 68, 69, 70, 71, 72, 73, 74, 75, 76, 77, 78, 79, 80, 81, 82, 83, 84, 85, 86, 87, 88, 89, 90, 91, 92, 96, 97, 98, 99, 100, 101, 102, 103, 104, 105, 106, 107, 108, 109, 110, 111, 112, 113, 114, 115, 116, 117, 118, 119, 120, 121, 122, 123] (by decide +kernel) (by decide +kernel)) (goodIn_sub (fun _ h => List.mem_cons_of_mem _ (List.mem_append_left _ (List.mem_append_right _ h))) (by decide +kernel))) (goodIn_sub (fun _ h => List.mem_cons_of_mem _ (List.mem_append_right _ h)) (by decide +kernel))
set_option maxRecDepth 20000 in
theorem gL_versor_X6_versor : GoodIn wsL_versor (wsV RL 75 RX6 yX6_versor wsX6_versor) := goodIn_app (goodIn_of _ (by decide +kernel)) ggL_versor_X6_versor
theorem dL_versor_3 : decode cL_versor 3 = .ok (.invokevirtual 75, 3) := by decide +kernel
theorem dL_versor_13 : decode cL_versor 13 = .ok (.astore_n 3, 1) := by decide +kernel
theorem dL_versor_14 : decode cL_versor 14 = .ok (.iconst 1, 1) := by decide +kernel
theorem dL_versor_15 : decode cL_versor 15 = .ok (.ireturn, 1) := by decide +kernel
def wsL_run_r1 : List Cond := [Cond.classLink RL 30 "java/lang/IndexOutOfBoundsException", Cond.classLink RL 19 "java/lang/IllegalArgumentException", Cond.methodLink RL 78 yX6_run, Cond.instanceMethod yX6_run, Cond.selects RX6 yX6_run yX6_run, Cond.initialized RX6, Cond.code yX6_run cX6_run 5 (some .int), Cond.classLink RX6 52 "java/lang/IllegalArgumentException", Cond.initialized "java/lang/IllegalArgumentException", Cond.fieldLink RX6 99 "Versorhall$Element" "home" "LVersorhall$Algebra;", Cond.fieldLink RX6 110 "Versorhall$Element" "row" "LVersorhall$Row;", Cond.methodLink RX6 95 yX6_elementOf, Cond.instanceMethod yX6_elementOf, Cond.selects RX6 yX6_elementOf yX6_elementOf, Cond.code yX6_elementOf cX6_elementOf 3 (some (.object "Versorhall$Element")), Cond.classLink RX6 276 "java/lang/IndexOutOfBoundsException", Cond.initialized "java/lang/IndexOutOfBoundsException", Cond.methodLink RX6 360 yX6_elementOrNull, Cond.instanceMethod yX6_elementOrNull, Cond.selects RX6 yX6_elementOrNull yX6_elementOrNull, Cond.code yX6_elementOrNull cX6_elementOrNull 2 (some (.object "Versorhall$Element")), Cond.fieldLink RX6 24 "Versorhall" "elements" "[LVersorhall$Element;", Cond.methodLink RX6 207 yX6_resultOfWord, Cond.instanceMethod yX6_resultOfWord]
def wsL_run_r2 : List Cond := [Cond.selects RX6 yX6_resultOfWord yX6_resultOfWord, Cond.code yX6_resultOfWord cX6_resultOfWord 5 (some (.object "Versorhall$Row")), Cond.fieldLink RX6 44 "Versorhall" "pile" "LVersorhall$Pile;", Cond.fieldLink RX6 181 "Versorhall$Pile" "height" "I", Cond.methodLink RX6 190 yX3_clearAll, Cond.instanceMethod yX3_clearAll, Cond.selects RX3 yX3_clearAll yX3_clearAll, Cond.initialized RX3, Cond.code yX3_clearAll cX3_clearAll 1 none, Cond.fieldLink RX3 17 "Versorhall$Pile" "height" "I", Cond.methodLink RX6 375 yX6_obeyDigit, Cond.instanceMethod yX6_obeyDigit, Cond.selects RX6 yX6_obeyDigit yX6_obeyDigit, Cond.code yX6_obeyDigit cX6_obeyDigit 5 (some .boolean), Cond.fieldLink RX6 217 "Versorhall$Algebra" "number" "I", Cond.methodLink RX6 186 yX3_push, Cond.instanceMethod yX3_push, Cond.selects RX3 yX3_push yX3_push, Cond.code yX3_push cX3_push 3 (some .boolean), Cond.fieldLink RX3 11 "Versorhall$Pile" "rows" "[LVersorhall$Row;", Cond.methodLink RX3 26 yX4_become, Cond.instanceMethod yX4_become, Cond.selects RX4 yX4_become yX4_become, Cond.initialized RX4]
def wsL_run_r3 : List Cond := [Cond.code yX4_become cX4_become 3 none, Cond.fieldLink RX4 9 "Versorhall$Row" "numbers" "[I", Cond.methodLink RX4 15 yX4_get, Cond.instanceMethod yX4_get, Cond.selects RX4 yX4_get yX4_get, Cond.code yX4_get cX4_get 2 (some .int), Cond.methodLink RX6 379 yX3_fromTop, Cond.instanceMethod yX3_fromTop, Cond.selects RX3 yX3_fromTop yX3_fromTop, Cond.code yX3_fromTop cX3_fromTop 2 (some (.object "Versorhall$Row")), Cond.methodLink RX3 22 yX3_fromBottom, Cond.instanceMethod yX3_fromBottom, Cond.selects RX3 yX3_fromBottom yX3_fromBottom, Cond.code yX3_fromBottom cX3_fromBottom 2 (some (.object "Versorhall$Row")), Cond.methodLink RX6 144 yX0_makeConjugate, Cond.instanceMethod yX0_makeConjugate, Cond.selects RX0 yX0_makeConjugate yX0_makeConjugate, Cond.initialized RX0, Cond.code yX0_makeConjugate cX0_makeConjugate 4 none, Cond.methodLink RX0 72 yX0_conjugateSign, Cond.instanceMethod yX0_conjugateSign, Cond.selects RX0 yX0_conjugateSign yX0_conjugateSign, Cond.code yX0_conjugateSign cX0_conjugateSign 3 (some .int), Cond.fieldLink RX0 48 "Versorhall$Algebra" "kind" "I"]
def wsL_run_r4 : List Cond := [Cond.methodLink RX0 82 yJ6_bitCount_0f7a4, Cond.static yJ6_bitCount_0f7a4, Cond.initialized RJ6, Cond.code yJ6_bitCount_0f7a4 cJ6_bitCount_0f7a4 1 (some .int), Cond.constant RJ6 265 (1431655765), Cond.constant RJ6 266 (858993459), Cond.constant RJ6 267 (252645135), Cond.methodLink RX0 90 yX4_get, Cond.methodLink RX0 76 yX0_reduced, Cond.instanceMethod yX0_reduced, Cond.selects RX0 yX0_reduced yX0_reduced, Cond.code yX0_reduced cX0_reduced 3 (some .int), Cond.fieldLink RX0 51 "Versorhall$Algebra" "prime" "I", Cond.methodLink RX0 93 yX4_put, Cond.instanceMethod yX4_put, Cond.selects RX4 yX4_put yX4_put, Cond.code yX4_put cX4_put 3 none, Cond.methodLink RX6 136 yX0_multiply, Cond.instanceMethod yX0_multiply, Cond.selects RX0 yX0_multiply yX0_multiply, Cond.code yX0_multiply cX0_multiply 6 none, Cond.fieldLink RX0 41 "Versorhall$Algebra" "gathered" "LVersorhall$Row;", Cond.fieldLink RX0 15 "Versorhall$Algebra" "units" "I", Cond.methodLink RX0 96 yX4_becomeNumber]
def wsL_run_r5 : List Cond := [Cond.instanceMethod yX4_becomeNumber, Cond.selects RX4 yX4_becomeNumber yX4_becomeNumber, Cond.code yX4_becomeNumber cX4_becomeNumber 3 none, Cond.methodLink RX0 100 yX0_gatherProducts, Cond.instanceMethod yX0_gatherProducts, Cond.selects RX0 yX0_gatherProducts yX0_gatherProducts, Cond.code yX0_gatherProducts cX0_gatherProducts 7 none, Cond.methodLink RX0 68 yX0_signOf, Cond.instanceMethod yX0_signOf, Cond.selects RX0 yX0_signOf yX0_signOf, Cond.code yX0_signOf cX0_signOf 4 (some .int), Cond.fieldLink RX0 32 "Versorhall$Algebra" "signs" "[I", Cond.methodLink RX6 128 yX0_add, Cond.instanceMethod yX0_add, Cond.selects RX0 yX0_add yX0_add, Cond.code yX0_add cX0_add 6 none, Cond.methodLink RX6 383 yX3_pop, Cond.instanceMethod yX3_pop, Cond.selects RX3 yX3_pop yX3_pop, Cond.code yX3_pop cX3_pop 1 none, Cond.methodLink RX6 213 yX4_become, Cond.methodLink RX6 132 yX4_size, Cond.instanceMethod yX4_size, Cond.selects RX4 yX4_size yX4_size]
def wsL_run_r6 : List Cond := [Cond.code yX4_size cX4_size 6 (some .int)]
def wsL_run : List Cond := .codeWith yL_run cL_run 5 (some .int) [(0, 11, 14, 30), (0, 11, 18, 19)] :: ((wsL_run_r1 ++ (wsL_run_r2 ++ (wsL_run_r3 ++ (wsL_run_r4 ++ (wsL_run_r5 ++ wsL_run_r6))))) ++ wsX70 ++ wsX10 ++ wsX60 ++ wsX30 ++ wsX00 ++ wsX40 ++ (vx_atS RX6 56 "java/lang/IllegalArgumentException" ["java/lang/RuntimeException", "java/lang/Exception"]).filter goodWord ++ (vx_atS RX6 280 "java/lang/IndexOutOfBoundsException" ["java/lang/RuntimeException", "java/lang/Exception"]).filter goodWord)
theorem dL_run_0 : decode cL_run 0 = .ok (.aload_n 3, 1) := by decide +kernel
theorem dL_run_1 : decode cL_run 1 = .ok (.aload_n 0, 1) := by decide +kernel
theorem dL_run_2 : decode cL_run 2 = .ok (.iload_n 1, 1) := by decide +kernel
theorem dL_run_3 : decode cL_run 3 = .ok (.iload_n 2, 1) := by decide +kernel
set_option maxRecDepth 20000 in
theorem ggL_run_X6_run : GoodIn wsL_run wsX6_run := goodIn_ca (goodIn_ca (goodIn_r _ [7, 8, 9, 10, 11, 12, 13, 14, 6, 15, 16, 17, 18, 19, 20, 21, 22, 23, 24, 25, 26, 27, 28, 29, 30, 31, 32, 33, 34, 35, 36, 37, 38, 39, 40, 41, 42, 43, 44, 45, 46, 47, 48, 49, 50, 51, 52, 53, 54, 55, 56, 57, 58, 59, 60, 61, 62, 63, 64, 65, 66, 67, 68, 69, 70, 71, 72, 73, 74, 75, 76, 77, 78, 79, 80, 81, 82, 83, 84, 85, 86, 87, 88, 89, 90, 91, 92, 93, 94, 95, 96, 97, 98, 99, 100, 101, 102, 103, 104, 105, 106, 107, 108, 109, 110, 111, 112, 113, 114, 115, 116, 117, 118, 119, 120, 121, 125, 126, 127, 128, 129, 130, 131, 132, 133, 134, 135, 136, 137, 138, 139, 140, 141, 142, 143, 144, 145, 146, 147, 148, 149] (by decide +kernel) (by decide +kernel)) (goodIn_sub (fun _ h => List.mem_cons_of_mem _ (List.mem_append_left _ (List.mem_append_right _ h))) (by decide +kernel))) (goodIn_sub (fun _ h => List.mem_cons_of_mem _ (List.mem_append_right _ h)) (by decide +kernel))
set_option maxRecDepth 20000 in
theorem gL_run_X6_run : GoodIn wsL_run (wsV RL 78 RX6 yX6_run wsX6_run) := goodIn_app (goodIn_of _ (by decide +kernel)) ggL_run_X6_run
theorem dL_run_4 : decode cL_run 4 = .ok (.invokevirtual 78, 3) := by decide +kernel
theorem dL_run_14 : decode cL_run 14 = .ok (.astore 4, 2) := by decide +kernel
theorem dL_run_16 : decode cL_run 16 = .ok (.iconst 1, 1) := by decide +kernel
theorem dL_run_17 : decode cL_run 17 = .ok (.ireturn, 1) := by decide +kernel
def wsL_at_r1 : List Cond := [Cond.classLink RL 30 "java/lang/IndexOutOfBoundsException", Cond.methodLink RL 81 yX6_at, Cond.instanceMethod yX6_at, Cond.selects RX6 yX6_at yX6_at, Cond.initialized RX6, Cond.code yX6_at cX6_at 4 (some .int), Cond.fieldLink RX6 99 "Versorhall$Element" "home" "LVersorhall$Algebra;", Cond.fieldLink RX6 110 "Versorhall$Element" "row" "LVersorhall$Row;", Cond.methodLink RX6 95 yX6_elementOf, Cond.instanceMethod yX6_elementOf, Cond.selects RX6 yX6_elementOf yX6_elementOf, Cond.code yX6_elementOf cX6_elementOf 3 (some (.object "Versorhall$Element")), Cond.classLink RX6 276 "java/lang/IndexOutOfBoundsException", Cond.initialized "java/lang/IndexOutOfBoundsException", Cond.methodLink RX6 360 yX6_elementOrNull, Cond.instanceMethod yX6_elementOrNull, Cond.selects RX6 yX6_elementOrNull yX6_elementOrNull, Cond.code yX6_elementOrNull cX6_elementOrNull 2 (some (.object "Versorhall$Element")), Cond.fieldLink RX6 24 "Versorhall" "elements" "[LVersorhall$Element;", Cond.methodLink RX6 103 yX6_demandUnit, Cond.static yX6_demandUnit, Cond.code yX6_demandUnit cX6_demandUnit 2 none, Cond.fieldLink RX6 87 "Versorhall$Algebra" "units" "I", Cond.methodLink RX6 114 yX4_get]
def wsL_at_r2 : List Cond := [Cond.instanceMethod yX4_get, Cond.selects RX4 yX4_get yX4_get, Cond.initialized RX4, Cond.code yX4_get cX4_get 2 (some .int), Cond.fieldLink RX4 9 "Versorhall$Row" "numbers" "[I"]
def wsL_at : List Cond := .codeWith yL_at cL_at 5 (some .int) [(0, 11, 14, 30)] :: ((wsL_at_r1 ++ wsL_at_r2) ++ wsX70 ++ wsX10 ++ wsX60 ++ wsX00 ++ wsX40 ++ (vx_atS RX6 280 "java/lang/IndexOutOfBoundsException" ["java/lang/RuntimeException", "java/lang/Exception"]).filter goodWord)
theorem dL_at_0 : decode cL_at 0 = .ok (.aload_n 3, 1) := by decide +kernel
theorem dL_at_1 : decode cL_at 1 = .ok (.aload_n 0, 1) := by decide +kernel
theorem dL_at_2 : decode cL_at 2 = .ok (.iload_n 1, 1) := by decide +kernel
theorem dL_at_3 : decode cL_at 3 = .ok (.iload_n 2, 1) := by decide +kernel
set_option maxRecDepth 20000 in
theorem ggL_at_X6_at : GoodIn wsL_at wsX6_at := goodIn_ca (goodIn_r _ [6, 7, 8, 9, 10, 11, 5, 12, 13, 14, 15, 16, 17, 18, 19, 20, 21, 22, 23, 24, 25, 26, 27, 28, 29, 33, 34, 35, 36, 37, 38, 39, 40, 41, 42, 43, 44, 45, 46, 47, 48, 49, 50, 51, 52, 53, 54, 55] (by decide +kernel) (by decide +kernel)) (goodIn_sub (fun _ h => List.mem_cons_of_mem _ (List.mem_append_right _ h)) (by decide +kernel))
set_option maxRecDepth 20000 in
theorem gL_at_X6_at : GoodIn wsL_at (wsV RL 81 RX6 yX6_at wsX6_at) := goodIn_app (goodIn_of _ (by decide +kernel)) ggL_at_X6_at
theorem dL_at_4 : decode cL_at 4 = .ok (.invokevirtual 81, 3) := by decide +kernel
theorem dL_at_14 : decode cL_at 14 = .ok (.astore 4, 2) := by decide +kernel
theorem dL_at_16 : decode cL_at 16 = .ok (.iconst 1, 1) := by decide +kernel
theorem dL_at_17 : decode cL_at 17 = .ok (.ireturn, 1) := by decide +kernel
def wsL_ofElement_r1 : List Cond := [Cond.classLink RL 30 "java/lang/IndexOutOfBoundsException", Cond.classLink RL 19 "java/lang/IllegalArgumentException", Cond.methodLink RL 84 yX6_ofElement, Cond.instanceMethod yX6_ofElement, Cond.selects RX6 yX6_ofElement yX6_ofElement, Cond.initialized RX6, Cond.code yX6_ofElement cX6_ofElement 4 (some .int), Cond.classLink RX6 52 "java/lang/IllegalArgumentException", Cond.initialized "java/lang/IllegalArgumentException", Cond.fieldLink RX6 99 "Versorhall$Element" "home" "LVersorhall$Algebra;", Cond.fieldLink RX6 217 "Versorhall$Algebra" "number" "I", Cond.fieldLink RX6 110 "Versorhall$Element" "row" "LVersorhall$Row;", Cond.fieldLink RX6 37 "Versorhall" "workshop" "LVersorhall$Workshop;", Cond.fieldLink RX6 231 "Versorhall$Algebra" "prime" "I", Cond.methodLink RX6 95 yX6_elementOf, Cond.instanceMethod yX6_elementOf, Cond.selects RX6 yX6_elementOf yX6_elementOf, Cond.code yX6_elementOf cX6_elementOf 3 (some (.object "Versorhall$Element")), Cond.classLink RX6 276 "java/lang/IndexOutOfBoundsException", Cond.initialized "java/lang/IndexOutOfBoundsException", Cond.methodLink RX6 360 yX6_elementOrNull, Cond.instanceMethod yX6_elementOrNull, Cond.selects RX6 yX6_elementOrNull yX6_elementOrNull, Cond.code yX6_elementOrNull cX6_elementOrNull 2 (some (.object "Versorhall$Element"))]
def wsL_ofElement_r2 : List Cond := [Cond.fieldLink RX6 24 "Versorhall" "elements" "[LVersorhall$Element;", Cond.methodLink RX6 132 yX4_size, Cond.instanceMethod yX4_size, Cond.selects RX4 yX4_size yX4_size, Cond.initialized RX4, Cond.code yX4_size cX4_size 6 (some .int), Cond.fieldLink RX4 9 "Versorhall$Row" "numbers" "[I", Cond.methodLink RX6 220 yX5_norm, Cond.instanceMethod yX5_norm, Cond.selects RX5 yX5_norm yX5_norm, Cond.initialized RX5, Cond.code yX5_norm cX5_norm 2 (some .int), Cond.fieldLink RX5 32 "Versorhall$Element" "home" "LVersorhall$Algebra;", Cond.fieldLink RX5 18 "Versorhall$Workshop" "work" "LVersorhall$Row;", Cond.fieldLink RX5 38 "Versorhall$Element" "row" "LVersorhall$Row;", Cond.methodLink RX5 55 yX0_makeConjugate, Cond.instanceMethod yX0_makeConjugate, Cond.selects RX0 yX0_makeConjugate yX0_makeConjugate, Cond.initialized RX0, Cond.code yX0_makeConjugate cX0_makeConjugate 4 none, Cond.methodLink RX0 72 yX0_conjugateSign, Cond.instanceMethod yX0_conjugateSign, Cond.selects RX0 yX0_conjugateSign yX0_conjugateSign, Cond.code yX0_conjugateSign cX0_conjugateSign 3 (some .int)]
def wsL_ofElement_r3 : List Cond := [Cond.fieldLink RX0 48 "Versorhall$Algebra" "kind" "I", Cond.methodLink RX0 82 yJ6_bitCount_0f7a4, Cond.static yJ6_bitCount_0f7a4, Cond.initialized RJ6, Cond.code yJ6_bitCount_0f7a4 cJ6_bitCount_0f7a4 1 (some .int), Cond.constant RJ6 265 (1431655765), Cond.constant RJ6 266 (858993459), Cond.constant RJ6 267 (252645135), Cond.methodLink RX0 90 yX4_get, Cond.instanceMethod yX4_get, Cond.selects RX4 yX4_get yX4_get, Cond.code yX4_get cX4_get 2 (some .int), Cond.methodLink RX0 76 yX0_reduced, Cond.instanceMethod yX0_reduced, Cond.selects RX0 yX0_reduced yX0_reduced, Cond.code yX0_reduced cX0_reduced 3 (some .int), Cond.fieldLink RX0 51 "Versorhall$Algebra" "prime" "I", Cond.methodLink RX0 93 yX4_put, Cond.instanceMethod yX4_put, Cond.selects RX4 yX4_put yX4_put, Cond.code yX4_put cX4_put 3 none, Cond.methodLink RX5 59 yX0_numberOfUnit0, Cond.instanceMethod yX0_numberOfUnit0, Cond.selects RX0 yX0_numberOfUnit0 yX0_numberOfUnit0]
def wsL_ofElement_r4 : List Cond := [Cond.code yX0_numberOfUnit0 cX0_numberOfUnit0 5 (some .int), Cond.fieldLink RX0 15 "Versorhall$Algebra" "units" "I", Cond.methodLink RX0 68 yX0_signOf, Cond.instanceMethod yX0_signOf, Cond.selects RX0 yX0_signOf yX0_signOf, Cond.code yX0_signOf cX0_signOf 4 (some .int), Cond.fieldLink RX0 32 "Versorhall$Algebra" "signs" "[I", Cond.methodLink RX6 223 yX4_isPlain, Cond.instanceMethod yX4_isPlain, Cond.selects RX4 yX4_isPlain yX4_isPlain, Cond.code yX4_isPlain cX4_isPlain 2 (some .boolean), Cond.methodLink RX6 227 yX5_firstPowerThatIs, Cond.instanceMethod yX5_firstPowerThatIs, Cond.selects RX5 yX5_firstPowerThatIs yX5_firstPowerThatIs, Cond.code yX5_firstPowerThatIs cX5_firstPowerThatIs 5 (some .int), Cond.methodLink RX5 28 yX4_becomeNumber, Cond.instanceMethod yX4_becomeNumber, Cond.selects RX4 yX4_becomeNumber yX4_becomeNumber, Cond.code yX4_becomeNumber cX4_becomeNumber 3 none, Cond.methodLink RX5 41 yX0_multiply, Cond.instanceMethod yX0_multiply, Cond.selects RX0 yX0_multiply yX0_multiply, Cond.code yX0_multiply cX0_multiply 6 none, Cond.fieldLink RX0 41 "Versorhall$Algebra" "gathered" "LVersorhall$Row;"]
def wsL_ofElement_r5 : List Cond := [Cond.methodLink RX0 96 yX4_becomeNumber, Cond.methodLink RX0 100 yX0_gatherProducts, Cond.instanceMethod yX0_gatherProducts, Cond.selects RX0 yX0_gatherProducts yX0_gatherProducts, Cond.code yX0_gatherProducts cX0_gatherProducts 7 none, Cond.methodLink RX5 47 yX4_isNumber, Cond.instanceMethod yX4_isNumber, Cond.selects RX4 yX4_isNumber yX4_isNumber, Cond.code yX4_isNumber cX4_isNumber 2 (some .boolean), Cond.methodLink RX4 15 yX4_get, Cond.methodLink RX4 19 yX4_isPlain, Cond.methodLink RX6 232 yX5_isItsOwnSquare, Cond.instanceMethod yX5_isItsOwnSquare, Cond.selects RX5 yX5_isItsOwnSquare yX5_isItsOwnSquare, Cond.code yX5_isItsOwnSquare cX5_isItsOwnSquare 2 (some .boolean), Cond.methodLink RX5 51 yX0_add, Cond.instanceMethod yX0_add, Cond.selects RX0 yX0_add yX0_add, Cond.code yX0_add cX0_add 6 none, Cond.methodLink RX6 235 yX0_squareOf, Cond.instanceMethod yX0_squareOf, Cond.selects RX0 yX0_squareOf yX0_squareOf, Cond.code yX0_squareOf cX0_squareOf 2 (some .int), Cond.methodLink RX0 104 yX4_isOfGenerators]
def wsL_ofElement_r6 : List Cond := [Cond.instanceMethod yX4_isOfGenerators, Cond.selects RX4 yX4_isOfGenerators yX4_isOfGenerators, Cond.code yX4_isOfGenerators cX4_isOfGenerators 3 (some .boolean), Cond.methodLink RX4 23 yJ6_bitCount_0f7a4, Cond.methodLink RX0 108 yX0_numberOfUnit0, Cond.methodLink RX6 239 yX5_rank, Cond.instanceMethod yX5_rank, Cond.selects RX5 yX5_rank yX5_rank, Cond.code yX5_rank cX5_rank 5 (some .int), Cond.fieldLink RX5 24 "Versorhall$Workshop" "matrix" "LVersorhall$Matrix;", Cond.fieldLink RX5 93 "Versorhall$Algebra" "units" "I", Cond.methodLink RX5 89 yX2_becomeMapOf, Cond.instanceMethod yX2_becomeMapOf, Cond.selects RX2 yX2_becomeMapOf yX2_becomeMapOf, Cond.initialized RX2, Cond.code yX2_becomeMapOf cX2_becomeMapOf 7 none, Cond.fieldLink RX2 15 "Versorhall$Element" "home" "LVersorhall$Algebra;", Cond.fieldLink RX2 21 "Versorhall$Algebra" "units" "I", Cond.fieldLink RX2 31 "Versorhall$Element" "row" "LVersorhall$Row;", Cond.methodLink RX2 27 yX0_signOf, Cond.methodLink RX2 35 yX4_get, Cond.methodLink RX2 41 yX0_reduced, Cond.methodLink RX2 44 yX2_put, Cond.instanceMethod yX2_put]
def wsL_ofElement_r7 : List Cond := [Cond.selects RX2 yX2_put yX2_put, Cond.code yX2_put cX2_put 5 none, Cond.fieldLink RX2 9 "Versorhall$Matrix" "cells" "[I", Cond.methodLink RX5 96 yX2_reduceColumn, Cond.instanceMethod yX2_reduceColumn, Cond.selects RX2 yX2_reduceColumn yX2_reduceColumn, Cond.code yX2_reduceColumn cX2_reduceColumn 8 (some .boolean), Cond.methodLink RX2 48 yX2_get, Cond.instanceMethod yX2_get, Cond.selects RX2 yX2_get yX2_get, Cond.code yX2_get cX2_get 4 (some .int), Cond.methodLink RX2 50 yX2_swapLines, Cond.instanceMethod yX2_swapLines, Cond.selects RX2 yX2_swapLines yX2_swapLines, Cond.code yX2_swapLines cX2_swapLines 6 none, Cond.methodLink RX2 53 yX0_inverseNumber, Cond.instanceMethod yX0_inverseNumber, Cond.selects RX0 yX0_inverseNumber yX0_inverseNumber, Cond.code yX0_inverseNumber cX0_inverseNumber 3 (some .int), Cond.methodLink RX2 56 yX2_subtractLine, Cond.instanceMethod yX2_subtractLine, Cond.selects RX2 yX2_subtractLine yX2_subtractLine, Cond.code yX2_subtractLine cX2_subtractLine 6 none]
def wsL_ofElement : List Cond := .codeWith yL_ofElement cL_ofElement 5 (some .int) [(0, 11, 14, 30), (0, 11, 18, 19)] :: ((wsL_ofElement_r1 ++ (wsL_ofElement_r2 ++ (wsL_ofElement_r3 ++ (wsL_ofElement_r4 ++ (wsL_ofElement_r5 ++ (wsL_ofElement_r6 ++ wsL_ofElement_r7)))))) ++ wsX70 ++ wsX10 ++ wsX00 ++ wsX60 ++ wsX40 ++ wsX50 ++ wsX20 ++ (vx_atS RX6 56 "java/lang/IllegalArgumentException" ["java/lang/RuntimeException", "java/lang/Exception"]).filter goodWord ++ (vx_atS RX6 280 "java/lang/IndexOutOfBoundsException" ["java/lang/RuntimeException", "java/lang/Exception"]).filter goodWord)
theorem dL_ofElement_0 : decode cL_ofElement 0 = .ok (.aload_n 3, 1) := by decide +kernel
theorem dL_ofElement_1 : decode cL_ofElement 1 = .ok (.aload_n 0, 1) := by decide +kernel
theorem dL_ofElement_2 : decode cL_ofElement 2 = .ok (.iload_n 1, 1) := by decide +kernel
theorem dL_ofElement_3 : decode cL_ofElement 3 = .ok (.iload_n 2, 1) := by decide +kernel
set_option maxRecDepth 20000 in
theorem ggL_ofElement_X6_ofElement : GoodIn wsL_ofElement wsX6_ofElement := goodIn_ca (goodIn_ca (goodIn_r _ [7, 8, 9, 10, 11, 12, 13, 14, 15, 16, 17, 6, 18, 19, 20, 21, 22, 23, 24, 25, 26, 27, 28, 29, 30, 31, 32, 33, 34, 35, 36, 37, 38, 39, 40, 41, 42, 43, 44, 45, 46, 47, 48, 49, 50, 51, 52, 53, 54, 55, 56, 57, 58, 59, 60, 61, 62, 63, 64, 65, 66, 67, 68, 69, 70, 71, 72, 73, 74, 75, 76, 77, 78, 79, 80, 81, 82, 83, 84, 85, 86, 87, 88, 89, 90, 91, 92, 93, 94, 95, 96, 97, 98, 99, 100, 101, 102, 103, 104, 105, 106, 107, 108, 109, 110, 111, 112, 113, 114, 115, 116, 117, 118, 119, 120, 121, 122, 123, 124, 125, 126, 127, 128, 129, 130, 131, 132, 133, 134, 135, 136, 137, 138, 139, 140, 141, 142, 143, 144, 145, 146, 147, 148, 149, 150, 151, 152, 153, 154, 155, 156, 157, 158, 159, 160, 161, 162, 163, 164, 165, 166, 167, 171, 172, 173, 174, 175, 176, 177, 178, 179, 180, 181, 182, 183, 184, 185, 186, 187, 188, 189, 190, 191, 192, 193, 194, 195, 196, 197] (by decide +kernel) (by decide +kernel)) (goodIn_sub (fun _ h => List.mem_cons_of_mem _ (List.mem_append_left _ (List.mem_append_right _ h))) (by decide +kernel))) (goodIn_sub (fun _ h => List.mem_cons_of_mem _ (List.mem_append_right _ h)) (by decide +kernel))
set_option maxRecDepth 20000 in
theorem gL_ofElement_X6_ofElement : GoodIn wsL_ofElement (wsV RL 84 RX6 yX6_ofElement wsX6_ofElement) := goodIn_app (goodIn_of _ (by decide +kernel)) ggL_ofElement_X6_ofElement
theorem dL_ofElement_4 : decode cL_ofElement 4 = .ok (.invokevirtual 84, 3) := by decide +kernel
theorem dL_ofElement_14 : decode cL_ofElement 14 = .ok (.astore 4, 2) := by decide +kernel
theorem dL_ofElement_16 : decode cL_ofElement 16 = .ok (.iconst 1, 1) := by decide +kernel
theorem dL_ofElement_17 : decode cL_ofElement 17 = .ok (.ireturn, 1) := by decide +kernel
def wsL_text_r1 : List Cond := [Cond.classLink RL 30 "java/lang/IndexOutOfBoundsException", Cond.methodLink RL 87 yX6_text, Cond.instanceMethod yX6_text, Cond.selects RX6 yX6_text yX6_text, Cond.initialized RX6, Cond.code yX6_text cX6_text 6 (some (.object "java/lang/String")), Cond.classLink RX6 245 RJ4, Cond.instantiable RJ4 4, Cond.initialized RJ4, Cond.fieldLink RX6 99 "Versorhall$Element" "home" "LVersorhall$Algebra;", Cond.fieldLink RX6 87 "Versorhall$Algebra" "units" "I", Cond.fieldLink RX6 110 "Versorhall$Element" "row" "LVersorhall$Row;", Cond.methodLink RX6 95 yX6_elementOf, Cond.instanceMethod yX6_elementOf, Cond.selects RX6 yX6_elementOf yX6_elementOf, Cond.code yX6_elementOf cX6_elementOf 3 (some (.object "Versorhall$Element")), Cond.classLink RX6 276 "java/lang/IndexOutOfBoundsException", Cond.initialized "java/lang/IndexOutOfBoundsException", Cond.methodLink RX6 360 yX6_elementOrNull, Cond.instanceMethod yX6_elementOrNull, Cond.selects RX6 yX6_elementOrNull yX6_elementOrNull, Cond.code yX6_elementOrNull cX6_elementOrNull 2 (some (.object "Versorhall$Element")), Cond.fieldLink RX6 24 "Versorhall" "elements" "[LVersorhall$Element;", Cond.methodLink RX6 247 yJ4_init_da8c8]
def wsL_text_r2 : List Cond := [Cond.instanceMethod yJ4_init_da8c8, Cond.code yJ4_init_da8c8 cJ4_init_da8c8 1 none, Cond.methodLink RJ4 1 yJ5_init_d00df, Cond.instanceMethod yJ5_init_d00df, Cond.initialized RJ5, Cond.code yJ5_init_d00df cJ5_init_d00df 2 none, Cond.methodLink RJ5 3 objectInit, Cond.instanceMethod objectInit, Cond.code objectInit ⟨#[0xb1]⟩ 1 none, Cond.fieldLink RJ5 18 "java/lang/String" "COMPACT_STRINGS" "Z", Cond.arrayClass .byte, Cond.fieldLink RJ5 15 "java/lang/AbstractStringBuilder" "value" "[B", Cond.fieldLink RJ5 22 "java/lang/AbstractStringBuilder" "coder" "B", Cond.methodLink RJ5 26 yJ2_newBytesFor_77867, Cond.static yJ2_newBytesFor_77867, Cond.initialized RJ2, Cond.code yJ2_newBytesFor_77867 cJ2_newBytesFor_77867 1 (some (.array .byte)), Cond.methodLink RJ2 11 yJ2_newBytesLength_0f7a4, Cond.static yJ2_newBytesLength_0f7a4, Cond.code yJ2_newBytesLength_0f7a4 cJ2_newBytesLength_0f7a4 1 (some .int), Cond.constant RJ2 20 (1073741823), Cond.methodLink RX6 114 yX4_get, Cond.instanceMethod yX4_get, Cond.selects RX4 yX4_get yX4_get]
def wsL_text_r3 : List Cond := [Cond.initialized RX4, Cond.code yX4_get cX4_get 2 (some .int), Cond.fieldLink RX4 9 "Versorhall$Row" "numbers" "[I", Cond.methodLink RX6 248 yJ4_length_8abf5, Cond.instanceMethod yJ4_length_8abf5, Cond.selects RJ4 yJ4_length_8abf5 yJ4_length_8abf5, Cond.code yJ4_length_8abf5 cJ4_length_8abf5 1 (some .int), Cond.methodLink RJ4 343 yJ5_length_8abf5, Cond.sameMethod "java/lang/AbstractStringBuilder" "java/lang/AbstractStringBuilder" "length" "()I", Cond.superclass RJ4 RJ5, Cond.instanceMethod yJ5_length_8abf5, Cond.code yJ5_length_8abf5 cJ5_length_8abf5 1 (some .int), Cond.fieldLink RJ5 79 "java/lang/AbstractStringBuilder" "count" "I", Cond.methodLink RX6 251 yJ4_append_cf468, Cond.instanceMethod yJ4_append_cf468, Cond.selects RJ4 yJ4_append_cf468 yJ4_append_cf468, Cond.code yJ4_append_cf468 cJ4_append_cf468 2 (some (.object "java/lang/StringBuilder")), Cond.methodLink RJ4 50 yJ5_append_3fe6f, Cond.sameMethod "java/lang/AbstractStringBuilder" "java/lang/AbstractStringBuilder" "append" "(C)Ljava/lang/AbstractStringBuilder;", Cond.instanceMethod yJ5_append_3fe6f, Cond.code yJ5_append_3fe6f cJ5_append_3fe6f 2 (some (.object "java/lang/AbstractStringBuilder")), Cond.methodLink RJ5 100 ⟨"java/lang/AbstractStringBuilder", "ensureCapacityInternal", "(I)V"⟩, Cond.sameMethod "java/lang/AbstractStringBuilder" "java/lang/AbstractStringBuilder" "ensureCapacityInternal" "(I)V", Cond.selects RJ4 ⟨"java/lang/AbstractStringBuilder", "ensureCapacityInternal", "(I)V"⟩ yJ5_ensureCapacityInternal_d00df]
def wsL_text_r4 : List Cond := [Cond.instanceMethod yJ5_ensureCapacityInternal_d00df, Cond.code yJ5_ensureCapacityInternal_d00df cJ5_ensureCapacityInternal_d00df 3 none, Cond.methodLink RJ5 104 ⟨"java/lang/AbstractStringBuilder", "newCapacity", "(I)I"⟩, Cond.sameMethod "java/lang/AbstractStringBuilder" "java/lang/AbstractStringBuilder" "newCapacity" "(I)I", Cond.selects RJ4 ⟨"java/lang/AbstractStringBuilder", "newCapacity", "(I)I"⟩ yJ5_newCapacity_0f7a4, Cond.instanceMethod yJ5_newCapacity_0f7a4, Cond.code yJ5_newCapacity_0f7a4 cJ5_newCapacity_0f7a4 6 (some .int), Cond.constant RJ5 39 (2147483647), Cond.methodLink RJ5 114 yJ8_newLength_cabcc, Cond.static yJ8_newLength_cabcc, Cond.initialized RJ8, Cond.code yJ8_newLength_cabcc cJ8_newLength_cabcc 4 (some .int), Cond.methodLink RJ8 194 Lib.Math.max.name, Cond.static Lib.Math.max.name, Cond.initialized "java/lang/Math", Cond.code Lib.Math.max.name Lib.Math.max.code 2 (some .int), Cond.constant RJ8 200 (2147483639), Cond.methodLink RJ8 201 yJ8_hugeLength_7cf53, Cond.static yJ8_hugeLength_7cf53, Cond.code yJ8_hugeLength_7cf53 cJ8_hugeLength_7cf53 3 (some .int), Cond.methodLink RJ5 108 yJ7_copyOf_9075b, Cond.static yJ7_copyOf_9075b, Cond.initialized RJ7, Cond.code yJ7_copyOf_9075b cJ7_copyOf_9075b 3 (some (.array .byte))]
def wsL_text_r5 : List Cond := [Cond.methodLink RJ7 310 ⟨"[B", "clone", "()Ljava/lang/Object;"⟩, Cond.sameMethod "[B" "java/lang/Object" "clone" "()Ljava/lang/Object;", Cond.native ⟨"java/lang/Object", "clone", "()Ljava/lang/Object;"⟩, Cond.instanceMethod ⟨"java/lang/Object", "clone", "()Ljava/lang/Object;"⟩, Cond.selects "[B" ⟨"[B", "clone", "()Ljava/lang/Object;"⟩ ⟨"java/lang/Object", "clone", "()Ljava/lang/Object;"⟩, Cond.classLink RJ7 311 "[B", Cond.methodLink RJ7 304 Lib.Math.min.name, Cond.static Lib.Math.min.name, Cond.code Lib.Math.min.name Lib.Math.min.code 2 (some .int), Cond.methodLink RJ7 150 arraycopyName, Cond.native arraycopyName, Cond.static arraycopyName, Cond.initialized "java/lang/System", Cond.methodLink RJ5 83 ⟨"java/lang/AbstractStringBuilder", "isLatin1", "()Z"⟩, Cond.sameMethod "java/lang/AbstractStringBuilder" "java/lang/AbstractStringBuilder" "isLatin1" "()Z", Cond.selects RJ4 ⟨"java/lang/AbstractStringBuilder", "isLatin1", "()Z"⟩ yJ5_isLatin1_aae02, Cond.instanceMethod yJ5_isLatin1_aae02, Cond.code yJ5_isLatin1_aae02 cJ5_isLatin1_aae02 1 (some .boolean), Cond.methodLink RJ5 191 yJ1_canEncode_fc78d, Cond.static yJ1_canEncode_fc78d, Cond.initialized RJ1, Cond.code yJ1_canEncode_fc78d cJ1_canEncode_fc78d 1 (some .boolean), Cond.methodLink RJ5 195 ⟨"java/lang/AbstractStringBuilder", "inflate", "()V"⟩, Cond.sameMethod "java/lang/AbstractStringBuilder" "java/lang/AbstractStringBuilder" "inflate" "()V"]
def wsL_text_r6 : List Cond := [Cond.selects RJ4 ⟨"java/lang/AbstractStringBuilder", "inflate", "()V"⟩ yJ5_inflate_da8c8, Cond.instanceMethod yJ5_inflate_da8c8, Cond.code yJ5_inflate_da8c8 cJ5_inflate_da8c8 2 none, Cond.methodLink RJ5 125 yJ1_inflate_0e8fd, Cond.static yJ1_inflate_0e8fd, Cond.code yJ1_inflate_0e8fd cJ1_inflate_0e8fd 5 none, Cond.methodLink RJ1 240 yJ2_inflate_0e8fd, Cond.static yJ2_inflate_0e8fd, Cond.code yJ2_inflate_0e8fd cJ2_inflate_0e8fd 6 none, Cond.methodLink RJ2 173 yJ2_checkBoundsOffCount_d044e, Cond.static yJ2_checkBoundsOffCount_d044e, Cond.code yJ2_checkBoundsOffCount_d044e cJ2_checkBoundsOffCount_d044e 3 none, Cond.methodLink RJ2 48 yJ2_length_9d52b, Cond.static yJ2_length_9d52b, Cond.code yJ2_length_9d52b cJ2_length_9d52b 1 (some .int), Cond.methodLink RJ2 419 yJ0_checkBoundsOffCount_cabcc, Cond.static yJ0_checkBoundsOffCount_cabcc, Cond.initialized RJ0, Cond.code yJ0_checkBoundsOffCount_cabcc cJ0_checkBoundsOffCount_cabcc 3 (some .int), Cond.fieldLink RJ0 1053 "jdk/internal/util/Preconditions" "SIOOBE_FORMATTER" "Ljava/util/function/BiFunction;", Cond.methodLink RJ0 1065 yJ3_checkFromIndexSize_8c36e, Cond.static yJ3_checkFromIndexSize_8c36e, Cond.initialized RJ3, Cond.code yJ3_checkFromIndexSize_8c36e cJ3_checkFromIndexSize_8c36e 4 (some .int)]
def wsL_text_r7 : List Cond := [Cond.methodLink RJ2 111 yJ2_putChar_b72d1, Cond.static yJ2_putChar_b72d1, Cond.code yJ2_putChar_b72d1 cJ2_putChar_b72d1 3 none, Cond.fieldLink RJ2 44 "java/lang/StringUTF16" "$assertionsDisabled" "Z", Cond.fieldLink RJ2 59 "java/lang/StringUTF16" "HI_BYTE_SHIFT" "I", Cond.fieldLink RJ2 63 "java/lang/StringUTF16" "LO_BYTE_SHIFT" "I", Cond.methodLink RJ5 197 yJ2_putCharSB_b72d1, Cond.static yJ2_putCharSB_b72d1, Cond.code yJ2_putCharSB_b72d1 cJ2_putCharSB_b72d1 3 none, Cond.methodLink RJ2 67 yJ2_checkIndex_2214a, Cond.static yJ2_checkIndex_2214a, Cond.code yJ2_checkIndex_2214a cJ2_checkIndex_2214a 2 none, Cond.methodLink RJ2 414 yJ0_checkIndex_df160, Cond.static yJ0_checkIndex_df160, Cond.code yJ0_checkIndex_df160 cJ0_checkIndex_df160 2 none, Cond.methodLink RJ0 1059 yJ3_checkIndex_8e157, Cond.static yJ3_checkIndex_8e157, Cond.code yJ3_checkIndex_8e157 cJ3_checkIndex_8e157 3 (some .int), Cond.methodLink RX6 255 yJ4_append_bf812, Cond.instanceMethod yJ4_append_bf812, Cond.selects RJ4 yJ4_append_bf812 yJ4_append_bf812, Cond.code yJ4_append_bf812 cJ4_append_bf812 2 (some (.object "java/lang/StringBuilder")), Cond.methodLink RJ4 53 yJ5_append_c97b9, Cond.sameMethod "java/lang/AbstractStringBuilder" "java/lang/AbstractStringBuilder" "append" "(I)Ljava/lang/AbstractStringBuilder;"]
def wsL_text_r8 : List Cond := [Cond.instanceMethod yJ5_append_c97b9, Cond.code yJ5_append_c97b9 cJ5_append_c97b9 4 (some (.object "java/lang/AbstractStringBuilder")), Cond.methodLink RJ5 245 yJ6_stringSize_0f7a4, Cond.static yJ6_stringSize_0f7a4, Cond.initialized RJ6, Cond.code yJ6_stringSize_0f7a4 cJ6_stringSize_0f7a4 4 (some .int), Cond.methodLink RJ5 248 yJ6_getChars_ba4f3, Cond.static yJ6_getChars_ba4f3, Cond.code yJ6_getChars_ba4f3 cJ6_getChars_ba4f3 7 (some .int), Cond.fieldLink RJ6 83 "java/lang/Integer" "DigitOnes" "[B", Cond.fieldLink RJ6 87 "java/lang/Integer" "DigitTens" "[B", Cond.methodLink RJ5 251 yJ2_getChars_46870, Cond.static yJ2_getChars_46870, Cond.code yJ2_getChars_46870 cJ2_getChars_46870 5 (some .int), Cond.methodLink RJ2 96 yJ2_checkBoundsBeginEnd_d044e, Cond.static yJ2_checkBoundsBeginEnd_d044e, Cond.code yJ2_checkBoundsBeginEnd_d044e cJ2_checkBoundsBeginEnd_d044e 3 none, Cond.methodLink RJ2 241 yJ0_checkBoundsBeginEnd_23922, Cond.static yJ0_checkBoundsBeginEnd_23922, Cond.code yJ0_checkBoundsBeginEnd_23922 cJ0_checkBoundsBeginEnd_23922 3 none, Cond.methodLink RJ0 1062 yJ3_checkFromToIndex_8c36e, Cond.static yJ3_checkFromToIndex_8c36e, Cond.code yJ3_checkFromToIndex_8c36e cJ3_checkFromToIndex_8c36e 4 (some .int), Cond.methodLink RJ2 393 yJ2_getChars_ba4f3]
def wsL_text_r9 : List Cond := [Cond.static yJ2_getChars_ba4f3, Cond.code yJ2_getChars_ba4f3 cJ2_getChars_ba4f3 7 (some .int), Cond.fieldLink RJ2 403 "java/lang/Integer" "DigitOnes" "[B", Cond.fieldLink RJ2 407 "java/lang/Integer" "DigitTens" "[B", Cond.methodLink RX6 258 yJ4_toString_0e30d, Cond.instanceMethod yJ4_toString_0e30d, Cond.selects RJ4 yJ4_toString_0e30d yJ4_toString_0e30d, Cond.code yJ4_toString_0e30d cJ4_toString_0e30d 1 (some (.object "java/lang/String")), Cond.classLink RJ4 18 RJ0, Cond.instantiable RJ0 4, Cond.methodLink RJ4 137 yJ0_init_81219, Cond.instanceMethod yJ0_init_81219, Cond.code yJ0_init_81219 cJ0_init_81219 2 none, Cond.methodLink RJ0 489 yJ0_init_db425, Cond.instanceMethod yJ0_init_db425, Cond.code yJ0_init_db425 cJ0_init_db425 5 none, Cond.methodLink RJ0 1 objectInit, Cond.fieldLink RJ0 15 "java/lang/String" "coder" "B", Cond.fieldLink RJ0 9 "java/lang/String" "value" "[B", Cond.fieldLink RJ0 38 "java/lang/String" "COMPACT_STRINGS" "Z", Cond.fieldLink RJ0 1048 "java/lang/AbstractStringBuilder" "maybeLatin1" "Z", Cond.methodLink RJ0 552 ⟨"java/lang/AbstractStringBuilder", "getValue", "()[B"⟩, Cond.sameMethod "java/lang/AbstractStringBuilder" "java/lang/AbstractStringBuilder" "getValue" "()[B", Cond.selects RJ4 ⟨"java/lang/AbstractStringBuilder", "getValue", "()[B"⟩ yJ5_getValue_6d5f1]
def wsL_text_r10 : List Cond := [Cond.instanceMethod yJ5_getValue_6d5f1, Cond.code yJ5_getValue_6d5f1 cJ5_getValue_6d5f1 1 (some (.array .byte)), Cond.methodLink RJ0 549 ⟨"java/lang/AbstractStringBuilder", "length", "()I"⟩, Cond.instanceMethod ⟨"java/lang/AbstractStringBuilder", "length", "()I"⟩, Cond.selects RJ4 ⟨"java/lang/AbstractStringBuilder", "length", "()I"⟩ yJ4_length_8abf5, Cond.methodLink RJ0 1047 ⟨"java/lang/AbstractStringBuilder", "isLatin1", "()Z"⟩, Cond.methodLink RJ0 54 yJ7_copyOfRange_39247, Cond.static yJ7_copyOfRange_39247, Cond.code yJ7_copyOfRange_39247 cJ7_copyOfRange_39247 3 (some (.array .byte)), Cond.methodLink RJ7 339 yJ7_copyOfRangeByte_39247, Cond.static yJ7_copyOfRangeByte_39247, Cond.code yJ7_copyOfRangeByte_39247 cJ7_copyOfRangeByte_39247 5 (some (.array .byte)), Cond.methodLink RJ7 343 yJ7_checkLength_df160, Cond.static yJ7_checkLength_df160, Cond.code yJ7_checkLength_df160 cJ7_checkLength_df160 2 none, Cond.classLink RJ7 45 RJ4, Cond.methodLink RJ0 1051 yJ2_compress_39247, Cond.static yJ2_compress_39247, Cond.code yJ2_compress_39247 cJ2_compress_39247 6 (some (.array .byte)), Cond.methodLink RJ2 123 yJ2_compress_5af95, Cond.static yJ2_compress_5af95, Cond.code yJ2_compress_5af95 cJ2_compress_5af95 7 (some .int), Cond.methodLink RJ2 71 yJ2_getChar_3b067, Cond.static yJ2_getChar_3b067]
def wsL_text_r11 : List Cond := [Cond.code yJ2_getChar_3b067 cJ2_getChar_3b067 2 (some .char), Cond.methodLink RJ2 126 yJ7_copyOfRange_39247, Cond.methodLink RJ0 47 yJ2_coderFromArrayLen_85cad, Cond.static yJ2_coderFromArrayLen_85cad, Cond.code yJ2_coderFromArrayLen_85cad cJ2_coderFromArrayLen_85cad 2 (some .byte)]
def wsL_text : List Cond := .codeWith yL_text cL_text 4 (some .int) [(0, 9, 12, 30)] :: ((wsL_text_r1 ++ (wsL_text_r2 ++ (wsL_text_r3 ++ (wsL_text_r4 ++ (wsL_text_r5 ++ (wsL_text_r6 ++ (wsL_text_r7 ++ (wsL_text_r8 ++ (wsL_text_r9 ++ (wsL_text_r10 ++ wsL_text_r11)))))))))) ++ wsX70 ++ wsJ40 ++ wsX10 ++ wsX00 ++ wsX60 ++ wsX40 ++ wsJ00 ++ (vx_atS RX6 280 "java/lang/IndexOutOfBoundsException" ["java/lang/RuntimeException", "java/lang/Exception"]).filter goodWord)
theorem dL_text_0 : decode cL_text 0 = .ok (.aload_n 2, 1) := by decide +kernel
theorem dL_text_1 : decode cL_text 1 = .ok (.aload_n 0, 1) := by decide +kernel
theorem dL_text_2 : decode cL_text 2 = .ok (.iload_n 1, 1) := by decide +kernel
set_option maxRecDepth 20000 in
theorem ggL_text_X6_text : GoodIn wsL_text wsX6_text := goodIn_ca (goodIn_r _ [6, 7, 8, 9, 10, 11, 12, 13, 14, 15, 5, 16, 17, 18, 19, 20, 21, 22, 23, 24, 25, 26, 27, 28, 29, 30, 31, 32, 33, 34, 35, 36, 37, 38, 39, 40, 41, 42, 43, 44, 45, 46, 47, 48, 49, 50, 51, 52, 53, 54, 55, 56, 57, 58, 59, 60, 61, 62, 63, 64, 65, 66, 67, 68, 69, 70, 71, 72, 73, 74, 75, 76, 77, 78, 79, 80, 81, 82, 83, 84, 85, 86, 87, 88, 89, 90, 91, 92, 93, 94, 95, 96, 97, 98, 99, 100, 101, 102, 103, 104, 105, 106, 107, 108, 109, 110, 111, 112, 113, 114, 115, 116, 117, 118, 119, 120, 121, 122, 123, 124, 125, 126, 127, 128, 129, 130, 131, 132, 133, 134, 135, 136, 137, 138, 139, 140, 141, 142, 143, 144, 145, 146, 147, 148, 149, 150, 151, 152, 153, 154, 155, 156, 157, 158, 159, 160, 161, 162, 163, 164, 165, 166, 167, 168, 169, 170, 171, 172, 173, 174, 175, 176, 177, 178, 179, 180, 181, 182, 183, 184, 185, 186, 187, 188, 189, 190, 191, 192, 193, 194, 195, 196, 197, 198, 199, 200, 201, 202, 203, 204, 205, 206, 207, 208, 209, 210, 211, 212, 213, 214, 215, 216, 217, 218, 219, 220, 221, 222, 223, 224, 225, 226, 227, 228, 229, 230, 231, 232, 233, 234, 235, 236, 237, 238, 239, 240, 241, 242, 243, 244, 245, 249, 250, 251, 252, 253, 254, 255, 256, 257, 258, 259, 260, 261, 262, 263, 264, 265, 266, 267, 268, 269, 270, 271, 272, 273, 274, 275, 276, 277, 278, 279] (by decide +kernel) (by decide +kernel)) (goodIn_sub (fun _ h => List.mem_cons_of_mem _ (List.mem_append_right _ h)) (by decide +kernel))
set_option maxRecDepth 20000 in
theorem gL_text_X6_text : GoodIn wsL_text (wsV RL 87 RX6 yX6_text wsX6_text) := goodIn_app (goodIn_of _ (by decide +kernel)) ggL_text_X6_text
theorem dL_text_3 : decode cL_text 3 = .ok (.invokevirtual 87, 3) := by decide +kernel
theorem dL_text_12 : decode cL_text 12 = .ok (.astore_n 3, 1) := by decide +kernel
theorem dL_text_13 : decode cL_text 13 = .ok (.iconst 1, 1) := by decide +kernel
theorem dL_text_14 : decode cL_text 14 = .ok (.ireturn, 1) := by decide +kernel
def wsL_ofAlgebra_r1 : List Cond := [Cond.classLink RL 30 "java/lang/IndexOutOfBoundsException", Cond.classLink RL 19 "java/lang/IllegalArgumentException", Cond.methodLink RL 95 yX6_ofAlgebra, Cond.instanceMethod yX6_ofAlgebra, Cond.selects RX6 yX6_ofAlgebra yX6_ofAlgebra, Cond.initialized RX6, Cond.code yX6_ofAlgebra cX6_ofAlgebra 4 (some .int), Cond.classLink RX6 52 "java/lang/IllegalArgumentException", Cond.initialized "java/lang/IllegalArgumentException", Cond.fieldLink RX6 264 "Versorhall$Algebra" "kind" "I", Cond.fieldLink RX6 77 "Versorhall$Algebra" "dialCount" "I", Cond.fieldLink RX6 87 "Versorhall$Algebra" "units" "I", Cond.fieldLink RX6 80 "Versorhall$Algebra" "elementCount" "I", Cond.fieldLink RX6 178 "Versorhall$Algebra" "mirrors" "LVersorhall$Pile;", Cond.fieldLink RX6 181 "Versorhall$Pile" "height" "I", Cond.methodLink RX6 71 yX6_algebraOf, Cond.instanceMethod yX6_algebraOf, Cond.selects RX6 yX6_algebraOf yX6_algebraOf, Cond.code yX6_algebraOf cX6_algebraOf 3 (some (.object "Versorhall$Algebra")), Cond.classLink RX6 276 "java/lang/IndexOutOfBoundsException", Cond.initialized "java/lang/IndexOutOfBoundsException", Cond.fieldLink RX6 15 "Versorhall" "algebras" "[LVersorhall$Algebra;", Cond.methodLink RX6 267 yX0_centre, Cond.instanceMethod yX0_centre]
def wsL_ofAlgebra_r2 : List Cond := [Cond.selects RX0 yX0_centre yX0_centre, Cond.initialized RX0, Cond.code yX0_centre cX0_centre 3 (some .int), Cond.fieldLink RX0 15 "Versorhall$Algebra" "units" "I", Cond.methodLink RX0 123 yX0_isCentral, Cond.instanceMethod yX0_isCentral, Cond.selects RX0 yX0_isCentral yX0_isCentral, Cond.code yX0_isCentral cX0_isCentral 3 (some .boolean), Cond.methodLink RX0 115 yX0_isKept, Cond.instanceMethod yX0_isKept, Cond.selects RX0 yX0_isKept yX0_isKept, Cond.code yX0_isKept cX0_isKept 5 (some .boolean), Cond.methodLink RX0 68 yX0_signOf, Cond.instanceMethod yX0_signOf, Cond.selects RX0 yX0_signOf yX0_signOf, Cond.code yX0_signOf cX0_signOf 4 (some .int), Cond.fieldLink RX0 32 "Versorhall$Algebra" "signs" "[I", Cond.methodLink RX0 119 yX0_gap, Cond.instanceMethod yX0_gap, Cond.selects RX0 yX0_gap yX0_gap, Cond.code yX0_gap cX0_gap 4 (some .int), Cond.methodLink RX0 76 yX0_reduced, Cond.instanceMethod yX0_reduced, Cond.selects RX0 yX0_reduced yX0_reduced]
def wsL_ofAlgebra_r3 : List Cond := [Cond.code yX0_reduced cX0_reduced 3 (some .int), Cond.fieldLink RX0 51 "Versorhall$Algebra" "prime" "I"]
def wsL_ofAlgebra : List Cond := .codeWith yL_ofAlgebra cL_ofAlgebra 5 (some .int) [(0, 11, 14, 30), (0, 11, 18, 19)] :: ((wsL_ofAlgebra_r1 ++ (wsL_ofAlgebra_r2 ++ wsL_ofAlgebra_r3)) ++ wsX70 ++ wsX00 ++ wsX30 ++ wsX60 ++ (vx_atS RX6 56 "java/lang/IllegalArgumentException" ["java/lang/RuntimeException", "java/lang/Exception"]).filter goodWord ++ (vx_atS RX6 280 "java/lang/IndexOutOfBoundsException" ["java/lang/RuntimeException", "java/lang/Exception"]).filter goodWord)
theorem dL_ofAlgebra_0 : decode cL_ofAlgebra 0 = .ok (.aload_n 3, 1) := by decide +kernel
theorem dL_ofAlgebra_1 : decode cL_ofAlgebra 1 = .ok (.aload_n 0, 1) := by decide +kernel
theorem dL_ofAlgebra_2 : decode cL_ofAlgebra 2 = .ok (.iload_n 1, 1) := by decide +kernel
theorem dL_ofAlgebra_3 : decode cL_ofAlgebra 3 = .ok (.iload_n 2, 1) := by decide +kernel
set_option maxRecDepth 20000 in
theorem ggL_ofAlgebra_X6_ofAlgebra : GoodIn wsL_ofAlgebra wsX6_ofAlgebra := goodIn_ca (goodIn_ca (goodIn_r _ [7, 8, 9, 10, 11, 12, 13, 14, 15, 16, 17, 18, 6, 19, 20, 21, 22, 23, 24, 25, 26, 27, 28, 29, 30, 31, 32, 33, 34, 35, 36, 37, 38, 39, 40, 41, 42, 43, 44, 45, 46, 47, 48, 49, 50, 54, 55, 56, 57, 58, 59, 60, 61, 62, 63, 64, 65, 66, 67, 68, 69, 70, 71, 72, 73, 74, 75] (by decide +kernel) (by decide +kernel)) (goodIn_sub (fun _ h => List.mem_cons_of_mem _ (List.mem_append_left _ (List.mem_append_right _ h))) (by decide +kernel))) (goodIn_sub (fun _ h => List.mem_cons_of_mem _ (List.mem_append_right _ h)) (by decide +kernel))
set_option maxRecDepth 20000 in
theorem gL_ofAlgebra_X6_ofAlgebra : GoodIn wsL_ofAlgebra (wsV RL 95 RX6 yX6_ofAlgebra wsX6_ofAlgebra) := goodIn_app (goodIn_of _ (by decide +kernel)) ggL_ofAlgebra_X6_ofAlgebra
theorem dL_ofAlgebra_4 : decode cL_ofAlgebra 4 = .ok (.invokevirtual 95, 3) := by decide +kernel
theorem dL_ofAlgebra_14 : decode cL_ofAlgebra 14 = .ok (.astore 4, 2) := by decide +kernel
theorem dL_ofAlgebra_16 : decode cL_ofAlgebra 16 = .ok (.iconst 1, 1) := by decide +kernel
theorem dL_ofAlgebra_17 : decode cL_ofAlgebra 17 = .ok (.ireturn, 1) := by decide +kernel
def wsL_sign : List Cond := .codeWith yL_sign cL_sign 6 (some .int) [(0, 13, 16, 30)] :: ([.classLink RL 30 "java/lang/IndexOutOfBoundsException", .methodLink RL 98 yX6_sign, .instanceMethod yX6_sign, .selects RX6 yX6_sign yX6_sign, .initialized RX6, .code yX6_sign cX6_sign 5 (some .int), .methodLink RX6 71 yX6_algebraOf, .instanceMethod yX6_algebraOf, .selects RX6 yX6_algebraOf yX6_algebraOf, .code yX6_algebraOf cX6_algebraOf 3 (some (.object "Versorhall$Algebra")), .classLink RX6 276 "java/lang/IndexOutOfBoundsException", .initialized "java/lang/IndexOutOfBoundsException", .fieldLink RX6 15 "Versorhall" "algebras" "[LVersorhall$Algebra;", .methodLink RX6 103 yX6_demandUnit, .static yX6_demandUnit, .code yX6_demandUnit cX6_demandUnit 2 none, .fieldLink RX6 87 "Versorhall$Algebra" "units" "I", .methodLink RX6 272 yX0_signOf, .instanceMethod yX0_signOf, .selects RX0 yX0_signOf yX0_signOf, .initialized RX0, .code yX0_signOf cX0_signOf 4 (some .int), .fieldLink RX0 32 "Versorhall$Algebra" "signs" "[I"] ++ wsX70 ++ wsX60 ++ wsX00 ++ (vx_atS RX6 280 "java/lang/IndexOutOfBoundsException" ["java/lang/RuntimeException", "java/lang/Exception"]).filter goodWord)
theorem dL_sign_0 : decode cL_sign 0 = .ok (.aload 4, 2) := by decide +kernel
theorem dL_sign_2 : decode cL_sign 2 = .ok (.aload_n 0, 1) := by decide +kernel
theorem dL_sign_3 : decode cL_sign 3 = .ok (.iload_n 1, 1) := by decide +kernel
theorem dL_sign_4 : decode cL_sign 4 = .ok (.iload_n 2, 1) := by decide +kernel
theorem dL_sign_5 : decode cL_sign 5 = .ok (.iload_n 3, 1) := by decide +kernel
set_option maxRecDepth 20000 in
theorem ggL_sign_X6_sign : GoodIn wsL_sign wsX6_sign := goodIn_ca (goodIn_r _ [6, 7, 8, 9, 5, 10, 11, 12, 13, 14, 15, 16, 17, 18, 19, 20, 21, 22, 23, 27, 28, 29, 30, 31, 32, 33, 34, 35, 36, 37, 38, 39, 40, 41, 42, 43, 44, 45, 46] (by decide +kernel) (by decide +kernel)) (goodIn_sub (fun _ h => List.mem_cons_of_mem _ (List.mem_append_right _ h)) (by decide +kernel))
set_option maxRecDepth 20000 in
theorem gL_sign_X6_sign : GoodIn wsL_sign (wsV RL 98 RX6 yX6_sign wsX6_sign) := goodIn_app (goodIn_of _ (by decide +kernel)) ggL_sign_X6_sign
theorem dL_sign_6 : decode cL_sign 6 = .ok (.invokevirtual 98, 3) := by decide +kernel
theorem dL_sign_16 : decode cL_sign 16 = .ok (.astore 5, 2) := by decide +kernel
theorem dL_sign_18 : decode cL_sign 18 = .ok (.iconst 1, 1) := by decide +kernel
theorem dL_sign_19 : decode cL_sign 19 = .ok (.ireturn, 1) := by decide +kernel
def wsL_breaks_r1 : List Cond := [Cond.classLink RL 30 "java/lang/IndexOutOfBoundsException", Cond.methodLink RL 101 yX6_breaks, Cond.instanceMethod yX6_breaks, Cond.selects RX6 yX6_breaks yX6_breaks, Cond.initialized RX6, Cond.code yX6_breaks cX6_breaks 4 (some .int), Cond.classLink RX6 276 "java/lang/IndexOutOfBoundsException", Cond.initialized "java/lang/IndexOutOfBoundsException", Cond.methodLink RX6 71 yX6_algebraOf, Cond.instanceMethod yX6_algebraOf, Cond.selects RX6 yX6_algebraOf yX6_algebraOf, Cond.code yX6_algebraOf cX6_algebraOf 3 (some (.object "Versorhall$Algebra")), Cond.fieldLink RX6 15 "Versorhall" "algebras" "[LVersorhall$Algebra;", Cond.methodLink RX6 281 yX0_breakOf, Cond.instanceMethod yX0_breakOf, Cond.selects RX0 yX0_breakOf yX0_breakOf, Cond.initialized RX0, Cond.code yX0_breakOf cX0_breakOf 2 (some .int), Cond.fieldLink RX0 35 "Versorhall$Algebra" "firstBreaks" "[I", Cond.methodLink RX0 112 yX0_findBreak, Cond.instanceMethod yX0_findBreak, Cond.selects RX0 yX0_findBreak yX0_findBreak, Cond.code yX0_findBreak cX0_findBreak 6 (some .int), Cond.fieldLink RX0 15 "Versorhall$Algebra" "units" "I"]
def wsL_breaks_r2 : List Cond := [Cond.methodLink RX0 115 yX0_isKept, Cond.instanceMethod yX0_isKept, Cond.selects RX0 yX0_isKept yX0_isKept, Cond.code yX0_isKept cX0_isKept 5 (some .boolean), Cond.methodLink RX0 68 yX0_signOf, Cond.instanceMethod yX0_signOf, Cond.selects RX0 yX0_signOf yX0_signOf, Cond.code yX0_signOf cX0_signOf 4 (some .int), Cond.fieldLink RX0 32 "Versorhall$Algebra" "signs" "[I", Cond.methodLink RX0 119 yX0_gap, Cond.instanceMethod yX0_gap, Cond.selects RX0 yX0_gap yX0_gap, Cond.code yX0_gap cX0_gap 4 (some .int), Cond.methodLink RX0 76 yX0_reduced, Cond.instanceMethod yX0_reduced, Cond.selects RX0 yX0_reduced yX0_reduced, Cond.code yX0_reduced cX0_reduced 3 (some .int), Cond.fieldLink RX0 51 "Versorhall$Algebra" "prime" "I"]
def wsL_breaks : List Cond := .codeWith yL_breaks cL_breaks 5 (some .int) [(0, 11, 14, 30)] :: ((wsL_breaks_r1 ++ wsL_breaks_r2) ++ wsX70 ++ wsX60 ++ wsX00 ++ (vx_atS RX6 280 "java/lang/IndexOutOfBoundsException" ["java/lang/RuntimeException", "java/lang/Exception"]).filter goodWord)
theorem dL_breaks_0 : decode cL_breaks 0 = .ok (.aload_n 3, 1) := by decide +kernel
theorem dL_breaks_1 : decode cL_breaks 1 = .ok (.aload_n 0, 1) := by decide +kernel
theorem dL_breaks_2 : decode cL_breaks 2 = .ok (.iload_n 1, 1) := by decide +kernel
theorem dL_breaks_3 : decode cL_breaks 3 = .ok (.iload_n 2, 1) := by decide +kernel
set_option maxRecDepth 20000 in
theorem ggL_breaks_X6_breaks : GoodIn wsL_breaks wsX6_breaks := goodIn_ca (goodIn_r _ [6, 7, 8, 9, 10, 11, 5, 12, 13, 14, 15, 16, 17, 18, 19, 20, 21, 22, 23, 24, 25, 26, 27, 28, 29, 30, 31, 32, 33, 34, 35, 36, 37, 38, 39, 40, 41, 42, 46, 47, 48, 49, 50, 51, 52, 53, 54, 55, 56, 57, 58, 59, 60, 61, 62, 63, 64, 65] (by decide +kernel) (by decide +kernel)) (goodIn_sub (fun _ h => List.mem_cons_of_mem _ (List.mem_append_right _ h)) (by decide +kernel))
set_option maxRecDepth 20000 in
theorem gL_breaks_X6_breaks : GoodIn wsL_breaks (wsV RL 101 RX6 yX6_breaks wsX6_breaks) := goodIn_app (goodIn_of _ (by decide +kernel)) ggL_breaks_X6_breaks
theorem dL_breaks_4 : decode cL_breaks 4 = .ok (.invokevirtual 101, 3) := by decide +kernel
theorem dL_breaks_14 : decode cL_breaks 14 = .ok (.astore 4, 2) := by decide +kernel
theorem dL_breaks_16 : decode cL_breaks 16 = .ok (.iconst 1, 1) := by decide +kernel
theorem dL_breaks_17 : decode cL_breaks 17 = .ok (.ireturn, 1) := by decide +kernel
def wsL_lean_r1 : List Cond := [Cond.classLink RL 30 "java/lang/IndexOutOfBoundsException", Cond.methodLink RL 104 yX6_lean, Cond.instanceMethod yX6_lean, Cond.selects RX6 yX6_lean yX6_lean, Cond.initialized RX6, Cond.code yX6_lean cX6_lean 2 (some .double), Cond.constantDouble RX6 287 (4616189618054758400), Cond.methodLink RX6 95 yX6_elementOf, Cond.instanceMethod yX6_elementOf, Cond.selects RX6 yX6_elementOf yX6_elementOf, Cond.code yX6_elementOf cX6_elementOf 3 (some (.object "Versorhall$Element")), Cond.classLink RX6 276 "java/lang/IndexOutOfBoundsException", Cond.initialized "java/lang/IndexOutOfBoundsException", Cond.methodLink RX6 360 yX6_elementOrNull, Cond.instanceMethod yX6_elementOrNull, Cond.selects RX6 yX6_elementOrNull yX6_elementOrNull, Cond.code yX6_elementOrNull cX6_elementOrNull 2 (some (.object "Versorhall$Element")), Cond.fieldLink RX6 24 "Versorhall" "elements" "[LVersorhall$Element;", Cond.methodLink RX6 284 yX1_leanInQuarters, Cond.instanceMethod yX1_leanInQuarters, Cond.selects RX1 yX1_leanInQuarters yX1_leanInQuarters, Cond.initialized RX1, Cond.code yX1_leanInQuarters cX1_leanInQuarters 3 (some .int), Cond.fieldLink RX1 16 "Versorhall$Element" "home" "LVersorhall$Algebra;"]
def wsL_lean_r2 : List Cond := [Cond.fieldLink RX1 20 "Versorhall$Algebra" "units" "I", Cond.fieldLink RX1 10 "Versorhall$Element" "row" "LVersorhall$Row;", Cond.methodLink RX1 26 yX4_get, Cond.instanceMethod yX4_get, Cond.selects RX4 yX4_get yX4_get, Cond.initialized RX4, Cond.code yX4_get cX4_get 2 (some .int), Cond.fieldLink RX4 9 "Versorhall$Row" "numbers" "[I", Cond.methodLink RX1 30 yX0_signed, Cond.instanceMethod yX0_signed, Cond.selects RX0 yX0_signed yX0_signed, Cond.initialized RX0, Cond.code yX0_signed cX0_signed 2 (some .int), Cond.fieldLink RX0 51 "Versorhall$Algebra" "prime" "I", Cond.methodLink RX1 33 yX4_isPlain, Cond.instanceMethod yX4_isPlain, Cond.selects RX4 yX4_isPlain yX4_isPlain, Cond.code yX4_isPlain cX4_isPlain 2 (some .boolean)]
def wsL_lean : List Cond := .codeWith yL_lean cL_lean 4 (some .int) [(0, 9, 12, 30)] :: ((wsL_lean_r1 ++ wsL_lean_r2) ++ wsX70 ++ wsX60 ++ wsX10 ++ wsX00 ++ wsX40 ++ (vx_atS RX6 280 "java/lang/IndexOutOfBoundsException" ["java/lang/RuntimeException", "java/lang/Exception"]).filter goodWord)
theorem dL_lean_0 : decode cL_lean 0 = .ok (.aload_n 2, 1) := by decide +kernel
theorem dL_lean_1 : decode cL_lean 1 = .ok (.aload_n 0, 1) := by decide +kernel
theorem dL_lean_2 : decode cL_lean 2 = .ok (.iload_n 1, 1) := by decide +kernel
set_option maxRecDepth 20000 in
theorem ggL_lean_X6_lean : GoodIn wsL_lean wsX6_lean := goodIn_ca (goodIn_r _ [6, 7, 8, 9, 10, 5, 11, 12, 13, 14, 15, 16, 17, 18, 19, 20, 21, 22, 23, 24, 25, 26, 27, 28, 29, 30, 31, 32, 33, 34, 35, 36, 37, 38, 39, 40, 41, 42, 46, 47, 48, 49, 50, 51, 52, 53, 54, 55, 56, 57, 58, 59, 60, 61, 62, 63, 64, 65, 66, 67, 68] (by decide +kernel) (by decide +kernel)) (goodIn_sub (fun _ h => List.mem_cons_of_mem _ (List.mem_append_right _ h)) (by decide +kernel))
set_option maxRecDepth 20000 in
theorem gL_lean_X6_lean : GoodIn wsL_lean (wsV RL 104 RX6 yX6_lean wsX6_lean) := goodIn_app (goodIn_of _ (by decide +kernel)) ggL_lean_X6_lean
theorem dL_lean_3 : decode cL_lean 3 = .ok (.invokevirtual 104, 3) := by decide +kernel
theorem dL_lean_12 : decode cL_lean 12 = .ok (.astore_n 3, 1) := by decide +kernel
theorem dL_lean_13 : decode cL_lean 13 = .ok (.iconst 1, 1) := by decide +kernel
theorem dL_lean_14 : decode cL_lean 14 = .ok (.ireturn, 1) := by decide +kernel
def wsL_apart_r1 : List Cond := [Cond.classLink RL 30 "java/lang/IndexOutOfBoundsException", Cond.classLink RL 19 "java/lang/IllegalArgumentException", Cond.methodLink RL 115 yX6_apart, Cond.instanceMethod yX6_apart, Cond.selects RX6 yX6_apart yX6_apart, Cond.initialized RX6, Cond.code yX6_apart cX6_apart 5 (some .int), Cond.fieldLink RX6 37 "Versorhall" "workshop" "LVersorhall$Workshop;", Cond.fieldLink RX6 309 "Versorhall$Workshop" "result" "LVersorhall$Row;", Cond.methodLink RX6 95 yX6_elementOf, Cond.instanceMethod yX6_elementOf, Cond.selects RX6 yX6_elementOf yX6_elementOf, Cond.code yX6_elementOf cX6_elementOf 3 (some (.object "Versorhall$Element")), Cond.classLink RX6 276 "java/lang/IndexOutOfBoundsException", Cond.initialized "java/lang/IndexOutOfBoundsException", Cond.methodLink RX6 360 yX6_elementOrNull, Cond.instanceMethod yX6_elementOrNull, Cond.selects RX6 yX6_elementOrNull yX6_elementOrNull, Cond.code yX6_elementOrNull cX6_elementOrNull 2 (some (.object "Versorhall$Element")), Cond.fieldLink RX6 24 "Versorhall" "elements" "[LVersorhall$Element;", Cond.methodLink RX6 124 yX6_demandOneAlgebra, Cond.static yX6_demandOneAlgebra, Cond.code yX6_demandOneAlgebra cX6_demandOneAlgebra 2 none, Cond.classLink RX6 52 "java/lang/IllegalArgumentException"]
def wsL_apart_r2 : List Cond := [Cond.initialized "java/lang/IllegalArgumentException", Cond.fieldLink RX6 99 "Versorhall$Element" "home" "LVersorhall$Algebra;", Cond.fieldLink RX6 217 "Versorhall$Algebra" "number" "I", Cond.methodLink RX6 306 yX5_makeCommutator, Cond.instanceMethod yX5_makeCommutator, Cond.selects RX5 yX5_makeCommutator yX5_makeCommutator, Cond.initialized RX5, Cond.code yX5_makeCommutator cX5_makeCommutator 3 none, Cond.fieldLink RX5 32 "Versorhall$Element" "home" "LVersorhall$Algebra;", Cond.fieldLink RX5 12 "Versorhall$Workshop" "result" "LVersorhall$Row;", Cond.fieldLink RX5 38 "Versorhall$Element" "row" "LVersorhall$Row;", Cond.fieldLink RX5 18 "Versorhall$Workshop" "work" "LVersorhall$Row;", Cond.methodLink RX5 41 yX0_multiply, Cond.instanceMethod yX0_multiply, Cond.selects RX0 yX0_multiply yX0_multiply, Cond.initialized RX0, Cond.code yX0_multiply cX0_multiply 6 none, Cond.fieldLink RX0 41 "Versorhall$Algebra" "gathered" "LVersorhall$Row;", Cond.fieldLink RX0 15 "Versorhall$Algebra" "units" "I", Cond.methodLink RX0 96 yX4_becomeNumber, Cond.instanceMethod yX4_becomeNumber, Cond.selects RX4 yX4_becomeNumber yX4_becomeNumber, Cond.initialized RX4, Cond.code yX4_becomeNumber cX4_becomeNumber 3 none]
def wsL_apart_r3 : List Cond := [Cond.fieldLink RX4 9 "Versorhall$Row" "numbers" "[I", Cond.methodLink RX0 90 yX4_get, Cond.instanceMethod yX4_get, Cond.selects RX4 yX4_get yX4_get, Cond.code yX4_get cX4_get 2 (some .int), Cond.methodLink RX0 100 yX0_gatherProducts, Cond.instanceMethod yX0_gatherProducts, Cond.selects RX0 yX0_gatherProducts yX0_gatherProducts, Cond.code yX0_gatherProducts cX0_gatherProducts 7 none, Cond.methodLink RX0 68 yX0_signOf, Cond.instanceMethod yX0_signOf, Cond.selects RX0 yX0_signOf yX0_signOf, Cond.code yX0_signOf cX0_signOf 4 (some .int), Cond.fieldLink RX0 32 "Versorhall$Algebra" "signs" "[I", Cond.methodLink RX0 93 yX4_put, Cond.instanceMethod yX4_put, Cond.selects RX4 yX4_put yX4_put, Cond.code yX4_put cX4_put 3 none, Cond.methodLink RX0 76 yX0_reduced, Cond.instanceMethod yX0_reduced, Cond.selects RX0 yX0_reduced yX0_reduced, Cond.code yX0_reduced cX0_reduced 3 (some .int), Cond.fieldLink RX0 51 "Versorhall$Algebra" "prime" "I", Cond.methodLink RX5 51 yX0_add]
def wsL_apart_r4 : List Cond := [Cond.instanceMethod yX0_add, Cond.selects RX0 yX0_add yX0_add, Cond.code yX0_add cX0_add 6 none, Cond.methodLink RX6 132 yX4_size, Cond.instanceMethod yX4_size, Cond.selects RX4 yX4_size yX4_size, Cond.code yX4_size cX4_size 6 (some .int)]
def wsL_apart : List Cond := .codeWith yL_apart cL_apart 5 (some .int) [(0, 11, 14, 30), (0, 11, 18, 19)] :: ((wsL_apart_r1 ++ (wsL_apart_r2 ++ (wsL_apart_r3 ++ wsL_apart_r4))) ++ wsX70 ++ wsX60 ++ wsX50 ++ wsX10 ++ wsX00 ++ wsX40 ++ (vx_atS RX6 280 "java/lang/IndexOutOfBoundsException" ["java/lang/RuntimeException", "java/lang/Exception"]).filter goodWord ++ (vx_atS RX6 56 "java/lang/IllegalArgumentException" ["java/lang/RuntimeException", "java/lang/Exception"]).filter goodWord)
theorem dL_apart_0 : decode cL_apart 0 = .ok (.aload_n 3, 1) := by decide +kernel
theorem dL_apart_1 : decode cL_apart 1 = .ok (.aload_n 0, 1) := by decide +kernel
theorem dL_apart_2 : decode cL_apart 2 = .ok (.iload_n 1, 1) := by decide +kernel
theorem dL_apart_3 : decode cL_apart 3 = .ok (.iload_n 2, 1) := by decide +kernel
set_option maxRecDepth 20000 in
theorem ggL_apart_X6_apart : GoodIn wsL_apart wsX6_apart := goodIn_ca (goodIn_ca (goodIn_r _ [7, 8, 9, 10, 11, 12, 6, 13, 14, 15, 16, 17, 18, 19, 20, 21, 22, 23, 24, 25, 26, 27, 28, 29, 30, 31, 32, 33, 34, 35, 36, 37, 38, 39, 40, 41, 42, 43, 44, 45, 46, 47, 48, 49, 50, 51, 52, 53, 54, 55, 56, 57, 58, 59, 60, 61, 62, 63, 64, 65, 66, 67, 68, 69, 70, 71, 72, 73, 74, 75, 76, 77, 78, 79, 83, 84, 85, 86, 87, 88, 89, 90, 91, 92, 93, 94, 95, 96, 97, 98, 99, 100, 101, 102, 103, 104, 105, 106, 107, 108] (by decide +kernel) (by decide +kernel)) (goodIn_sub (fun _ h => List.mem_cons_of_mem _ (List.mem_append_left _ (List.mem_append_right _ h))) (by decide +kernel))) (goodIn_sub (fun _ h => List.mem_cons_of_mem _ (List.mem_append_right _ h)) (by decide +kernel))
set_option maxRecDepth 20000 in
theorem gL_apart_X6_apart : GoodIn wsL_apart (wsV RL 115 RX6 yX6_apart wsX6_apart) := goodIn_app (goodIn_of _ (by decide +kernel)) ggL_apart_X6_apart
theorem dL_apart_4 : decode cL_apart 4 = .ok (.invokevirtual 115, 3) := by decide +kernel
theorem dL_apart_14 : decode cL_apart 14 = .ok (.astore 4, 2) := by decide +kernel
theorem dL_apart_16 : decode cL_apart 16 = .ok (.iconst 1, 1) := by decide +kernel
theorem dL_apart_17 : decode cL_apart 17 = .ok (.ireturn, 1) := by decide +kernel
def wsL_row_r1 : List Cond := [Cond.classLink RL 30 "java/lang/IndexOutOfBoundsException", Cond.classLink RL 19 "java/lang/IllegalArgumentException", Cond.methodLink RL 118 yX6_row, Cond.instanceMethod yX6_row, Cond.selects RX6 yX6_row yX6_row, Cond.initialized RX6, Cond.code yX6_row cX6_row 4 (some .int), Cond.methodLink RX6 71 yX6_algebraOf, Cond.instanceMethod yX6_algebraOf, Cond.selects RX6 yX6_algebraOf yX6_algebraOf, Cond.code yX6_algebraOf cX6_algebraOf 3 (some (.object "Versorhall$Algebra")), Cond.classLink RX6 276 "java/lang/IndexOutOfBoundsException", Cond.initialized "java/lang/IndexOutOfBoundsException", Cond.fieldLink RX6 15 "Versorhall" "algebras" "[LVersorhall$Algebra;", Cond.methodLink RX6 107 yX6_demandNumber, Cond.instanceMethod yX6_demandNumber, Cond.selects RX6 yX6_demandNumber yX6_demandNumber, Cond.code yX6_demandNumber cX6_demandNumber 2 none, Cond.classLink RX6 52 "java/lang/IllegalArgumentException", Cond.initialized "java/lang/IllegalArgumentException", Cond.fieldLink RX6 9 "Versorhall" "prime" "I", Cond.methodLink RX6 312 yX0_smallestRowOfForm, Cond.instanceMethod yX0_smallestRowOfForm, Cond.selects RX0 yX0_smallestRowOfForm yX0_smallestRowOfForm]
def wsL_row_r2 : List Cond := [Cond.initialized RX0, Cond.code yX0_smallestRowOfForm cX0_smallestRowOfForm 4 (some .int), Cond.fieldLink RX0 9 "Versorhall$Algebra" "dialCount" "I", Cond.fieldLink RX0 51 "Versorhall$Algebra" "prime" "I", Cond.methodLink RX0 127 yX0_formOf, Cond.instanceMethod yX0_formOf, Cond.selects RX0 yX0_formOf yX0_formOf, Cond.code yX0_formOf cX0_formOf 6 (some .int), Cond.methodLink RX0 76 yX0_reduced, Cond.instanceMethod yX0_reduced, Cond.selects RX0 yX0_reduced yX0_reduced, Cond.code yX0_reduced cX0_reduced 3 (some .int), Cond.methodLink RX0 87 yX0_dialOf, Cond.instanceMethod yX0_dialOf, Cond.selects RX0 yX0_dialOf yX0_dialOf, Cond.code yX0_dialOf cX0_dialOf 2 (some .int), Cond.fieldLink RX0 28 "Versorhall$Algebra" "dials" "[I"]
def wsL_row : List Cond := .codeWith yL_row cL_row 5 (some .int) [(0, 11, 14, 30), (0, 11, 18, 19)] :: ((wsL_row_r1 ++ wsL_row_r2) ++ wsX70 ++ wsX60 ++ wsX00 ++ (vx_atS RX6 280 "java/lang/IndexOutOfBoundsException" ["java/lang/RuntimeException", "java/lang/Exception"]).filter goodWord ++ (vx_atS RX6 56 "java/lang/IllegalArgumentException" ["java/lang/RuntimeException", "java/lang/Exception"]).filter goodWord)
theorem dL_row_0 : decode cL_row 0 = .ok (.aload_n 3, 1) := by decide +kernel
theorem dL_row_1 : decode cL_row 1 = .ok (.aload_n 0, 1) := by decide +kernel
theorem dL_row_2 : decode cL_row 2 = .ok (.iload_n 1, 1) := by decide +kernel
theorem dL_row_3 : decode cL_row 3 = .ok (.iload_n 2, 1) := by decide +kernel
set_option maxRecDepth 20000 in
theorem ggL_row_X6_row : GoodIn wsL_row wsX6_row := goodIn_ca (goodIn_ca (goodIn_r _ [7, 8, 9, 10, 6, 11, 12, 13, 14, 15, 16, 17, 18, 19, 20, 21, 22, 23, 24, 25, 26, 27, 28, 29, 30, 31, 32, 33, 34, 35, 36, 37, 38, 39, 40, 41, 45, 46, 47, 48, 49, 50, 51, 52, 53, 54, 55, 56, 57, 58, 59, 60, 61, 62, 63, 64] (by decide +kernel) (by decide +kernel)) (goodIn_sub (fun _ h => List.mem_cons_of_mem _ (List.mem_append_left _ (List.mem_append_right _ h))) (by decide +kernel))) (goodIn_sub (fun _ h => List.mem_cons_of_mem _ (List.mem_append_right _ h)) (by decide +kernel))
set_option maxRecDepth 20000 in
theorem gL_row_X6_row : GoodIn wsL_row (wsV RL 118 RX6 yX6_row wsX6_row) := goodIn_app (goodIn_of _ (by decide +kernel)) ggL_row_X6_row
theorem dL_row_4 : decode cL_row 4 = .ok (.invokevirtual 118, 3) := by decide +kernel
theorem dL_row_14 : decode cL_row 14 = .ok (.astore 4, 2) := by decide +kernel
theorem dL_row_16 : decode cL_row 16 = .ok (.iconst 1, 1) := by decide +kernel
theorem dL_row_17 : decode cL_row 17 = .ok (.ireturn, 1) := by decide +kernel
def wsL_match_r1 : List Cond := [Cond.classLink RL 30 "java/lang/IndexOutOfBoundsException", Cond.methodLink RL 121 yX6_match, Cond.instanceMethod yX6_match, Cond.selects RX6 yX6_match yX6_match, Cond.initialized RX6, Cond.code yX6_match cX6_match 7 (some .int), Cond.fieldLink RX6 77 "Versorhall$Algebra" "dialCount" "I", Cond.methodLink RX6 71 yX6_algebraOf, Cond.instanceMethod yX6_algebraOf, Cond.selects RX6 yX6_algebraOf yX6_algebraOf, Cond.code yX6_algebraOf cX6_algebraOf 3 (some (.object "Versorhall$Algebra")), Cond.classLink RX6 276 "java/lang/IndexOutOfBoundsException", Cond.initialized "java/lang/IndexOutOfBoundsException", Cond.fieldLink RX6 15 "Versorhall" "algebras" "[LVersorhall$Algebra;", Cond.methodLink RX6 315 yX6_findOrder, Cond.instanceMethod yX6_findOrder, Cond.selects RX6 yX6_findOrder yX6_findOrder, Cond.code yX6_findOrder cX6_findOrder 6 (some .boolean), Cond.fieldLink RX6 264 "Versorhall$Algebra" "kind" "I", Cond.fieldLink RX6 48 "Versorhall" "order" "[I", Cond.methodLink RX6 322 yX0_dialOf, Cond.instanceMethod yX0_dialOf, Cond.selects RX0 yX0_dialOf yX0_dialOf, Cond.initialized RX0]
def wsL_match_r2 : List Cond := [Cond.code yX0_dialOf cX0_dialOf 2 (some .int), Cond.fieldLink RX0 28 "Versorhall$Algebra" "dials" "[I", Cond.methodLink RX6 391 yX6_firstFreePartner, Cond.static yX6_firstFreePartner, Cond.code yX6_firstFreePartner cX6_firstFreePartner 5 (some .int), Cond.methodLink RX6 325 yX0_scaleFrom, Cond.instanceMethod yX0_scaleFrom, Cond.selects RX0 yX0_scaleFrom yX0_scaleFrom, Cond.code yX0_scaleFrom cX0_scaleFrom 4 (some .int), Cond.fieldLink RX0 51 "Versorhall$Algebra" "prime" "I", Cond.methodLink RX0 76 yX0_reduced, Cond.instanceMethod yX0_reduced, Cond.selects RX0 yX0_reduced yX0_reduced, Cond.code yX0_reduced cX0_reduced 3 (some .int), Cond.methodLink RX6 319 yX6_partnerOf, Cond.instanceMethod yX6_partnerOf, Cond.selects RX6 yX6_partnerOf yX6_partnerOf, Cond.code yX6_partnerOf cX6_partnerOf 2 (some .int)]
def wsL_match : List Cond := .codeWith yL_match cL_match 5 (some .int) [(0, 11, 14, 30)] :: ((wsL_match_r1 ++ wsL_match_r2) ++ wsX70 ++ wsX00 ++ wsX60 ++ (vx_atS RX6 280 "java/lang/IndexOutOfBoundsException" ["java/lang/RuntimeException", "java/lang/Exception"]).filter goodWord)
theorem dL_match_0 : decode cL_match 0 = .ok (.aload_n 3, 1) := by decide +kernel
theorem dL_match_1 : decode cL_match 1 = .ok (.aload_n 0, 1) := by decide +kernel
theorem dL_match_2 : decode cL_match 2 = .ok (.iload_n 1, 1) := by decide +kernel
theorem dL_match_3 : decode cL_match 3 = .ok (.iload_n 2, 1) := by decide +kernel
set_option maxRecDepth 20000 in
theorem ggL_match_X6_match : GoodIn wsL_match wsX6_match := goodIn_ca (goodIn_r _ [6, 7, 8, 9, 10, 5, 11, 12, 13, 14, 15, 16, 17, 18, 19, 20, 21, 22, 23, 24, 25, 26, 27, 28, 29, 30, 31, 32, 33, 34, 35, 36, 37, 38, 39, 40, 41, 42, 46, 47, 48, 49, 50, 51, 52, 53, 54, 55, 56, 57, 58, 59, 60, 61, 62, 63, 64, 65] (by decide +kernel) (by decide +kernel)) (goodIn_sub (fun _ h => List.mem_cons_of_mem _ (List.mem_append_right _ h)) (by decide +kernel))
set_option maxRecDepth 20000 in
theorem gL_match_X6_match : GoodIn wsL_match (wsV RL 121 RX6 yX6_match wsX6_match) := goodIn_app (goodIn_of _ (by decide +kernel)) ggL_match_X6_match
theorem dL_match_4 : decode cL_match 4 = .ok (.invokevirtual 121, 3) := by decide +kernel
theorem dL_match_14 : decode cL_match 14 = .ok (.astore 4, 2) := by decide +kernel
theorem dL_match_16 : decode cL_match 16 = .ok (.iconst 1, 1) := by decide +kernel
theorem dL_match_17 : decode cL_match 17 = .ok (.ireturn, 1) := by decide +kernel
def wsL_scaleOf_r1 : List Cond := [Cond.classLink RL 30 "java/lang/IndexOutOfBoundsException", Cond.methodLink RL 124 yX6_scaleOf, Cond.instanceMethod yX6_scaleOf, Cond.selects RX6 yX6_scaleOf yX6_scaleOf, Cond.initialized RX6, Cond.code yX6_scaleOf cX6_scaleOf 6 (some .int), Cond.fieldLink RX6 77 "Versorhall$Algebra" "dialCount" "I", Cond.methodLink RX6 71 yX6_algebraOf, Cond.instanceMethod yX6_algebraOf, Cond.selects RX6 yX6_algebraOf yX6_algebraOf, Cond.code yX6_algebraOf cX6_algebraOf 3 (some (.object "Versorhall$Algebra")), Cond.classLink RX6 276 "java/lang/IndexOutOfBoundsException", Cond.initialized "java/lang/IndexOutOfBoundsException", Cond.fieldLink RX6 15 "Versorhall" "algebras" "[LVersorhall$Algebra;", Cond.methodLink RX6 315 yX6_findOrder, Cond.instanceMethod yX6_findOrder, Cond.selects RX6 yX6_findOrder yX6_findOrder, Cond.code yX6_findOrder cX6_findOrder 6 (some .boolean), Cond.fieldLink RX6 264 "Versorhall$Algebra" "kind" "I", Cond.fieldLink RX6 48 "Versorhall" "order" "[I", Cond.methodLink RX6 322 yX0_dialOf, Cond.instanceMethod yX0_dialOf, Cond.selects RX0 yX0_dialOf yX0_dialOf, Cond.initialized RX0]
def wsL_scaleOf_r2 : List Cond := [Cond.code yX0_dialOf cX0_dialOf 2 (some .int), Cond.fieldLink RX0 28 "Versorhall$Algebra" "dials" "[I", Cond.methodLink RX6 391 yX6_firstFreePartner, Cond.static yX6_firstFreePartner, Cond.code yX6_firstFreePartner cX6_firstFreePartner 5 (some .int), Cond.methodLink RX6 325 yX0_scaleFrom, Cond.instanceMethod yX0_scaleFrom, Cond.selects RX0 yX0_scaleFrom yX0_scaleFrom, Cond.code yX0_scaleFrom cX0_scaleFrom 4 (some .int), Cond.fieldLink RX0 51 "Versorhall$Algebra" "prime" "I", Cond.methodLink RX0 76 yX0_reduced, Cond.instanceMethod yX0_reduced, Cond.selects RX0 yX0_reduced yX0_reduced, Cond.code yX0_reduced cX0_reduced 3 (some .int), Cond.methodLink RX6 319 yX6_partnerOf, Cond.instanceMethod yX6_partnerOf, Cond.selects RX6 yX6_partnerOf yX6_partnerOf, Cond.code yX6_partnerOf cX6_partnerOf 2 (some .int)]
def wsL_scaleOf : List Cond := .codeWith yL_scaleOf cL_scaleOf 6 (some .int) [(0, 13, 16, 30)] :: ((wsL_scaleOf_r1 ++ wsL_scaleOf_r2) ++ wsX70 ++ wsX00 ++ wsX60 ++ (vx_atS RX6 280 "java/lang/IndexOutOfBoundsException" ["java/lang/RuntimeException", "java/lang/Exception"]).filter goodWord)
theorem dL_scaleOf_0 : decode cL_scaleOf 0 = .ok (.aload 4, 2) := by decide +kernel
theorem dL_scaleOf_2 : decode cL_scaleOf 2 = .ok (.aload_n 0, 1) := by decide +kernel
theorem dL_scaleOf_3 : decode cL_scaleOf 3 = .ok (.iload_n 1, 1) := by decide +kernel
theorem dL_scaleOf_4 : decode cL_scaleOf 4 = .ok (.iload_n 2, 1) := by decide +kernel
theorem dL_scaleOf_5 : decode cL_scaleOf 5 = .ok (.iload_n 3, 1) := by decide +kernel
set_option maxRecDepth 20000 in
theorem ggL_scaleOf_X6_scaleOf : GoodIn wsL_scaleOf wsX6_scaleOf := goodIn_ca (goodIn_r _ [6, 7, 8, 9, 10, 5, 11, 12, 13, 14, 15, 16, 17, 18, 19, 20, 21, 22, 23, 24, 25, 26, 27, 28, 29, 30, 31, 32, 33, 34, 35, 36, 37, 38, 39, 40, 41, 42, 46, 47, 48, 49, 50, 51, 52, 53, 54, 55, 56, 57, 58, 59, 60, 61, 62, 63, 64, 65] (by decide +kernel) (by decide +kernel)) (goodIn_sub (fun _ h => List.mem_cons_of_mem _ (List.mem_append_right _ h)) (by decide +kernel))
set_option maxRecDepth 20000 in
theorem gL_scaleOf_X6_scaleOf : GoodIn wsL_scaleOf (wsV RL 124 RX6 yX6_scaleOf wsX6_scaleOf) := goodIn_app (goodIn_of _ (by decide +kernel)) ggL_scaleOf_X6_scaleOf
theorem dL_scaleOf_6 : decode cL_scaleOf 6 = .ok (.invokevirtual 124, 3) := by decide +kernel
theorem dL_scaleOf_16 : decode cL_scaleOf 16 = .ok (.astore 5, 2) := by decide +kernel
theorem dL_scaleOf_18 : decode cL_scaleOf 18 = .ok (.iconst 1, 1) := by decide +kernel
theorem dL_scaleOf_19 : decode cL_scaleOf 19 = .ok (.ireturn, 1) := by decide +kernel
set_option maxHeartbeats 4000000 in
set_option maxRecDepth 100000 in
/-- c_Out_init -/
theorem c_Out_init (l : Launch) (dC : Nat → ClassId) (dI : Nat → Nat → Nat) (dE : Nat) (h0 : Nat) (sz : Nat) : Met l yX7_init wsX7_init ({ frames := 1, cells := 0, slots := 0, locals := 40 }) (va_Pc [.ref h0] (PB dC dI dE [] [(h0, .inr (10, [.long 0, .double FP.dconst0, .null]))] sz)) (va_Qv (fun (_ : Unit) => True) (fun (_ : Unit) (t : State) => PE dC dI [] [(h0, .inr (10, [.long 0, .double FP.dconst0, .null]))] (va_A [(h0, .inr (10, [.long 0, .double FP.dconst0, .null]))] sz) t) (va_A [(h0, .inr (10, [.long 0, .double FP.dconst0, .null]))] sz)) 0 0 (va_A [(h0, .inr (10, [.long 0, .double FP.dconst0, .null]))] sz) := by
  refine Met.ofW (cc := cX7_init) (maxL := 1) (ret := none) (by decide) rfl ?_
  intro p e s m args below meth c s₁ B hml hv
  obtain ⟨rfl, hsz, hP, hK, hD0, hTb, hZ⟩ := hv
  have hx := B.exec
  have hb := B.bytes
  have hr := B.returns
  have hts := atoms_spec (ws := wsX7_init) B.pre
  have hown : s.vm.findClass RX7 = some m.cls := findClass_of_methodNamed B.named
  have hlocks := B.notSynchronized
  have hin : meth.name = "<init>" := (name_of_methodNamed B.named B.method).1
  subst hsz
  have hD := hD0.self (sz := s.heap.size)
  generalize hAe : va_A [(h0, .inr (10, [.long 0, .double FP.dconst0, .null]))] s.heap.size = A at hD hZ ⊢
  have hA : ∀ q : Nat, s.heap.size ≤ q → A q := fun q h => by rw [← hAe]; exact Or.inr h
  have hS : va_S A s.heap s.heap [] := va_S.rf
  have hP : va_P (dC, dI) vwCl [(h0, .inr (10, [.long 0, .double FP.dconst0, .null]))] s.heap := hP
  have hl := lv_entry ([.ref h0]) (n := 1) (Nat.le_of_ble_eq_true rfl)
  rw [lg_entry_eq]
  generalize (lg_sl ([.ref h0]) ++ List.replicate (1 - (lg_sl ([.ref h0])).length) Slot.unset).toArray = ls at hl ⊢
  have hl : lv_has ls 1 [(0, .ref h0)] := hl
  obtain ⟨H, eH⟩ : ∃ z, z = s.heap := ⟨_, rfl⟩
  rw [← eH] at hP ⊢
  have hS : va_S A s.heap H [] := by rw [eH]; exact va_S.rf
  refine lv_aload_n hx hb dX7_init_0 rfl (lv_at hl 0 rfl) ?_
  refine W.objInit hx hb hown (hts (.methodLink RX7 1 objectInit) (by decide +kernel)) (hts (.instanceMethod objectInit) (by decide +kernel)) (hts (.code objectInit ⟨#[0xb1]⟩ 1 none) (by decide +kernel)) rfl (by rw [hml]; exact hl.1) rfl dX7_init_1 (Nat.le_of_ble_eq_true rfl) (Nat.le_of_ble_eq_true rfl) ?_
  refine W.eq (g2 := F0 m 4 ls []) rfl ?_
  have hP9 := hP.sub (ws' := [(h0, .inr (10, [.long 0, .double FP.dconst0, .null]))]) [0] rfl
  have hD9 := hD.sub (ws' := [(h0, .inr (10, [.long 0, .double FP.dconst0, .null]))]) [0] (by decide) rfl
  have hK9 := hK.sub (tys' := []) [] rfl
  refine W.widen (k := 0) (n := 0) (Nat.le_of_ble_eq_true rfl) (Nat.le_of_ble_eq_true rfl) ?_
  exact W.vret hx hb hr (fun t ht hW => ⟨⟨(), rfl, trivial, PE.mk hP9 hK9 hD9 ht hW⟩, hS.F ht⟩) hS.2.2 dX7_init_4

set_option maxHeartbeats 4000000 in
set_option maxRecDepth 100000 in
/-- c_L_dial -/
theorem c_L_dial (l : Launch) (hst : l.stackTraces = false) (dC : Nat → ClassId) (dI : Nat → Nat → Nat) (dE : Nat) (h0 : Nat) (a1 : Nat) (a2 : Nat) (w1 : Nat) (p1 : Nat) (o1 : Nat) (cA1 : ClassId) (cA2 : ClassId) (k1 : Int32) (k2 : Int32) (o0 : Nat) (sz : Nat) : Met l yL_dial wsL_dial ({ frames := 10, cells := 1, slots := 6, locals := 165 }) (va_Pc [.ref h0, .int k1, .int k2, .ref o0] (PB dC dI dE [(cA1, .object RX0), (cA2, .object RX1)] [(h0, .inr (9, [.int 7, .ref a1, .int 0, .ref a2, .int 0, .int 0, .ref w1, .ref p1, .ref o1])), (a1, .inl (cA1, 4, .inr (.inr (.inr (.inr (fun _ => none)))))), (a2, .inl (cA2, 10, .inr (.inr (.inr (.inr (fun _ => none))))))] sz)) (va_Qi (fun (r : Int32) (_ : Unit) => r = 1) (fun (_ : Unit) (_ : State) => True) (va_A [(h0, .inr (9, [.int 7, .ref a1, .int 0, .ref a2, .int 0, .int 0, .ref w1, .ref p1, .ref o1])), (a1, .inl (cA1, 4, .inr (.inr (.inr (.inr (fun _ => none)))))), (a2, .inl (cA2, 10, .inr (.inr (.inr (.inr (fun _ => none))))))] sz)) 1 6 (va_A [(h0, .inr (9, [.int 7, .ref a1, .int 0, .ref a2, .int 0, .int 0, .ref w1, .ref p1, .ref o1])), (a1, .inl (cA1, 4, .inr (.inr (.inr (.inr (fun _ => none)))))), (a2, .inl (cA2, 10, .inr (.inr (.inr (.inr (fun _ => none))))))] sz) := by
  refine va_MetW (cc := cL_dial) (maxL := 5) (ret := (some .int)) (hh := [(0, 11, 14, 30), (0, 11, 18, 19), (0, 11, 22, 21)]) (by decide) rfl ?_
  intro p e s m args below meth c s₁ B hml hv
  obtain ⟨rfl, hsz, hP, hK, hD0, hTb, hZ⟩ := hv
  have hx := B.exec
  have hb := B.bytes
  have hr := B.returns
  have hts := atoms_spec (ws := wsL_dial) B.pre
  have hown : s.vm.findClass RL = some m.cls := findClass_of_methodNamed B.named
  have hlocks := B.notSynchronized
  have hex := vx_table (x := yL_dial) B (hts _ List.mem_cons_self)
  subst hsz
  have hD := hD0.self (sz := s.heap.size)
  generalize hAe : va_A [(h0, .inr (9, [.int 7, .ref a1, .int 0, .ref a2, .int 0, .int 0, .ref w1, .ref p1, .ref o1])), (a1, .inl (cA1, 4, .inr (.inr (.inr (.inr (fun _ => none)))))), (a2, .inl (cA2, 10, .inr (.inr (.inr (.inr (fun _ => none))))))] s.heap.size = A at hD hZ ⊢
  have hA : ∀ q : Nat, s.heap.size ≤ q → A q := fun q h => by rw [← hAe]; exact Or.inr h
  have hS : va_S A s.heap s.heap [] := va_S.rf
  have hP : va_P (dC, dI) vwCl [(h0, .inr (9, [.int 7, .ref a1, .int 0, .ref a2, .int 0, .int 0, .ref w1, .ref p1, .ref o1])), (a1, .inl (cA1, 4, .inr (.inr (.inr (.inr (fun _ => none)))))), (a2, .inl (cA2, 10, .inr (.inr (.inr (.inr (fun _ => none))))))] s.heap := hP
  have hl := lv_entry ([.ref h0, .int k1, .int k2, .ref o0]) (n := 5) (Nat.le_of_ble_eq_true rfl)
  rw [lg_entry_eq]
  generalize (lg_sl ([.ref h0, .int k1, .int k2, .ref o0]) ++ List.replicate (5 - (lg_sl ([.ref h0, .int k1, .int k2, .ref o0])).length) Slot.unset).toArray = ls at hl ⊢
  have hl : lv_has ls 5 [(0, .ref h0), (1, .int k1), (2, .int k2), (3, .ref o0)] := hl
  obtain ⟨H, eH⟩ : ∃ z, z = s.heap := ⟨_, rfl⟩
  rw [← eH] at hP ⊢
  have hS : va_S A s.heap H [] := by rw [eH]; exact va_S.rf
  refine lv_aload_n hx hb dL_dial_0 rfl (lv_at hl 3 rfl) ?_
  refine lv_aload_n hx hb dL_dial_1 rfl (lv_at hl 0 rfl) ?_
  refine lv_iload_n hx hb dL_dial_2 rfl (lv_at hl 1 rfl) ?_
  refine lv_iload_n hx hb dL_dial_3 rfl (lv_at hl 2 rfl) ?_
  have hPc := hP.sub (ws' := [(h0, .inr (9, [.int 7, .ref a1, .int 0, .ref a2, .int 0, .int 0, .ref w1, .ref p1, .ref o1])), (a1, .inl (cA1, 4, .inr (.inr (.inr (.inr (fun _ => none)))))), (a2, .inl (cA2, 10, .inr (.inr (.inr (.inr (fun _ => none))))))]) [0, 1, 2] rfl
  have hDc := hD.sub (ws' := [(h0, .inr (9, [.int 7, .ref a1, .int 0, .ref a2, .int 0, .int 0, .ref w1, .ref p1, .ref o1])), (a1, .inl (cA1, 4, .inr (.inr (.inr (.inr (fun _ => none)))))), (a2, .inl (cA2, 10, .inr (.inr (.inr (.inr (fun _ => none))))))]) [0, 1, 2] (by decide) rfl
  have hKc := hK.sub (tys' := [(cA1, .object RX0), (cA2, .object RX1)]) [0, 1] rfl
  have hFc := va_free (wc := [(h0, .inr (9, [.int 7, .ref a1, .int 0, .ref a2, .int 0, .int 0, .ref w1, .ref p1, .ref o1])), (a1, .inl (cA1, 4, .inr (.inr (.inr (.inr (fun _ => none)))))), (a2, .inl (cA2, 10, .inr (.inr (.inr (.inr (fun _ => none))))))]) hD hS hA [0, 1, 2] rfl
  refine vx_calli (vx_runV (As := [.int k1, .int k2]) (rest := [.ref o0]) ⟨hx, hb, hml, hown, hts⟩ (c_dial l hst dC dI dE h0 a1 a2 w1 p1 o1 cA1 cA2 k1 k2 H.size) (cwV 2 hts gL_dial_X6_dial rfl rfl rfl (by decide +kernel) ⟨Nat.le_of_ble_eq_true rfl, Nat.le_of_ble_eq_true rfl⟩) ⟨fun a U g mk q => ⟨q.1, PB.blind q.2⟩, va_recv hKc hPc (ci := 9) (q0 := 0) rfl rfl, fun U hU hW => ⟨rfl, PB.call hPc hKc hDc hTb hZ hS hFc hU hW⟩⟩ rfl rfl hl.1 rfl (lv_room (Nat.le_of_ble_eq_true rfl)) dL_dial_4 ⟨Nat.le_of_ble_eq_true rfl, Nat.le_of_ble_eq_true rfl⟩) hS (fun q _ h => hFc q h) hFc (fun q _ h => hFc q h) (fun E ce q9 u t H locs ht hvm hpx hBX hz1 hk1 hS hcell hv hcl => ?_) (fun r u t H locs ht hvm hw hB hz1 hk1 hS => ?_)
  · subst hBX
    refine vx_catch hown [] (⟨0, 11, 14, 30⟩ : ExceptionTableEntry) [⟨0, 11, 18, 19⟩, ⟨0, 11, 22, 21⟩] hex (fun z h => nomatch h) (by decide +kernel) (by decide +kernel) (name := "java/lang/IndexOutOfBoundsException") (hts (.classLink RL 30 "java/lang/IndexOutOfBoundsException") (by decide +kernel)) (va_Nw.use rfl (Tb_c1 hTb)) hcell hv hcl ?_
    refine W.eq (g2 := F0 m 14 ls [.ref q9]) rfl ?_
    have hP : va_P (dC, dI) vwCl [] H := fun k q h => by simp at h
    have hD : va_D A [] := ⟨fun i j p q h => by simp at h, fun k q h => by simp at h⟩
    have hK := hK.sub (tys' := []) [] rfl
    refine lv_astore (lv' := [(4, .ref q9), (0, .ref h0), (1, .int k1), (2, .int k2), (3, .ref o0)]) hx hb dL_dial_14 hl (by decide) rfl (fun ls hl => ?_)
    refine lv_iconst (v := 1) hx hb dL_dial_16 (by decide) ?_
    refine W.widen (k := 1) (n := 6) (Nat.le_of_ble_eq_true rfl) (Nat.le_of_ble_eq_true rfl) ?_
    exact W.iret (v := 1) hx hb hr (fun t ht hW => ⟨⟨_, (), rfl, rfl, trivial⟩, hS.F ht⟩) hS.2.2 dL_dial_17
  · exact hw.elim

set_option maxHeartbeats 4000000 in
set_option maxRecDepth 100000 in
/-- c_L_element -/
theorem c_L_element (l : Launch) (hst : l.stackTraces = false) (dC : Nat → ClassId) (dI : Nat → Nat → Nat) (dE : Nat) (h0 : Nat) (a1 : Nat) (a2 : Nat) (w1 : Nat) (p1 : Nat) (o1 : Nat) (cA1 : ClassId) (cA2 : ClassId) (k1 : Int32) (o0 : Nat) (sz : Nat) : Met l yL_element wsL_element ({ frames := 10, cells := 1, slots := 6, locals := 165 }) (va_Pc [.ref h0, .int k1, .ref o0] (PB dC dI dE [(cA1, .object RX0), (cA2, .object RX1)] [(h0, .inr (9, [.int 7, .ref a1, .int 0, .ref a2, .int 0, .int 0, .ref w1, .ref p1, .ref o1])), (a1, .inl (cA1, 4, .inr (.inr (.inr (.inr (fun _ => none)))))), (a2, .inl (cA2, 10, .inr (.inr (.inr (.inr (fun _ => none))))))] sz)) (va_Qi (fun (r : Int32) (_ : Unit) => r = 1) (fun (_ : Unit) (_ : State) => True) (va_A [(h0, .inr (9, [.int 7, .ref a1, .int 0, .ref a2, .int 0, .int 0, .ref w1, .ref p1, .ref o1])), (a1, .inl (cA1, 4, .inr (.inr (.inr (.inr (fun _ => none)))))), (a2, .inl (cA2, 10, .inr (.inr (.inr (.inr (fun _ => none))))))] sz)) 1 6 (va_A [(h0, .inr (9, [.int 7, .ref a1, .int 0, .ref a2, .int 0, .int 0, .ref w1, .ref p1, .ref o1])), (a1, .inl (cA1, 4, .inr (.inr (.inr (.inr (fun _ => none)))))), (a2, .inl (cA2, 10, .inr (.inr (.inr (.inr (fun _ => none))))))] sz) := by
  refine va_MetW (cc := cL_element) (maxL := 4) (ret := (some .int)) (hh := [(0, 10, 13, 30), (0, 10, 16, 21)]) (by decide) rfl ?_
  intro p e s m args below meth c s₁ B hml hv
  obtain ⟨rfl, hsz, hP, hK, hD0, hTb, hZ⟩ := hv
  have hx := B.exec
  have hb := B.bytes
  have hr := B.returns
  have hts := atoms_spec (ws := wsL_element) B.pre
  have hown : s.vm.findClass RL = some m.cls := findClass_of_methodNamed B.named
  have hlocks := B.notSynchronized
  have hex := vx_table (x := yL_element) B (hts _ List.mem_cons_self)
  subst hsz
  have hD := hD0.self (sz := s.heap.size)
  generalize hAe : va_A [(h0, .inr (9, [.int 7, .ref a1, .int 0, .ref a2, .int 0, .int 0, .ref w1, .ref p1, .ref o1])), (a1, .inl (cA1, 4, .inr (.inr (.inr (.inr (fun _ => none)))))), (a2, .inl (cA2, 10, .inr (.inr (.inr (.inr (fun _ => none))))))] s.heap.size = A at hD hZ ⊢
  have hA : ∀ q : Nat, s.heap.size ≤ q → A q := fun q h => by rw [← hAe]; exact Or.inr h
  have hS : va_S A s.heap s.heap [] := va_S.rf
  have hP : va_P (dC, dI) vwCl [(h0, .inr (9, [.int 7, .ref a1, .int 0, .ref a2, .int 0, .int 0, .ref w1, .ref p1, .ref o1])), (a1, .inl (cA1, 4, .inr (.inr (.inr (.inr (fun _ => none)))))), (a2, .inl (cA2, 10, .inr (.inr (.inr (.inr (fun _ => none))))))] s.heap := hP
  have hl := lv_entry ([.ref h0, .int k1, .ref o0]) (n := 4) (Nat.le_of_ble_eq_true rfl)
  rw [lg_entry_eq]
  generalize (lg_sl ([.ref h0, .int k1, .ref o0]) ++ List.replicate (4 - (lg_sl ([.ref h0, .int k1, .ref o0])).length) Slot.unset).toArray = ls at hl ⊢
  have hl : lv_has ls 4 [(0, .ref h0), (1, .int k1), (2, .ref o0)] := hl
  obtain ⟨H, eH⟩ : ∃ z, z = s.heap := ⟨_, rfl⟩
  rw [← eH] at hP ⊢
  have hS : va_S A s.heap H [] := by rw [eH]; exact va_S.rf
  refine lv_aload_n hx hb dL_element_0 rfl (lv_at hl 2 rfl) ?_
  refine lv_aload_n hx hb dL_element_1 rfl (lv_at hl 0 rfl) ?_
  refine lv_iload_n hx hb dL_element_2 rfl (lv_at hl 1 rfl) ?_
  have hPc := hP.sub (ws' := [(h0, .inr (9, [.int 7, .ref a1, .int 0, .ref a2, .int 0, .int 0, .ref w1, .ref p1, .ref o1])), (a1, .inl (cA1, 4, .inr (.inr (.inr (.inr (fun _ => none)))))), (a2, .inl (cA2, 10, .inr (.inr (.inr (.inr (fun _ => none))))))]) [0, 1, 2] rfl
  have hDc := hD.sub (ws' := [(h0, .inr (9, [.int 7, .ref a1, .int 0, .ref a2, .int 0, .int 0, .ref w1, .ref p1, .ref o1])), (a1, .inl (cA1, 4, .inr (.inr (.inr (.inr (fun _ => none)))))), (a2, .inl (cA2, 10, .inr (.inr (.inr (.inr (fun _ => none))))))]) [0, 1, 2] (by decide) rfl
  have hKc := hK.sub (tys' := [(cA1, .object RX0), (cA2, .object RX1)]) [0, 1] rfl
  have hFc := va_free (wc := [(h0, .inr (9, [.int 7, .ref a1, .int 0, .ref a2, .int 0, .int 0, .ref w1, .ref p1, .ref o1])), (a1, .inl (cA1, 4, .inr (.inr (.inr (.inr (fun _ => none)))))), (a2, .inl (cA2, 10, .inr (.inr (.inr (.inr (fun _ => none))))))]) hD hS hA [0, 1, 2] rfl
  refine vx_calli (vx_runV (As := [.int k1]) (rest := [.ref o0]) ⟨hx, hb, hml, hown, hts⟩ (c_element l hst dC dI dE h0 a1 a2 w1 p1 o1 cA1 cA2 k1 H.size) (cwV 1 hts gL_element_X6_element rfl rfl rfl (by decide +kernel) ⟨Nat.le_of_ble_eq_true rfl, Nat.le_of_ble_eq_true rfl⟩) ⟨fun a U g mk q => ⟨q.1, PB.blind q.2⟩, va_recv hKc hPc (ci := 9) (q0 := 0) rfl rfl, fun U hU hW => ⟨rfl, PB.call hPc hKc hDc hTb hZ hS hFc hU hW⟩⟩ rfl rfl hl.1 rfl (lv_room (Nat.le_of_ble_eq_true rfl)) dL_element_3 ⟨Nat.le_of_ble_eq_true rfl, Nat.le_of_ble_eq_true rfl⟩) hS (fun q _ h => hFc q h) hFc (fun q _ h => hFc q h) (fun E ce q9 u t H locs ht hvm hpx hBX hz1 hk1 hS hcell hv hcl => ?_) (fun r u t H locs ht hvm hw hB hz1 hk1 hS => ?_)
  · subst hBX
    refine vx_catch hown [] (⟨0, 10, 13, 30⟩ : ExceptionTableEntry) [⟨0, 10, 16, 21⟩] hex (fun z h => nomatch h) (by decide +kernel) (by decide +kernel) (name := "java/lang/IndexOutOfBoundsException") (hts (.classLink RL 30 "java/lang/IndexOutOfBoundsException") (by decide +kernel)) (va_Nw.use rfl (Tb_c1 hTb)) hcell hv hcl ?_
    refine W.eq (g2 := F0 m 13 ls [.ref q9]) rfl ?_
    have hP : va_P (dC, dI) vwCl [] H := fun k q h => by simp at h
    have hD : va_D A [] := ⟨fun i j p q h => by simp at h, fun k q h => by simp at h⟩
    have hK := hK.sub (tys' := []) [] rfl
    refine lv_astore_n (lv' := [(3, .ref q9), (0, .ref h0), (1, .int k1), (2, .ref o0)]) hx hb dL_element_13 rfl hl (by decide) rfl (fun ls hl => ?_)
    refine lv_iconst (v := 1) hx hb dL_element_14 (by decide) ?_
    refine W.widen (k := 1) (n := 6) (Nat.le_of_ble_eq_true rfl) (Nat.le_of_ble_eq_true rfl) ?_
    exact W.iret (v := 1) hx hb hr (fun t ht hW => ⟨⟨_, (), rfl, rfl, trivial⟩, hS.F ht⟩) hS.2.2 dL_element_15
  · exact hw.elim

set_option maxHeartbeats 4000000 in
set_option maxRecDepth 100000 in
/-- c_L_set -/
theorem c_L_set (l : Launch) (hst : l.stackTraces = false) (dC : Nat → ClassId) (dI : Nat → Nat → Nat) (dE : Nat) (h0 : Nat) (a1 : Nat) (a2 : Nat) (w1 : Nat) (p1 : Nat) (o1 : Nat) (cA1 : ClassId) (cA2 : ClassId) (k1 : Int32) (k2 : Int32) (k3 : Int32) (o0 : Nat) (sz : Nat) : Met l yL_set wsL_set ({ frames := 10, cells := 1, slots := 6, locals := 167 }) (va_Pc [.ref h0, .int k1, .int k2, .int k3, .ref o0] (PB dC dI dE [(cA1, .object RX0), (cA2, .object RX1)] [(h0, .inr (9, [.int 7, .ref a1, .int 0, .ref a2, .int 0, .int 0, .ref w1, .ref p1, .ref o1])), (a1, .inl (cA1, 4, .inr (.inr (.inr (.inr (fun _ => none)))))), (a2, .inl (cA2, 10, .inr (.inr (.inr (.inr (fun _ => none))))))] sz)) (va_Qi (fun (r : Int32) (_ : Unit) => r = 1) (fun (_ : Unit) (_ : State) => True) (va_A [(h0, .inr (9, [.int 7, .ref a1, .int 0, .ref a2, .int 0, .int 0, .ref w1, .ref p1, .ref o1])), (a1, .inl (cA1, 4, .inr (.inr (.inr (.inr (fun _ => none)))))), (a2, .inl (cA2, 10, .inr (.inr (.inr (.inr (fun _ => none))))))] sz)) 1 6 (va_A [(h0, .inr (9, [.int 7, .ref a1, .int 0, .ref a2, .int 0, .int 0, .ref w1, .ref p1, .ref o1])), (a1, .inl (cA1, 4, .inr (.inr (.inr (.inr (fun _ => none)))))), (a2, .inl (cA2, 10, .inr (.inr (.inr (.inr (fun _ => none))))))] sz) := by
  refine va_MetW (cc := cL_set) (maxL := 6) (ret := (some .int)) (hh := [(0, 13, 16, 30), (0, 13, 20, 19)]) (by decide) rfl ?_
  intro p e s m args below meth c s₁ B hml hv
  obtain ⟨rfl, hsz, hP, hK, hD0, hTb, hZ⟩ := hv
  have hx := B.exec
  have hb := B.bytes
  have hr := B.returns
  have hts := atoms_spec (ws := wsL_set) B.pre
  have hown : s.vm.findClass RL = some m.cls := findClass_of_methodNamed B.named
  have hlocks := B.notSynchronized
  have hex := vx_table (x := yL_set) B (hts _ List.mem_cons_self)
  subst hsz
  have hD := hD0.self (sz := s.heap.size)
  generalize hAe : va_A [(h0, .inr (9, [.int 7, .ref a1, .int 0, .ref a2, .int 0, .int 0, .ref w1, .ref p1, .ref o1])), (a1, .inl (cA1, 4, .inr (.inr (.inr (.inr (fun _ => none)))))), (a2, .inl (cA2, 10, .inr (.inr (.inr (.inr (fun _ => none))))))] s.heap.size = A at hD hZ ⊢
  have hA : ∀ q : Nat, s.heap.size ≤ q → A q := fun q h => by rw [← hAe]; exact Or.inr h
  have hS : va_S A s.heap s.heap [] := va_S.rf
  have hP : va_P (dC, dI) vwCl [(h0, .inr (9, [.int 7, .ref a1, .int 0, .ref a2, .int 0, .int 0, .ref w1, .ref p1, .ref o1])), (a1, .inl (cA1, 4, .inr (.inr (.inr (.inr (fun _ => none)))))), (a2, .inl (cA2, 10, .inr (.inr (.inr (.inr (fun _ => none))))))] s.heap := hP
  have hl := lv_entry ([.ref h0, .int k1, .int k2, .int k3, .ref o0]) (n := 6) (Nat.le_of_ble_eq_true rfl)
  rw [lg_entry_eq]
  generalize (lg_sl ([.ref h0, .int k1, .int k2, .int k3, .ref o0]) ++ List.replicate (6 - (lg_sl ([.ref h0, .int k1, .int k2, .int k3, .ref o0])).length) Slot.unset).toArray = ls at hl ⊢
  have hl : lv_has ls 6 [(0, .ref h0), (1, .int k1), (2, .int k2), (3, .int k3), (4, .ref o0)] := hl
  obtain ⟨H, eH⟩ : ∃ z, z = s.heap := ⟨_, rfl⟩
  rw [← eH] at hP ⊢
  have hS : va_S A s.heap H [] := by rw [eH]; exact va_S.rf
  refine lv_aload hx hb dL_set_0 (lv_at hl 4 rfl) ?_
  refine lv_aload_n hx hb dL_set_2 rfl (lv_at hl 0 rfl) ?_
  refine lv_iload_n hx hb dL_set_3 rfl (lv_at hl 1 rfl) ?_
  refine lv_iload_n hx hb dL_set_4 rfl (lv_at hl 2 rfl) ?_
  refine lv_iload_n hx hb dL_set_5 rfl (lv_at hl 3 rfl) ?_
  have hPc := hP.sub (ws' := [(h0, .inr (9, [.int 7, .ref a1, .int 0, .ref a2, .int 0, .int 0, .ref w1, .ref p1, .ref o1])), (a1, .inl (cA1, 4, .inr (.inr (.inr (.inr (fun _ => none)))))), (a2, .inl (cA2, 10, .inr (.inr (.inr (.inr (fun _ => none))))))]) [0, 1, 2] rfl
  have hDc := hD.sub (ws' := [(h0, .inr (9, [.int 7, .ref a1, .int 0, .ref a2, .int 0, .int 0, .ref w1, .ref p1, .ref o1])), (a1, .inl (cA1, 4, .inr (.inr (.inr (.inr (fun _ => none)))))), (a2, .inl (cA2, 10, .inr (.inr (.inr (.inr (fun _ => none))))))]) [0, 1, 2] (by decide) rfl
  have hKc := hK.sub (tys' := [(cA1, .object RX0), (cA2, .object RX1)]) [0, 1] rfl
  have hFc := va_free (wc := [(h0, .inr (9, [.int 7, .ref a1, .int 0, .ref a2, .int 0, .int 0, .ref w1, .ref p1, .ref o1])), (a1, .inl (cA1, 4, .inr (.inr (.inr (.inr (fun _ => none)))))), (a2, .inl (cA2, 10, .inr (.inr (.inr (.inr (fun _ => none))))))]) hD hS hA [0, 1, 2] rfl
  refine vx_calli (vx_runV (As := [.int k1, .int k2, .int k3]) (rest := [.ref o0]) ⟨hx, hb, hml, hown, hts⟩ (c_set l hst dC dI dE h0 a1 a2 w1 p1 o1 cA1 cA2 k1 k2 k3 H.size) (cwV 3 hts gL_set_X6_set rfl rfl rfl (by decide +kernel) ⟨Nat.le_of_ble_eq_true rfl, Nat.le_of_ble_eq_true rfl⟩) ⟨fun a U g mk q => ⟨q.1, PB.blind q.2⟩, va_recv hKc hPc (ci := 9) (q0 := 0) rfl rfl, fun U hU hW => ⟨rfl, PB.call hPc hKc hDc hTb hZ hS hFc hU hW⟩⟩ rfl rfl hl.1 rfl (lv_room (Nat.le_of_ble_eq_true rfl)) dL_set_6 ⟨Nat.le_of_ble_eq_true rfl, Nat.le_of_ble_eq_true rfl⟩) hS (fun q _ h => hFc q h) hFc (fun q _ h => hFc q h) (fun E ce q9 u t H locs ht hvm hpx hBX hz1 hk1 hS hcell hv hcl => ?_) (fun r u t H locs ht hvm hw hB hz1 hk1 hS => ?_)
  · subst hBX
    refine vx_catch hown [] (⟨0, 13, 16, 30⟩ : ExceptionTableEntry) [⟨0, 13, 20, 19⟩] hex (fun z h => nomatch h) (by decide +kernel) (by decide +kernel) (name := "java/lang/IndexOutOfBoundsException") (hts (.classLink RL 30 "java/lang/IndexOutOfBoundsException") (by decide +kernel)) (va_Nw.use rfl (Tb_c1 hTb)) hcell hv hcl ?_
    refine W.eq (g2 := F0 m 16 ls [.ref q9]) rfl ?_
    have hP : va_P (dC, dI) vwCl [] H := fun k q h => by simp at h
    have hD : va_D A [] := ⟨fun i j p q h => by simp at h, fun k q h => by simp at h⟩
    have hK := hK.sub (tys' := []) [] rfl
    refine lv_astore (lv' := [(5, .ref q9), (0, .ref h0), (1, .int k1), (2, .int k2), (3, .int k3), (4, .ref o0)]) hx hb dL_set_16 hl (by decide) rfl (fun ls hl => ?_)
    refine lv_iconst (v := 1) hx hb dL_set_18 (by decide) ?_
    refine W.widen (k := 1) (n := 6) (Nat.le_of_ble_eq_true rfl) (Nat.le_of_ble_eq_true rfl) ?_
    exact W.iret (v := 1) hx hb hr (fun t ht hW => ⟨⟨_, (), rfl, rfl, trivial⟩, hS.F ht⟩) hS.2.2 dL_set_19
  · exact hw.elim

set_option maxHeartbeats 4000000 in
set_option maxRecDepth 100000 in
/-- c_L_sum -/
theorem c_L_sum (l : Launch) (hst : l.stackTraces = false) (dC : Nat → ClassId) (dI : Nat → Nat → Nat) (dE : Nat) (h0 : Nat) (a1 : Nat) (a2 : Nat) (w1 : Nat) (p1 : Nat) (o1 : Nat) (cA1 : ClassId) (cA2 : ClassId) (k1 : Int32) (k2 : Int32) (k3 : Int32) (o0 : Nat) (sz : Nat) : Met l yL_sum wsL_sum ({ frames := 10, cells := 1, slots := 6, locals := 168 }) (va_Pc [.ref h0, .int k1, .int k2, .int k3, .ref o0] (PB dC dI dE [(cA1, .object RX0), (cA2, .object RX1)] [(h0, .inr (9, [.int 7, .ref a1, .int 0, .ref a2, .int 0, .int 0, .ref w1, .ref p1, .ref o1])), (a1, .inl (cA1, 4, .inr (.inr (.inr (.inr (fun _ => none)))))), (a2, .inl (cA2, 10, .inr (.inr (.inr (.inr (fun _ => none))))))] sz)) (va_Qi (fun (r : Int32) (_ : Unit) => r = 1) (fun (_ : Unit) (_ : State) => True) (va_A [(h0, .inr (9, [.int 7, .ref a1, .int 0, .ref a2, .int 0, .int 0, .ref w1, .ref p1, .ref o1])), (a1, .inl (cA1, 4, .inr (.inr (.inr (.inr (fun _ => none)))))), (a2, .inl (cA2, 10, .inr (.inr (.inr (.inr (fun _ => none))))))] sz)) 1 6 (va_A [(h0, .inr (9, [.int 7, .ref a1, .int 0, .ref a2, .int 0, .int 0, .ref w1, .ref p1, .ref o1])), (a1, .inl (cA1, 4, .inr (.inr (.inr (.inr (fun _ => none)))))), (a2, .inl (cA2, 10, .inr (.inr (.inr (.inr (fun _ => none))))))] sz) := by
  refine va_MetW (cc := cL_sum) (maxL := 6) (ret := (some .int)) (hh := [(0, 13, 16, 30), (0, 13, 20, 19)]) (by decide) rfl ?_
  intro p e s m args below meth c s₁ B hml hv
  obtain ⟨rfl, hsz, hP, hK, hD0, hTb, hZ⟩ := hv
  have hx := B.exec
  have hb := B.bytes
  have hr := B.returns
  have hts := atoms_spec (ws := wsL_sum) B.pre
  have hown : s.vm.findClass RL = some m.cls := findClass_of_methodNamed B.named
  have hlocks := B.notSynchronized
  have hex := vx_table (x := yL_sum) B (hts _ List.mem_cons_self)
  subst hsz
  have hD := hD0.self (sz := s.heap.size)
  generalize hAe : va_A [(h0, .inr (9, [.int 7, .ref a1, .int 0, .ref a2, .int 0, .int 0, .ref w1, .ref p1, .ref o1])), (a1, .inl (cA1, 4, .inr (.inr (.inr (.inr (fun _ => none)))))), (a2, .inl (cA2, 10, .inr (.inr (.inr (.inr (fun _ => none))))))] s.heap.size = A at hD hZ ⊢
  have hA : ∀ q : Nat, s.heap.size ≤ q → A q := fun q h => by rw [← hAe]; exact Or.inr h
  have hS : va_S A s.heap s.heap [] := va_S.rf
  have hP : va_P (dC, dI) vwCl [(h0, .inr (9, [.int 7, .ref a1, .int 0, .ref a2, .int 0, .int 0, .ref w1, .ref p1, .ref o1])), (a1, .inl (cA1, 4, .inr (.inr (.inr (.inr (fun _ => none)))))), (a2, .inl (cA2, 10, .inr (.inr (.inr (.inr (fun _ => none))))))] s.heap := hP
  have hl := lv_entry ([.ref h0, .int k1, .int k2, .int k3, .ref o0]) (n := 6) (Nat.le_of_ble_eq_true rfl)
  rw [lg_entry_eq]
  generalize (lg_sl ([.ref h0, .int k1, .int k2, .int k3, .ref o0]) ++ List.replicate (6 - (lg_sl ([.ref h0, .int k1, .int k2, .int k3, .ref o0])).length) Slot.unset).toArray = ls at hl ⊢
  have hl : lv_has ls 6 [(0, .ref h0), (1, .int k1), (2, .int k2), (3, .int k3), (4, .ref o0)] := hl
  obtain ⟨H, eH⟩ : ∃ z, z = s.heap := ⟨_, rfl⟩
  rw [← eH] at hP ⊢
  have hS : va_S A s.heap H [] := by rw [eH]; exact va_S.rf
  refine lv_aload hx hb dL_sum_0 (lv_at hl 4 rfl) ?_
  refine lv_aload_n hx hb dL_sum_2 rfl (lv_at hl 0 rfl) ?_
  refine lv_iload_n hx hb dL_sum_3 rfl (lv_at hl 1 rfl) ?_
  refine lv_iload_n hx hb dL_sum_4 rfl (lv_at hl 2 rfl) ?_
  refine lv_iload_n hx hb dL_sum_5 rfl (lv_at hl 3 rfl) ?_
  have hPc := hP.sub (ws' := [(h0, .inr (9, [.int 7, .ref a1, .int 0, .ref a2, .int 0, .int 0, .ref w1, .ref p1, .ref o1])), (a1, .inl (cA1, 4, .inr (.inr (.inr (.inr (fun _ => none)))))), (a2, .inl (cA2, 10, .inr (.inr (.inr (.inr (fun _ => none))))))]) [0, 1, 2] rfl
  have hDc := hD.sub (ws' := [(h0, .inr (9, [.int 7, .ref a1, .int 0, .ref a2, .int 0, .int 0, .ref w1, .ref p1, .ref o1])), (a1, .inl (cA1, 4, .inr (.inr (.inr (.inr (fun _ => none)))))), (a2, .inl (cA2, 10, .inr (.inr (.inr (.inr (fun _ => none))))))]) [0, 1, 2] (by decide) rfl
  have hKc := hK.sub (tys' := [(cA1, .object RX0), (cA2, .object RX1)]) [0, 1] rfl
  have hFc := va_free (wc := [(h0, .inr (9, [.int 7, .ref a1, .int 0, .ref a2, .int 0, .int 0, .ref w1, .ref p1, .ref o1])), (a1, .inl (cA1, 4, .inr (.inr (.inr (.inr (fun _ => none)))))), (a2, .inl (cA2, 10, .inr (.inr (.inr (.inr (fun _ => none))))))]) hD hS hA [0, 1, 2] rfl
  refine vx_calli (vx_runV (As := [.int k1, .int k2, .int k3]) (rest := [.ref o0]) ⟨hx, hb, hml, hown, hts⟩ (c_sum l hst dC dI dE h0 a1 a2 w1 p1 o1 cA1 cA2 k1 k2 k3 H.size) (cwV 3 hts gL_sum_X6_sum rfl rfl rfl (by decide +kernel) ⟨Nat.le_of_ble_eq_true rfl, Nat.le_of_ble_eq_true rfl⟩) ⟨fun a U g mk q => ⟨q.1, PB.blind q.2⟩, va_recv hKc hPc (ci := 9) (q0 := 0) rfl rfl, fun U hU hW => ⟨rfl, PB.call hPc hKc hDc hTb hZ hS hFc hU hW⟩⟩ rfl rfl hl.1 rfl (lv_room (Nat.le_of_ble_eq_true rfl)) dL_sum_6 ⟨Nat.le_of_ble_eq_true rfl, Nat.le_of_ble_eq_true rfl⟩) hS (fun q _ h => hFc q h) hFc (fun q _ h => hFc q h) (fun E ce q9 u t H locs ht hvm hpx hBX hz1 hk1 hS hcell hv hcl => ?_) (fun r u t H locs ht hvm hw hB hz1 hk1 hS => ?_)
  · subst hBX
    refine vx_catch hown [] (⟨0, 13, 16, 30⟩ : ExceptionTableEntry) [⟨0, 13, 20, 19⟩] hex (fun z h => nomatch h) (by decide +kernel) (by decide +kernel) (name := "java/lang/IndexOutOfBoundsException") (hts (.classLink RL 30 "java/lang/IndexOutOfBoundsException") (by decide +kernel)) (va_Nw.use rfl (Tb_c1 hTb)) hcell hv hcl ?_
    refine W.eq (g2 := F0 m 16 ls [.ref q9]) rfl ?_
    have hP : va_P (dC, dI) vwCl [] H := fun k q h => by simp at h
    have hD : va_D A [] := ⟨fun i j p q h => by simp at h, fun k q h => by simp at h⟩
    have hK := hK.sub (tys' := []) [] rfl
    refine lv_astore (lv' := [(5, .ref q9), (0, .ref h0), (1, .int k1), (2, .int k2), (3, .int k3), (4, .ref o0)]) hx hb dL_sum_16 hl (by decide) rfl (fun ls hl => ?_)
    refine lv_iconst (v := 1) hx hb dL_sum_18 (by decide) ?_
    refine W.widen (k := 1) (n := 6) (Nat.le_of_ble_eq_true rfl) (Nat.le_of_ble_eq_true rfl) ?_
    exact W.iret (v := 1) hx hb hr (fun t ht hW => ⟨⟨_, (), rfl, rfl, trivial⟩, hS.F ht⟩) hS.2.2 dL_sum_19
  · exact hw.elim

set_option maxHeartbeats 4000000 in
set_option maxRecDepth 100000 in
/-- c_L_product -/
theorem c_L_product (l : Launch) (hst : l.stackTraces = false) (dC : Nat → ClassId) (dI : Nat → Nat → Nat) (dE : Nat) (h0 : Nat) (a1 : Nat) (a2 : Nat) (w1 : Nat) (p1 : Nat) (o1 : Nat) (cA1 : ClassId) (cA2 : ClassId) (k1 : Int32) (k2 : Int32) (k3 : Int32) (o0 : Nat) (sz : Nat) : Met l yL_product wsL_product ({ frames := 10, cells := 1, slots := 6, locals := 168 }) (va_Pc [.ref h0, .int k1, .int k2, .int k3, .ref o0] (PB dC dI dE [(cA1, .object RX0), (cA2, .object RX1)] [(h0, .inr (9, [.int 7, .ref a1, .int 0, .ref a2, .int 0, .int 0, .ref w1, .ref p1, .ref o1])), (a1, .inl (cA1, 4, .inr (.inr (.inr (.inr (fun _ => none)))))), (a2, .inl (cA2, 10, .inr (.inr (.inr (.inr (fun _ => none))))))] sz)) (va_Qi (fun (r : Int32) (_ : Unit) => r = 1) (fun (_ : Unit) (_ : State) => True) (va_A [(h0, .inr (9, [.int 7, .ref a1, .int 0, .ref a2, .int 0, .int 0, .ref w1, .ref p1, .ref o1])), (a1, .inl (cA1, 4, .inr (.inr (.inr (.inr (fun _ => none)))))), (a2, .inl (cA2, 10, .inr (.inr (.inr (.inr (fun _ => none))))))] sz)) 1 6 (va_A [(h0, .inr (9, [.int 7, .ref a1, .int 0, .ref a2, .int 0, .int 0, .ref w1, .ref p1, .ref o1])), (a1, .inl (cA1, 4, .inr (.inr (.inr (.inr (fun _ => none)))))), (a2, .inl (cA2, 10, .inr (.inr (.inr (.inr (fun _ => none))))))] sz) := by
  refine va_MetW (cc := cL_product) (maxL := 6) (ret := (some .int)) (hh := [(0, 13, 16, 30), (0, 13, 20, 19)]) (by decide) rfl ?_
  intro p e s m args below meth c s₁ B hml hv
  obtain ⟨rfl, hsz, hP, hK, hD0, hTb, hZ⟩ := hv
  have hx := B.exec
  have hb := B.bytes
  have hr := B.returns
  have hts := atoms_spec (ws := wsL_product) B.pre
  have hown : s.vm.findClass RL = some m.cls := findClass_of_methodNamed B.named
  have hlocks := B.notSynchronized
  have hex := vx_table (x := yL_product) B (hts _ List.mem_cons_self)
  subst hsz
  have hD := hD0.self (sz := s.heap.size)
  generalize hAe : va_A [(h0, .inr (9, [.int 7, .ref a1, .int 0, .ref a2, .int 0, .int 0, .ref w1, .ref p1, .ref o1])), (a1, .inl (cA1, 4, .inr (.inr (.inr (.inr (fun _ => none)))))), (a2, .inl (cA2, 10, .inr (.inr (.inr (.inr (fun _ => none))))))] s.heap.size = A at hD hZ ⊢
  have hA : ∀ q : Nat, s.heap.size ≤ q → A q := fun q h => by rw [← hAe]; exact Or.inr h
  have hS : va_S A s.heap s.heap [] := va_S.rf
  have hP : va_P (dC, dI) vwCl [(h0, .inr (9, [.int 7, .ref a1, .int 0, .ref a2, .int 0, .int 0, .ref w1, .ref p1, .ref o1])), (a1, .inl (cA1, 4, .inr (.inr (.inr (.inr (fun _ => none)))))), (a2, .inl (cA2, 10, .inr (.inr (.inr (.inr (fun _ => none))))))] s.heap := hP
  have hl := lv_entry ([.ref h0, .int k1, .int k2, .int k3, .ref o0]) (n := 6) (Nat.le_of_ble_eq_true rfl)
  rw [lg_entry_eq]
  generalize (lg_sl ([.ref h0, .int k1, .int k2, .int k3, .ref o0]) ++ List.replicate (6 - (lg_sl ([.ref h0, .int k1, .int k2, .int k3, .ref o0])).length) Slot.unset).toArray = ls at hl ⊢
  have hl : lv_has ls 6 [(0, .ref h0), (1, .int k1), (2, .int k2), (3, .int k3), (4, .ref o0)] := hl
  obtain ⟨H, eH⟩ : ∃ z, z = s.heap := ⟨_, rfl⟩
  rw [← eH] at hP ⊢
  have hS : va_S A s.heap H [] := by rw [eH]; exact va_S.rf
  refine lv_aload hx hb dL_product_0 (lv_at hl 4 rfl) ?_
  refine lv_aload_n hx hb dL_product_2 rfl (lv_at hl 0 rfl) ?_
  refine lv_iload_n hx hb dL_product_3 rfl (lv_at hl 1 rfl) ?_
  refine lv_iload_n hx hb dL_product_4 rfl (lv_at hl 2 rfl) ?_
  refine lv_iload_n hx hb dL_product_5 rfl (lv_at hl 3 rfl) ?_
  have hPc := hP.sub (ws' := [(h0, .inr (9, [.int 7, .ref a1, .int 0, .ref a2, .int 0, .int 0, .ref w1, .ref p1, .ref o1])), (a1, .inl (cA1, 4, .inr (.inr (.inr (.inr (fun _ => none)))))), (a2, .inl (cA2, 10, .inr (.inr (.inr (.inr (fun _ => none))))))]) [0, 1, 2] rfl
  have hDc := hD.sub (ws' := [(h0, .inr (9, [.int 7, .ref a1, .int 0, .ref a2, .int 0, .int 0, .ref w1, .ref p1, .ref o1])), (a1, .inl (cA1, 4, .inr (.inr (.inr (.inr (fun _ => none)))))), (a2, .inl (cA2, 10, .inr (.inr (.inr (.inr (fun _ => none))))))]) [0, 1, 2] (by decide) rfl
  have hKc := hK.sub (tys' := [(cA1, .object RX0), (cA2, .object RX1)]) [0, 1] rfl
  have hFc := va_free (wc := [(h0, .inr (9, [.int 7, .ref a1, .int 0, .ref a2, .int 0, .int 0, .ref w1, .ref p1, .ref o1])), (a1, .inl (cA1, 4, .inr (.inr (.inr (.inr (fun _ => none)))))), (a2, .inl (cA2, 10, .inr (.inr (.inr (.inr (fun _ => none))))))]) hD hS hA [0, 1, 2] rfl
  refine vx_calli (vx_runV (As := [.int k1, .int k2, .int k3]) (rest := [.ref o0]) ⟨hx, hb, hml, hown, hts⟩ (c_product l hst dC dI dE h0 a1 a2 w1 p1 o1 cA1 cA2 k1 k2 k3 H.size) (cwV 3 hts gL_product_X6_product rfl rfl rfl (by decide +kernel) ⟨Nat.le_of_ble_eq_true rfl, Nat.le_of_ble_eq_true rfl⟩) ⟨fun a U g mk q => ⟨q.1, PB.blind q.2⟩, va_recv hKc hPc (ci := 9) (q0 := 0) rfl rfl, fun U hU hW => ⟨rfl, PB.call hPc hKc hDc hTb hZ hS hFc hU hW⟩⟩ rfl rfl hl.1 rfl (lv_room (Nat.le_of_ble_eq_true rfl)) dL_product_6 ⟨Nat.le_of_ble_eq_true rfl, Nat.le_of_ble_eq_true rfl⟩) hS (fun q _ h => hFc q h) hFc (fun q _ h => hFc q h) (fun E ce q9 u t H locs ht hvm hpx hBX hz1 hk1 hS hcell hv hcl => ?_) (fun r u t H locs ht hvm hw hB hz1 hk1 hS => ?_)
  · subst hBX
    refine vx_catch hown [] (⟨0, 13, 16, 30⟩ : ExceptionTableEntry) [⟨0, 13, 20, 19⟩] hex (fun z h => nomatch h) (by decide +kernel) (by decide +kernel) (name := "java/lang/IndexOutOfBoundsException") (hts (.classLink RL 30 "java/lang/IndexOutOfBoundsException") (by decide +kernel)) (va_Nw.use rfl (Tb_c1 hTb)) hcell hv hcl ?_
    refine W.eq (g2 := F0 m 16 ls [.ref q9]) rfl ?_
    have hP : va_P (dC, dI) vwCl [] H := fun k q h => by simp at h
    have hD : va_D A [] := ⟨fun i j p q h => by simp at h, fun k q h => by simp at h⟩
    have hK := hK.sub (tys' := []) [] rfl
    refine lv_astore (lv' := [(5, .ref q9), (0, .ref h0), (1, .int k1), (2, .int k2), (3, .int k3), (4, .ref o0)]) hx hb dL_product_16 hl (by decide) rfl (fun ls hl => ?_)
    refine lv_iconst (v := 1) hx hb dL_product_18 (by decide) ?_
    refine W.widen (k := 1) (n := 6) (Nat.le_of_ble_eq_true rfl) (Nat.le_of_ble_eq_true rfl) ?_
    exact W.iret (v := 1) hx hb hr (fun t ht hW => ⟨⟨_, (), rfl, rfl, trivial⟩, hS.F ht⟩) hS.2.2 dL_product_19
  · exact hw.elim

set_option maxHeartbeats 4000000 in
set_option maxRecDepth 100000 in
/-- c_L_scale -/
theorem c_L_scale (l : Launch) (hst : l.stackTraces = false) (dC : Nat → ClassId) (dI : Nat → Nat → Nat) (dE : Nat) (h0 : Nat) (a1 : Nat) (a2 : Nat) (w1 : Nat) (p1 : Nat) (o1 : Nat) (cA1 : ClassId) (cA2 : ClassId) (k1 : Int32) (k2 : Int32) (k3 : Int32) (o0 : Nat) (sz : Nat) : Met l yL_scale wsL_scale ({ frames := 10, cells := 1, slots := 6, locals := 167 }) (va_Pc [.ref h0, .int k1, .int k2, .int k3, .ref o0] (PB dC dI dE [(cA1, .object RX0), (cA2, .object RX1)] [(h0, .inr (9, [.int 7, .ref a1, .int 0, .ref a2, .int 0, .int 0, .ref w1, .ref p1, .ref o1])), (a1, .inl (cA1, 4, .inr (.inr (.inr (.inr (fun _ => none)))))), (a2, .inl (cA2, 10, .inr (.inr (.inr (.inr (fun _ => none))))))] sz)) (va_Qi (fun (r : Int32) (_ : Unit) => r = 1) (fun (_ : Unit) (_ : State) => True) (va_A [(h0, .inr (9, [.int 7, .ref a1, .int 0, .ref a2, .int 0, .int 0, .ref w1, .ref p1, .ref o1])), (a1, .inl (cA1, 4, .inr (.inr (.inr (.inr (fun _ => none)))))), (a2, .inl (cA2, 10, .inr (.inr (.inr (.inr (fun _ => none))))))] sz)) 1 6 (va_A [(h0, .inr (9, [.int 7, .ref a1, .int 0, .ref a2, .int 0, .int 0, .ref w1, .ref p1, .ref o1])), (a1, .inl (cA1, 4, .inr (.inr (.inr (.inr (fun _ => none)))))), (a2, .inl (cA2, 10, .inr (.inr (.inr (.inr (fun _ => none))))))] sz) := by
  refine va_MetW (cc := cL_scale) (maxL := 6) (ret := (some .int)) (hh := [(0, 13, 16, 30), (0, 13, 20, 19)]) (by decide) rfl ?_
  intro p e s m args below meth c s₁ B hml hv
  obtain ⟨rfl, hsz, hP, hK, hD0, hTb, hZ⟩ := hv
  have hx := B.exec
  have hb := B.bytes
  have hr := B.returns
  have hts := atoms_spec (ws := wsL_scale) B.pre
  have hown : s.vm.findClass RL = some m.cls := findClass_of_methodNamed B.named
  have hlocks := B.notSynchronized
  have hex := vx_table (x := yL_scale) B (hts _ List.mem_cons_self)
  subst hsz
  have hD := hD0.self (sz := s.heap.size)
  generalize hAe : va_A [(h0, .inr (9, [.int 7, .ref a1, .int 0, .ref a2, .int 0, .int 0, .ref w1, .ref p1, .ref o1])), (a1, .inl (cA1, 4, .inr (.inr (.inr (.inr (fun _ => none)))))), (a2, .inl (cA2, 10, .inr (.inr (.inr (.inr (fun _ => none))))))] s.heap.size = A at hD hZ ⊢
  have hA : ∀ q : Nat, s.heap.size ≤ q → A q := fun q h => by rw [← hAe]; exact Or.inr h
  have hS : va_S A s.heap s.heap [] := va_S.rf
  have hP : va_P (dC, dI) vwCl [(h0, .inr (9, [.int 7, .ref a1, .int 0, .ref a2, .int 0, .int 0, .ref w1, .ref p1, .ref o1])), (a1, .inl (cA1, 4, .inr (.inr (.inr (.inr (fun _ => none)))))), (a2, .inl (cA2, 10, .inr (.inr (.inr (.inr (fun _ => none))))))] s.heap := hP
  have hl := lv_entry ([.ref h0, .int k1, .int k2, .int k3, .ref o0]) (n := 6) (Nat.le_of_ble_eq_true rfl)
  rw [lg_entry_eq]
  generalize (lg_sl ([.ref h0, .int k1, .int k2, .int k3, .ref o0]) ++ List.replicate (6 - (lg_sl ([.ref h0, .int k1, .int k2, .int k3, .ref o0])).length) Slot.unset).toArray = ls at hl ⊢
  have hl : lv_has ls 6 [(0, .ref h0), (1, .int k1), (2, .int k2), (3, .int k3), (4, .ref o0)] := hl
  obtain ⟨H, eH⟩ : ∃ z, z = s.heap := ⟨_, rfl⟩
  rw [← eH] at hP ⊢
  have hS : va_S A s.heap H [] := by rw [eH]; exact va_S.rf
  refine lv_aload hx hb dL_scale_0 (lv_at hl 4 rfl) ?_
  refine lv_aload_n hx hb dL_scale_2 rfl (lv_at hl 0 rfl) ?_
  refine lv_iload_n hx hb dL_scale_3 rfl (lv_at hl 1 rfl) ?_
  refine lv_iload_n hx hb dL_scale_4 rfl (lv_at hl 2 rfl) ?_
  refine lv_iload_n hx hb dL_scale_5 rfl (lv_at hl 3 rfl) ?_
  have hPc := hP.sub (ws' := [(h0, .inr (9, [.int 7, .ref a1, .int 0, .ref a2, .int 0, .int 0, .ref w1, .ref p1, .ref o1])), (a1, .inl (cA1, 4, .inr (.inr (.inr (.inr (fun _ => none)))))), (a2, .inl (cA2, 10, .inr (.inr (.inr (.inr (fun _ => none))))))]) [0, 1, 2] rfl
  have hDc := hD.sub (ws' := [(h0, .inr (9, [.int 7, .ref a1, .int 0, .ref a2, .int 0, .int 0, .ref w1, .ref p1, .ref o1])), (a1, .inl (cA1, 4, .inr (.inr (.inr (.inr (fun _ => none)))))), (a2, .inl (cA2, 10, .inr (.inr (.inr (.inr (fun _ => none))))))]) [0, 1, 2] (by decide) rfl
  have hKc := hK.sub (tys' := [(cA1, .object RX0), (cA2, .object RX1)]) [0, 1] rfl
  have hFc := va_free (wc := [(h0, .inr (9, [.int 7, .ref a1, .int 0, .ref a2, .int 0, .int 0, .ref w1, .ref p1, .ref o1])), (a1, .inl (cA1, 4, .inr (.inr (.inr (.inr (fun _ => none)))))), (a2, .inl (cA2, 10, .inr (.inr (.inr (.inr (fun _ => none))))))]) hD hS hA [0, 1, 2] rfl
  refine vx_calli (vx_runV (As := [.int k1, .int k2, .int k3]) (rest := [.ref o0]) ⟨hx, hb, hml, hown, hts⟩ (c_scale l hst dC dI dE h0 a1 a2 w1 p1 o1 cA1 cA2 k1 k2 k3 H.size) (cwV 3 hts gL_scale_X6_scale rfl rfl rfl (by decide +kernel) ⟨Nat.le_of_ble_eq_true rfl, Nat.le_of_ble_eq_true rfl⟩) ⟨fun a U g mk q => ⟨q.1, PB.blind q.2⟩, va_recv hKc hPc (ci := 9) (q0 := 0) rfl rfl, fun U hU hW => ⟨rfl, PB.call hPc hKc hDc hTb hZ hS hFc hU hW⟩⟩ rfl rfl hl.1 rfl (lv_room (Nat.le_of_ble_eq_true rfl)) dL_scale_6 ⟨Nat.le_of_ble_eq_true rfl, Nat.le_of_ble_eq_true rfl⟩) hS (fun q _ h => hFc q h) hFc (fun q _ h => hFc q h) (fun E ce q9 u t H locs ht hvm hpx hBX hz1 hk1 hS hcell hv hcl => ?_) (fun r u t H locs ht hvm hw hB hz1 hk1 hS => ?_)
  · subst hBX
    refine vx_catch hown [] (⟨0, 13, 16, 30⟩ : ExceptionTableEntry) [⟨0, 13, 20, 19⟩] hex (fun z h => nomatch h) (by decide +kernel) (by decide +kernel) (name := "java/lang/IndexOutOfBoundsException") (hts (.classLink RL 30 "java/lang/IndexOutOfBoundsException") (by decide +kernel)) (va_Nw.use rfl (Tb_c1 hTb)) hcell hv hcl ?_
    refine W.eq (g2 := F0 m 16 ls [.ref q9]) rfl ?_
    have hP : va_P (dC, dI) vwCl [] H := fun k q h => by simp at h
    have hD : va_D A [] := ⟨fun i j p q h => by simp at h, fun k q h => by simp at h⟩
    have hK := hK.sub (tys' := []) [] rfl
    refine lv_astore (lv' := [(5, .ref q9), (0, .ref h0), (1, .int k1), (2, .int k2), (3, .int k3), (4, .ref o0)]) hx hb dL_scale_16 hl (by decide) rfl (fun ls hl => ?_)
    refine lv_iconst (v := 1) hx hb dL_scale_18 (by decide) ?_
    refine W.widen (k := 1) (n := 6) (Nat.le_of_ble_eq_true rfl) (Nat.le_of_ble_eq_true rfl) ?_
    exact W.iret (v := 1) hx hb hr (fun t ht hW => ⟨⟨_, (), rfl, rfl, trivial⟩, hS.F ht⟩) hS.2.2 dL_scale_19
  · exact hw.elim

set_option maxHeartbeats 4000000 in
set_option maxRecDepth 100000 in
/-- c_L_conjugate -/
theorem c_L_conjugate (l : Launch) (hst : l.stackTraces = false) (dC : Nat → ClassId) (dI : Nat → Nat → Nat) (dE : Nat) (h0 : Nat) (a1 : Nat) (a2 : Nat) (w1 : Nat) (p1 : Nat) (o1 : Nat) (cA1 : ClassId) (cA2 : ClassId) (k1 : Int32) (k2 : Int32) (o0 : Nat) (sz : Nat) : Met l yL_conjugate wsL_conjugate ({ frames := 10, cells := 1, slots := 6, locals := 166 }) (va_Pc [.ref h0, .int k1, .int k2, .ref o0] (PB dC dI dE [(cA1, .object RX0), (cA2, .object RX1)] [(h0, .inr (9, [.int 7, .ref a1, .int 0, .ref a2, .int 0, .int 0, .ref w1, .ref p1, .ref o1])), (a1, .inl (cA1, 4, .inr (.inr (.inr (.inr (fun _ => none)))))), (a2, .inl (cA2, 10, .inr (.inr (.inr (.inr (fun _ => none))))))] sz)) (va_Qi (fun (r : Int32) (_ : Unit) => r = 1) (fun (_ : Unit) (_ : State) => True) (va_A [(h0, .inr (9, [.int 7, .ref a1, .int 0, .ref a2, .int 0, .int 0, .ref w1, .ref p1, .ref o1])), (a1, .inl (cA1, 4, .inr (.inr (.inr (.inr (fun _ => none)))))), (a2, .inl (cA2, 10, .inr (.inr (.inr (.inr (fun _ => none))))))] sz)) 1 6 (va_A [(h0, .inr (9, [.int 7, .ref a1, .int 0, .ref a2, .int 0, .int 0, .ref w1, .ref p1, .ref o1])), (a1, .inl (cA1, 4, .inr (.inr (.inr (.inr (fun _ => none)))))), (a2, .inl (cA2, 10, .inr (.inr (.inr (.inr (fun _ => none))))))] sz) := by
  refine va_MetW (cc := cL_conjugate) (maxL := 5) (ret := (some .int)) (hh := [(0, 11, 14, 30), (0, 11, 18, 19)]) (by decide) rfl ?_
  intro p e s m args below meth c s₁ B hml hv
  obtain ⟨rfl, hsz, hP, hK, hD0, hTb, hZ⟩ := hv
  have hx := B.exec
  have hb := B.bytes
  have hr := B.returns
  have hts := atoms_spec (ws := wsL_conjugate) B.pre
  have hown : s.vm.findClass RL = some m.cls := findClass_of_methodNamed B.named
  have hlocks := B.notSynchronized
  have hex := vx_table (x := yL_conjugate) B (hts _ List.mem_cons_self)
  subst hsz
  have hD := hD0.self (sz := s.heap.size)
  generalize hAe : va_A [(h0, .inr (9, [.int 7, .ref a1, .int 0, .ref a2, .int 0, .int 0, .ref w1, .ref p1, .ref o1])), (a1, .inl (cA1, 4, .inr (.inr (.inr (.inr (fun _ => none)))))), (a2, .inl (cA2, 10, .inr (.inr (.inr (.inr (fun _ => none))))))] s.heap.size = A at hD hZ ⊢
  have hA : ∀ q : Nat, s.heap.size ≤ q → A q := fun q h => by rw [← hAe]; exact Or.inr h
  have hS : va_S A s.heap s.heap [] := va_S.rf
  have hP : va_P (dC, dI) vwCl [(h0, .inr (9, [.int 7, .ref a1, .int 0, .ref a2, .int 0, .int 0, .ref w1, .ref p1, .ref o1])), (a1, .inl (cA1, 4, .inr (.inr (.inr (.inr (fun _ => none)))))), (a2, .inl (cA2, 10, .inr (.inr (.inr (.inr (fun _ => none))))))] s.heap := hP
  have hl := lv_entry ([.ref h0, .int k1, .int k2, .ref o0]) (n := 5) (Nat.le_of_ble_eq_true rfl)
  rw [lg_entry_eq]
  generalize (lg_sl ([.ref h0, .int k1, .int k2, .ref o0]) ++ List.replicate (5 - (lg_sl ([.ref h0, .int k1, .int k2, .ref o0])).length) Slot.unset).toArray = ls at hl ⊢
  have hl : lv_has ls 5 [(0, .ref h0), (1, .int k1), (2, .int k2), (3, .ref o0)] := hl
  obtain ⟨H, eH⟩ : ∃ z, z = s.heap := ⟨_, rfl⟩
  rw [← eH] at hP ⊢
  have hS : va_S A s.heap H [] := by rw [eH]; exact va_S.rf
  refine lv_aload_n hx hb dL_conjugate_0 rfl (lv_at hl 3 rfl) ?_
  refine lv_aload_n hx hb dL_conjugate_1 rfl (lv_at hl 0 rfl) ?_
  refine lv_iload_n hx hb dL_conjugate_2 rfl (lv_at hl 1 rfl) ?_
  refine lv_iload_n hx hb dL_conjugate_3 rfl (lv_at hl 2 rfl) ?_
  have hPc := hP.sub (ws' := [(h0, .inr (9, [.int 7, .ref a1, .int 0, .ref a2, .int 0, .int 0, .ref w1, .ref p1, .ref o1])), (a1, .inl (cA1, 4, .inr (.inr (.inr (.inr (fun _ => none)))))), (a2, .inl (cA2, 10, .inr (.inr (.inr (.inr (fun _ => none))))))]) [0, 1, 2] rfl
  have hDc := hD.sub (ws' := [(h0, .inr (9, [.int 7, .ref a1, .int 0, .ref a2, .int 0, .int 0, .ref w1, .ref p1, .ref o1])), (a1, .inl (cA1, 4, .inr (.inr (.inr (.inr (fun _ => none)))))), (a2, .inl (cA2, 10, .inr (.inr (.inr (.inr (fun _ => none))))))]) [0, 1, 2] (by decide) rfl
  have hKc := hK.sub (tys' := [(cA1, .object RX0), (cA2, .object RX1)]) [0, 1] rfl
  have hFc := va_free (wc := [(h0, .inr (9, [.int 7, .ref a1, .int 0, .ref a2, .int 0, .int 0, .ref w1, .ref p1, .ref o1])), (a1, .inl (cA1, 4, .inr (.inr (.inr (.inr (fun _ => none)))))), (a2, .inl (cA2, 10, .inr (.inr (.inr (.inr (fun _ => none))))))]) hD hS hA [0, 1, 2] rfl
  refine vx_calli (vx_runV (As := [.int k1, .int k2]) (rest := [.ref o0]) ⟨hx, hb, hml, hown, hts⟩ (c_conjugate l hst dC dI dE h0 a1 a2 w1 p1 o1 cA1 cA2 k1 k2 H.size) (cwV 2 hts gL_conjugate_X6_conjugate rfl rfl rfl (by decide +kernel) ⟨Nat.le_of_ble_eq_true rfl, Nat.le_of_ble_eq_true rfl⟩) ⟨fun a U g mk q => ⟨q.1, PB.blind q.2⟩, va_recv hKc hPc (ci := 9) (q0 := 0) rfl rfl, fun U hU hW => ⟨rfl, PB.call hPc hKc hDc hTb hZ hS hFc hU hW⟩⟩ rfl rfl hl.1 rfl (lv_room (Nat.le_of_ble_eq_true rfl)) dL_conjugate_4 ⟨Nat.le_of_ble_eq_true rfl, Nat.le_of_ble_eq_true rfl⟩) hS (fun q _ h => hFc q h) hFc (fun q _ h => hFc q h) (fun E ce q9 u t H locs ht hvm hpx hBX hz1 hk1 hS hcell hv hcl => ?_) (fun r u t H locs ht hvm hw hB hz1 hk1 hS => ?_)
  · subst hBX
    refine vx_catch hown [] (⟨0, 11, 14, 30⟩ : ExceptionTableEntry) [⟨0, 11, 18, 19⟩] hex (fun z h => nomatch h) (by decide +kernel) (by decide +kernel) (name := "java/lang/IndexOutOfBoundsException") (hts (.classLink RL 30 "java/lang/IndexOutOfBoundsException") (by decide +kernel)) (va_Nw.use rfl (Tb_c1 hTb)) hcell hv hcl ?_
    refine W.eq (g2 := F0 m 14 ls [.ref q9]) rfl ?_
    have hP : va_P (dC, dI) vwCl [] H := fun k q h => by simp at h
    have hD : va_D A [] := ⟨fun i j p q h => by simp at h, fun k q h => by simp at h⟩
    have hK := hK.sub (tys' := []) [] rfl
    refine lv_astore (lv' := [(4, .ref q9), (0, .ref h0), (1, .int k1), (2, .int k2), (3, .ref o0)]) hx hb dL_conjugate_14 hl (by decide) rfl (fun ls hl => ?_)
    refine lv_iconst (v := 1) hx hb dL_conjugate_16 (by decide) ?_
    refine W.widen (k := 1) (n := 6) (Nat.le_of_ble_eq_true rfl) (Nat.le_of_ble_eq_true rfl) ?_
    exact W.iret (v := 1) hx hb hr (fun t ht hW => ⟨⟨_, (), rfl, rfl, trivial⟩, hS.F ht⟩) hS.2.2 dL_conjugate_17
  · exact hw.elim

set_option maxHeartbeats 4000000 in
set_option maxRecDepth 100000 in
/-- c_L_power -/
theorem c_L_power (l : Launch) (hst : l.stackTraces = false) (dC : Nat → ClassId) (dI : Nat → Nat → Nat) (dE : Nat) (h0 : Nat) (a1 : Nat) (a2 : Nat) (w1 : Nat) (p1 : Nat) (o1 : Nat) (cA1 : ClassId) (cA2 : ClassId) (k1 : Int32) (k2 : Int32) (k3 : Int32) (o0 : Nat) (sz : Nat) : Met l yL_power wsL_power ({ frames := 10, cells := 1, slots := 6, locals := 167 }) (va_Pc [.ref h0, .int k1, .int k2, .int k3, .ref o0] (PB dC dI dE [(cA1, .object RX0), (cA2, .object RX1)] [(h0, .inr (9, [.int 7, .ref a1, .int 0, .ref a2, .int 0, .int 0, .ref w1, .ref p1, .ref o1])), (a1, .inl (cA1, 4, .inr (.inr (.inr (.inr (fun _ => none)))))), (a2, .inl (cA2, 10, .inr (.inr (.inr (.inr (fun _ => none))))))] sz)) (va_Qi (fun (r : Int32) (_ : Unit) => r = 1) (fun (_ : Unit) (_ : State) => True) (va_A [(h0, .inr (9, [.int 7, .ref a1, .int 0, .ref a2, .int 0, .int 0, .ref w1, .ref p1, .ref o1])), (a1, .inl (cA1, 4, .inr (.inr (.inr (.inr (fun _ => none)))))), (a2, .inl (cA2, 10, .inr (.inr (.inr (.inr (fun _ => none))))))] sz)) 1 6 (va_A [(h0, .inr (9, [.int 7, .ref a1, .int 0, .ref a2, .int 0, .int 0, .ref w1, .ref p1, .ref o1])), (a1, .inl (cA1, 4, .inr (.inr (.inr (.inr (fun _ => none)))))), (a2, .inl (cA2, 10, .inr (.inr (.inr (.inr (fun _ => none))))))] sz) := by
  refine va_MetW (cc := cL_power) (maxL := 6) (ret := (some .int)) (hh := [(0, 13, 16, 30), (0, 13, 20, 19)]) (by decide) rfl ?_
  intro p e s m args below meth c s₁ B hml hv
  obtain ⟨rfl, hsz, hP, hK, hD0, hTb, hZ⟩ := hv
  have hx := B.exec
  have hb := B.bytes
  have hr := B.returns
  have hts := atoms_spec (ws := wsL_power) B.pre
  have hown : s.vm.findClass RL = some m.cls := findClass_of_methodNamed B.named
  have hlocks := B.notSynchronized
  have hex := vx_table (x := yL_power) B (hts _ List.mem_cons_self)
  subst hsz
  have hD := hD0.self (sz := s.heap.size)
  generalize hAe : va_A [(h0, .inr (9, [.int 7, .ref a1, .int 0, .ref a2, .int 0, .int 0, .ref w1, .ref p1, .ref o1])), (a1, .inl (cA1, 4, .inr (.inr (.inr (.inr (fun _ => none)))))), (a2, .inl (cA2, 10, .inr (.inr (.inr (.inr (fun _ => none))))))] s.heap.size = A at hD hZ ⊢
  have hA : ∀ q : Nat, s.heap.size ≤ q → A q := fun q h => by rw [← hAe]; exact Or.inr h
  have hS : va_S A s.heap s.heap [] := va_S.rf
  have hP : va_P (dC, dI) vwCl [(h0, .inr (9, [.int 7, .ref a1, .int 0, .ref a2, .int 0, .int 0, .ref w1, .ref p1, .ref o1])), (a1, .inl (cA1, 4, .inr (.inr (.inr (.inr (fun _ => none)))))), (a2, .inl (cA2, 10, .inr (.inr (.inr (.inr (fun _ => none))))))] s.heap := hP
  have hl := lv_entry ([.ref h0, .int k1, .int k2, .int k3, .ref o0]) (n := 6) (Nat.le_of_ble_eq_true rfl)
  rw [lg_entry_eq]
  generalize (lg_sl ([.ref h0, .int k1, .int k2, .int k3, .ref o0]) ++ List.replicate (6 - (lg_sl ([.ref h0, .int k1, .int k2, .int k3, .ref o0])).length) Slot.unset).toArray = ls at hl ⊢
  have hl : lv_has ls 6 [(0, .ref h0), (1, .int k1), (2, .int k2), (3, .int k3), (4, .ref o0)] := hl
  obtain ⟨H, eH⟩ : ∃ z, z = s.heap := ⟨_, rfl⟩
  rw [← eH] at hP ⊢
  have hS : va_S A s.heap H [] := by rw [eH]; exact va_S.rf
  refine lv_aload hx hb dL_power_0 (lv_at hl 4 rfl) ?_
  refine lv_aload_n hx hb dL_power_2 rfl (lv_at hl 0 rfl) ?_
  refine lv_iload_n hx hb dL_power_3 rfl (lv_at hl 1 rfl) ?_
  refine lv_iload_n hx hb dL_power_4 rfl (lv_at hl 2 rfl) ?_
  refine lv_iload_n hx hb dL_power_5 rfl (lv_at hl 3 rfl) ?_
  have hPc := hP.sub (ws' := [(h0, .inr (9, [.int 7, .ref a1, .int 0, .ref a2, .int 0, .int 0, .ref w1, .ref p1, .ref o1])), (a1, .inl (cA1, 4, .inr (.inr (.inr (.inr (fun _ => none)))))), (a2, .inl (cA2, 10, .inr (.inr (.inr (.inr (fun _ => none))))))]) [0, 1, 2] rfl
  have hDc := hD.sub (ws' := [(h0, .inr (9, [.int 7, .ref a1, .int 0, .ref a2, .int 0, .int 0, .ref w1, .ref p1, .ref o1])), (a1, .inl (cA1, 4, .inr (.inr (.inr (.inr (fun _ => none)))))), (a2, .inl (cA2, 10, .inr (.inr (.inr (.inr (fun _ => none))))))]) [0, 1, 2] (by decide) rfl
  have hKc := hK.sub (tys' := [(cA1, .object RX0), (cA2, .object RX1)]) [0, 1] rfl
  have hFc := va_free (wc := [(h0, .inr (9, [.int 7, .ref a1, .int 0, .ref a2, .int 0, .int 0, .ref w1, .ref p1, .ref o1])), (a1, .inl (cA1, 4, .inr (.inr (.inr (.inr (fun _ => none)))))), (a2, .inl (cA2, 10, .inr (.inr (.inr (.inr (fun _ => none))))))]) hD hS hA [0, 1, 2] rfl
  refine vx_calli (vx_runV (As := [.int k1, .int k2, .int k3]) (rest := [.ref o0]) ⟨hx, hb, hml, hown, hts⟩ (c_power l hst dC dI dE h0 a1 a2 w1 p1 o1 cA1 cA2 k1 k2 k3 H.size) (cwV 3 hts gL_power_X6_power rfl rfl rfl (by decide +kernel) ⟨Nat.le_of_ble_eq_true rfl, Nat.le_of_ble_eq_true rfl⟩) ⟨fun a U g mk q => ⟨q.1, PB.blind q.2⟩, va_recv hKc hPc (ci := 9) (q0 := 0) rfl rfl, fun U hU hW => ⟨rfl, PB.call hPc hKc hDc hTb hZ hS hFc hU hW⟩⟩ rfl rfl hl.1 rfl (lv_room (Nat.le_of_ble_eq_true rfl)) dL_power_6 ⟨Nat.le_of_ble_eq_true rfl, Nat.le_of_ble_eq_true rfl⟩) hS (fun q _ h => hFc q h) hFc (fun q _ h => hFc q h) (fun E ce q9 u t H locs ht hvm hpx hBX hz1 hk1 hS hcell hv hcl => ?_) (fun r u t H locs ht hvm hw hB hz1 hk1 hS => ?_)
  · subst hBX
    refine vx_catch hown [] (⟨0, 13, 16, 30⟩ : ExceptionTableEntry) [⟨0, 13, 20, 19⟩] hex (fun z h => nomatch h) (by decide +kernel) (by decide +kernel) (name := "java/lang/IndexOutOfBoundsException") (hts (.classLink RL 30 "java/lang/IndexOutOfBoundsException") (by decide +kernel)) (va_Nw.use rfl (Tb_c1 hTb)) hcell hv hcl ?_
    refine W.eq (g2 := F0 m 16 ls [.ref q9]) rfl ?_
    have hP : va_P (dC, dI) vwCl [] H := fun k q h => by simp at h
    have hD : va_D A [] := ⟨fun i j p q h => by simp at h, fun k q h => by simp at h⟩
    have hK := hK.sub (tys' := []) [] rfl
    refine lv_astore (lv' := [(5, .ref q9), (0, .ref h0), (1, .int k1), (2, .int k2), (3, .int k3), (4, .ref o0)]) hx hb dL_power_16 hl (by decide) rfl (fun ls hl => ?_)
    refine lv_iconst (v := 1) hx hb dL_power_18 (by decide) ?_
    refine W.widen (k := 1) (n := 6) (Nat.le_of_ble_eq_true rfl) (Nat.le_of_ble_eq_true rfl) ?_
    exact W.iret (v := 1) hx hb hr (fun t ht hW => ⟨⟨_, (), rfl, rfl, trivial⟩, hS.F ht⟩) hS.2.2 dL_power_19
  · exact hw.elim

set_option maxHeartbeats 4000000 in
set_option maxRecDepth 100000 in
/-- c_L_invert -/
theorem c_L_invert (l : Launch) (hst : l.stackTraces = false) (dC : Nat → ClassId) (dI : Nat → Nat → Nat) (dE : Nat) (h0 : Nat) (a1 : Nat) (a2 : Nat) (w1 : Nat) (p1 : Nat) (o1 : Nat) (cA1 : ClassId) (cA2 : ClassId) (k1 : Int32) (k2 : Int32) (o0 : Nat) (sz : Nat) : Met l yL_invert wsL_invert ({ frames := 10, cells := 1, slots := 6, locals := 166 }) (va_Pc [.ref h0, .int k1, .int k2, .ref o0] (PB dC dI dE [(cA1, .object RX0), (cA2, .object RX1)] [(h0, .inr (9, [.int 7, .ref a1, .int 0, .ref a2, .int 0, .int 0, .ref w1, .ref p1, .ref o1])), (a1, .inl (cA1, 4, .inr (.inr (.inr (.inr (fun _ => none)))))), (a2, .inl (cA2, 10, .inr (.inr (.inr (.inr (fun _ => none))))))] sz)) (va_Qi (fun (r : Int32) (_ : Unit) => r = 1) (fun (_ : Unit) (_ : State) => True) (va_A [(h0, .inr (9, [.int 7, .ref a1, .int 0, .ref a2, .int 0, .int 0, .ref w1, .ref p1, .ref o1])), (a1, .inl (cA1, 4, .inr (.inr (.inr (.inr (fun _ => none)))))), (a2, .inl (cA2, 10, .inr (.inr (.inr (.inr (fun _ => none))))))] sz)) 1 6 (va_A [(h0, .inr (9, [.int 7, .ref a1, .int 0, .ref a2, .int 0, .int 0, .ref w1, .ref p1, .ref o1])), (a1, .inl (cA1, 4, .inr (.inr (.inr (.inr (fun _ => none)))))), (a2, .inl (cA2, 10, .inr (.inr (.inr (.inr (fun _ => none))))))] sz) := by
  refine va_MetW (cc := cL_invert) (maxL := 5) (ret := (some .int)) (hh := [(0, 11, 14, 30), (0, 11, 18, 19), (0, 11, 22, 21)]) (by decide) rfl ?_
  intro p e s m args below meth c s₁ B hml hv
  obtain ⟨rfl, hsz, hP, hK, hD0, hTb, hZ⟩ := hv
  have hx := B.exec
  have hb := B.bytes
  have hr := B.returns
  have hts := atoms_spec (ws := wsL_invert) B.pre
  have hown : s.vm.findClass RL = some m.cls := findClass_of_methodNamed B.named
  have hlocks := B.notSynchronized
  have hex := vx_table (x := yL_invert) B (hts _ List.mem_cons_self)
  subst hsz
  have hD := hD0.self (sz := s.heap.size)
  generalize hAe : va_A [(h0, .inr (9, [.int 7, .ref a1, .int 0, .ref a2, .int 0, .int 0, .ref w1, .ref p1, .ref o1])), (a1, .inl (cA1, 4, .inr (.inr (.inr (.inr (fun _ => none)))))), (a2, .inl (cA2, 10, .inr (.inr (.inr (.inr (fun _ => none))))))] s.heap.size = A at hD hZ ⊢
  have hA : ∀ q : Nat, s.heap.size ≤ q → A q := fun q h => by rw [← hAe]; exact Or.inr h
  have hS : va_S A s.heap s.heap [] := va_S.rf
  have hP : va_P (dC, dI) vwCl [(h0, .inr (9, [.int 7, .ref a1, .int 0, .ref a2, .int 0, .int 0, .ref w1, .ref p1, .ref o1])), (a1, .inl (cA1, 4, .inr (.inr (.inr (.inr (fun _ => none)))))), (a2, .inl (cA2, 10, .inr (.inr (.inr (.inr (fun _ => none))))))] s.heap := hP
  have hl := lv_entry ([.ref h0, .int k1, .int k2, .ref o0]) (n := 5) (Nat.le_of_ble_eq_true rfl)
  rw [lg_entry_eq]
  generalize (lg_sl ([.ref h0, .int k1, .int k2, .ref o0]) ++ List.replicate (5 - (lg_sl ([.ref h0, .int k1, .int k2, .ref o0])).length) Slot.unset).toArray = ls at hl ⊢
  have hl : lv_has ls 5 [(0, .ref h0), (1, .int k1), (2, .int k2), (3, .ref o0)] := hl
  obtain ⟨H, eH⟩ : ∃ z, z = s.heap := ⟨_, rfl⟩
  rw [← eH] at hP ⊢
  have hS : va_S A s.heap H [] := by rw [eH]; exact va_S.rf
  refine lv_aload_n hx hb dL_invert_0 rfl (lv_at hl 3 rfl) ?_
  refine lv_aload_n hx hb dL_invert_1 rfl (lv_at hl 0 rfl) ?_
  refine lv_iload_n hx hb dL_invert_2 rfl (lv_at hl 1 rfl) ?_
  refine lv_iload_n hx hb dL_invert_3 rfl (lv_at hl 2 rfl) ?_
  have hPc := hP.sub (ws' := [(h0, .inr (9, [.int 7, .ref a1, .int 0, .ref a2, .int 0, .int 0, .ref w1, .ref p1, .ref o1])), (a1, .inl (cA1, 4, .inr (.inr (.inr (.inr (fun _ => none)))))), (a2, .inl (cA2, 10, .inr (.inr (.inr (.inr (fun _ => none))))))]) [0, 1, 2] rfl
  have hDc := hD.sub (ws' := [(h0, .inr (9, [.int 7, .ref a1, .int 0, .ref a2, .int 0, .int 0, .ref w1, .ref p1, .ref o1])), (a1, .inl (cA1, 4, .inr (.inr (.inr (.inr (fun _ => none)))))), (a2, .inl (cA2, 10, .inr (.inr (.inr (.inr (fun _ => none))))))]) [0, 1, 2] (by decide) rfl
  have hKc := hK.sub (tys' := [(cA1, .object RX0), (cA2, .object RX1)]) [0, 1] rfl
  have hFc := va_free (wc := [(h0, .inr (9, [.int 7, .ref a1, .int 0, .ref a2, .int 0, .int 0, .ref w1, .ref p1, .ref o1])), (a1, .inl (cA1, 4, .inr (.inr (.inr (.inr (fun _ => none)))))), (a2, .inl (cA2, 10, .inr (.inr (.inr (.inr (fun _ => none))))))]) hD hS hA [0, 1, 2] rfl
  refine vx_calli (vx_runV (As := [.int k1, .int k2]) (rest := [.ref o0]) ⟨hx, hb, hml, hown, hts⟩ (c_invert l hst dC dI dE h0 a1 a2 w1 p1 o1 cA1 cA2 k1 k2 H.size) (cwV 2 hts gL_invert_X6_invert rfl rfl rfl (by decide +kernel) ⟨Nat.le_of_ble_eq_true rfl, Nat.le_of_ble_eq_true rfl⟩) ⟨fun a U g mk q => ⟨q.1, PB.blind q.2⟩, va_recv hKc hPc (ci := 9) (q0 := 0) rfl rfl, fun U hU hW => ⟨rfl, PB.call hPc hKc hDc hTb hZ hS hFc hU hW⟩⟩ rfl rfl hl.1 rfl (lv_room (Nat.le_of_ble_eq_true rfl)) dL_invert_4 ⟨Nat.le_of_ble_eq_true rfl, Nat.le_of_ble_eq_true rfl⟩) hS (fun q _ h => hFc q h) hFc (fun q _ h => hFc q h) (fun E ce q9 u t H locs ht hvm hpx hBX hz1 hk1 hS hcell hv hcl => ?_) (fun r u t H locs ht hvm hw hB hz1 hk1 hS => ?_)
  · subst hBX
    refine vx_catch hown [] (⟨0, 11, 14, 30⟩ : ExceptionTableEntry) [⟨0, 11, 18, 19⟩, ⟨0, 11, 22, 21⟩] hex (fun z h => nomatch h) (by decide +kernel) (by decide +kernel) (name := "java/lang/IndexOutOfBoundsException") (hts (.classLink RL 30 "java/lang/IndexOutOfBoundsException") (by decide +kernel)) (va_Nw.use rfl (Tb_c1 hTb)) hcell hv hcl ?_
    refine W.eq (g2 := F0 m 14 ls [.ref q9]) rfl ?_
    have hP : va_P (dC, dI) vwCl [] H := fun k q h => by simp at h
    have hD : va_D A [] := ⟨fun i j p q h => by simp at h, fun k q h => by simp at h⟩
    have hK := hK.sub (tys' := []) [] rfl
    refine lv_astore (lv' := [(4, .ref q9), (0, .ref h0), (1, .int k1), (2, .int k2), (3, .ref o0)]) hx hb dL_invert_14 hl (by decide) rfl (fun ls hl => ?_)
    refine lv_iconst (v := 1) hx hb dL_invert_16 (by decide) ?_
    refine W.widen (k := 1) (n := 6) (Nat.le_of_ble_eq_true rfl) (Nat.le_of_ble_eq_true rfl) ?_
    exact W.iret (v := 1) hx hb hr (fun t ht hW => ⟨⟨_, (), rfl, rfl, trivial⟩, hS.F ht⟩) hS.2.2 dL_invert_17
  · exact hw.elim

set_option maxHeartbeats 4000000 in
set_option maxRecDepth 100000 in
/-- c_L_series -/
theorem c_L_series (l : Launch) (hst : l.stackTraces = false) (dC : Nat → ClassId) (dI : Nat → Nat → Nat) (dE : Nat) (h0 : Nat) (a1 : Nat) (a2 : Nat) (w1 : Nat) (p1 : Nat) (o1 : Nat) (cA1 : ClassId) (cA2 : ClassId) (k1 : Int32) (k2 : Int32) (o0 : Nat) (sz : Nat) : Met l yL_series wsL_series ({ frames := 10, cells := 1, slots := 6, locals := 166 }) (va_Pc [.ref h0, .int k1, .int k2, .ref o0] (PB dC dI dE [(cA1, .object RX0), (cA2, .object RX1)] [(h0, .inr (9, [.int 7, .ref a1, .int 0, .ref a2, .int 0, .int 0, .ref w1, .ref p1, .ref o1])), (a1, .inl (cA1, 4, .inr (.inr (.inr (.inr (fun _ => none)))))), (a2, .inl (cA2, 10, .inr (.inr (.inr (.inr (fun _ => none))))))] sz)) (va_Qi (fun (r : Int32) (_ : Unit) => r = 1) (fun (_ : Unit) (_ : State) => True) (va_A [(h0, .inr (9, [.int 7, .ref a1, .int 0, .ref a2, .int 0, .int 0, .ref w1, .ref p1, .ref o1])), (a1, .inl (cA1, 4, .inr (.inr (.inr (.inr (fun _ => none)))))), (a2, .inl (cA2, 10, .inr (.inr (.inr (.inr (fun _ => none))))))] sz)) 1 6 (va_A [(h0, .inr (9, [.int 7, .ref a1, .int 0, .ref a2, .int 0, .int 0, .ref w1, .ref p1, .ref o1])), (a1, .inl (cA1, 4, .inr (.inr (.inr (.inr (fun _ => none)))))), (a2, .inl (cA2, 10, .inr (.inr (.inr (.inr (fun _ => none))))))] sz) := by
  refine va_MetW (cc := cL_series) (maxL := 5) (ret := (some .int)) (hh := [(0, 11, 14, 30), (0, 11, 18, 19), (0, 11, 22, 21)]) (by decide) rfl ?_
  intro p e s m args below meth c s₁ B hml hv
  obtain ⟨rfl, hsz, hP, hK, hD0, hTb, hZ⟩ := hv
  have hx := B.exec
  have hb := B.bytes
  have hr := B.returns
  have hts := atoms_spec (ws := wsL_series) B.pre
  have hown : s.vm.findClass RL = some m.cls := findClass_of_methodNamed B.named
  have hlocks := B.notSynchronized
  have hex := vx_table (x := yL_series) B (hts _ List.mem_cons_self)
  subst hsz
  have hD := hD0.self (sz := s.heap.size)
  generalize hAe : va_A [(h0, .inr (9, [.int 7, .ref a1, .int 0, .ref a2, .int 0, .int 0, .ref w1, .ref p1, .ref o1])), (a1, .inl (cA1, 4, .inr (.inr (.inr (.inr (fun _ => none)))))), (a2, .inl (cA2, 10, .inr (.inr (.inr (.inr (fun _ => none))))))] s.heap.size = A at hD hZ ⊢
  have hA : ∀ q : Nat, s.heap.size ≤ q → A q := fun q h => by rw [← hAe]; exact Or.inr h
  have hS : va_S A s.heap s.heap [] := va_S.rf
  have hP : va_P (dC, dI) vwCl [(h0, .inr (9, [.int 7, .ref a1, .int 0, .ref a2, .int 0, .int 0, .ref w1, .ref p1, .ref o1])), (a1, .inl (cA1, 4, .inr (.inr (.inr (.inr (fun _ => none)))))), (a2, .inl (cA2, 10, .inr (.inr (.inr (.inr (fun _ => none))))))] s.heap := hP
  have hl := lv_entry ([.ref h0, .int k1, .int k2, .ref o0]) (n := 5) (Nat.le_of_ble_eq_true rfl)
  rw [lg_entry_eq]
  generalize (lg_sl ([.ref h0, .int k1, .int k2, .ref o0]) ++ List.replicate (5 - (lg_sl ([.ref h0, .int k1, .int k2, .ref o0])).length) Slot.unset).toArray = ls at hl ⊢
  have hl : lv_has ls 5 [(0, .ref h0), (1, .int k1), (2, .int k2), (3, .ref o0)] := hl
  obtain ⟨H, eH⟩ : ∃ z, z = s.heap := ⟨_, rfl⟩
  rw [← eH] at hP ⊢
  have hS : va_S A s.heap H [] := by rw [eH]; exact va_S.rf
  refine lv_aload_n hx hb dL_series_0 rfl (lv_at hl 3 rfl) ?_
  refine lv_aload_n hx hb dL_series_1 rfl (lv_at hl 0 rfl) ?_
  refine lv_iload_n hx hb dL_series_2 rfl (lv_at hl 1 rfl) ?_
  refine lv_iload_n hx hb dL_series_3 rfl (lv_at hl 2 rfl) ?_
  have hPc := hP.sub (ws' := [(h0, .inr (9, [.int 7, .ref a1, .int 0, .ref a2, .int 0, .int 0, .ref w1, .ref p1, .ref o1])), (a1, .inl (cA1, 4, .inr (.inr (.inr (.inr (fun _ => none)))))), (a2, .inl (cA2, 10, .inr (.inr (.inr (.inr (fun _ => none))))))]) [0, 1, 2] rfl
  have hDc := hD.sub (ws' := [(h0, .inr (9, [.int 7, .ref a1, .int 0, .ref a2, .int 0, .int 0, .ref w1, .ref p1, .ref o1])), (a1, .inl (cA1, 4, .inr (.inr (.inr (.inr (fun _ => none)))))), (a2, .inl (cA2, 10, .inr (.inr (.inr (.inr (fun _ => none))))))]) [0, 1, 2] (by decide) rfl
  have hKc := hK.sub (tys' := [(cA1, .object RX0), (cA2, .object RX1)]) [0, 1] rfl
  have hFc := va_free (wc := [(h0, .inr (9, [.int 7, .ref a1, .int 0, .ref a2, .int 0, .int 0, .ref w1, .ref p1, .ref o1])), (a1, .inl (cA1, 4, .inr (.inr (.inr (.inr (fun _ => none)))))), (a2, .inl (cA2, 10, .inr (.inr (.inr (.inr (fun _ => none))))))]) hD hS hA [0, 1, 2] rfl
  refine vx_calli (vx_runV (As := [.int k1, .int k2]) (rest := [.ref o0]) ⟨hx, hb, hml, hown, hts⟩ (c_series l hst dC dI dE h0 a1 a2 w1 p1 o1 cA1 cA2 k1 k2 H.size) (cwV 2 hts gL_series_X6_series rfl rfl rfl (by decide +kernel) ⟨Nat.le_of_ble_eq_true rfl, Nat.le_of_ble_eq_true rfl⟩) ⟨fun a U g mk q => ⟨q.1, PB.blind q.2⟩, va_recv hKc hPc (ci := 9) (q0 := 0) rfl rfl, fun U hU hW => ⟨rfl, PB.call hPc hKc hDc hTb hZ hS hFc hU hW⟩⟩ rfl rfl hl.1 rfl (lv_room (Nat.le_of_ble_eq_true rfl)) dL_series_4 ⟨Nat.le_of_ble_eq_true rfl, Nat.le_of_ble_eq_true rfl⟩) hS (fun q _ h => hFc q h) hFc (fun q _ h => hFc q h) (fun E ce q9 u t H locs ht hvm hpx hBX hz1 hk1 hS hcell hv hcl => ?_) (fun r u t H locs ht hvm hw hB hz1 hk1 hS => ?_)
  · subst hBX
    refine vx_catch hown [] (⟨0, 11, 14, 30⟩ : ExceptionTableEntry) [⟨0, 11, 18, 19⟩, ⟨0, 11, 22, 21⟩] hex (fun z h => nomatch h) (by decide +kernel) (by decide +kernel) (name := "java/lang/IndexOutOfBoundsException") (hts (.classLink RL 30 "java/lang/IndexOutOfBoundsException") (by decide +kernel)) (va_Nw.use rfl (Tb_c1 hTb)) hcell hv hcl ?_
    refine W.eq (g2 := F0 m 14 ls [.ref q9]) rfl ?_
    have hP : va_P (dC, dI) vwCl [] H := fun k q h => by simp at h
    have hD : va_D A [] := ⟨fun i j p q h => by simp at h, fun k q h => by simp at h⟩
    have hK := hK.sub (tys' := []) [] rfl
    refine lv_astore (lv' := [(4, .ref q9), (0, .ref h0), (1, .int k1), (2, .int k2), (3, .ref o0)]) hx hb dL_series_14 hl (by decide) rfl (fun ls hl => ?_)
    refine lv_iconst (v := 1) hx hb dL_series_16 (by decide) ?_
    refine W.widen (k := 1) (n := 6) (Nat.le_of_ble_eq_true rfl) (Nat.le_of_ble_eq_true rfl) ?_
    exact W.iret (v := 1) hx hb hr (fun t ht hW => ⟨⟨_, (), rfl, rfl, trivial⟩, hS.F ht⟩) hS.2.2 dL_series_17
  · exact hw.elim

set_option maxHeartbeats 4000000 in
set_option maxRecDepth 100000 in
/-- c_L_killer -/
theorem c_L_killer (l : Launch) (hst : l.stackTraces = false) (dC : Nat → ClassId) (dI : Nat → Nat → Nat) (dE : Nat) (h0 : Nat) (a1 : Nat) (a2 : Nat) (w1 : Nat) (p1 : Nat) (o1 : Nat) (cA1 : ClassId) (cA2 : ClassId) (k1 : Int32) (k2 : Int32) (o0 : Nat) (sz : Nat) : Met l yL_killer wsL_killer ({ frames := 10, cells := 1, slots := 6, locals := 167 }) (va_Pc [.ref h0, .int k1, .int k2, .ref o0] (PB dC dI dE [(cA1, .object RX0), (cA2, .object RX1)] [(h0, .inr (9, [.int 7, .ref a1, .int 0, .ref a2, .int 0, .int 0, .ref w1, .ref p1, .ref o1])), (a1, .inl (cA1, 4, .inr (.inr (.inr (.inr (fun _ => none)))))), (a2, .inl (cA2, 10, .inr (.inr (.inr (.inr (fun _ => none))))))] sz)) (va_Qi (fun (r : Int32) (_ : Unit) => r = 1) (fun (_ : Unit) (_ : State) => True) (va_A [(h0, .inr (9, [.int 7, .ref a1, .int 0, .ref a2, .int 0, .int 0, .ref w1, .ref p1, .ref o1])), (a1, .inl (cA1, 4, .inr (.inr (.inr (.inr (fun _ => none)))))), (a2, .inl (cA2, 10, .inr (.inr (.inr (.inr (fun _ => none))))))] sz)) 1 6 (va_A [(h0, .inr (9, [.int 7, .ref a1, .int 0, .ref a2, .int 0, .int 0, .ref w1, .ref p1, .ref o1])), (a1, .inl (cA1, 4, .inr (.inr (.inr (.inr (fun _ => none)))))), (a2, .inl (cA2, 10, .inr (.inr (.inr (.inr (fun _ => none))))))] sz) := by
  refine va_MetW (cc := cL_killer) (maxL := 5) (ret := (some .int)) (hh := [(0, 11, 14, 30), (0, 11, 18, 19), (0, 11, 22, 21)]) (by decide) rfl ?_
  intro p e s m args below meth c s₁ B hml hv
  obtain ⟨rfl, hsz, hP, hK, hD0, hTb, hZ⟩ := hv
  have hx := B.exec
  have hb := B.bytes
  have hr := B.returns
  have hts := atoms_spec (ws := wsL_killer) B.pre
  have hown : s.vm.findClass RL = some m.cls := findClass_of_methodNamed B.named
  have hlocks := B.notSynchronized
  have hex := vx_table (x := yL_killer) B (hts _ List.mem_cons_self)
  subst hsz
  have hD := hD0.self (sz := s.heap.size)
  generalize hAe : va_A [(h0, .inr (9, [.int 7, .ref a1, .int 0, .ref a2, .int 0, .int 0, .ref w1, .ref p1, .ref o1])), (a1, .inl (cA1, 4, .inr (.inr (.inr (.inr (fun _ => none)))))), (a2, .inl (cA2, 10, .inr (.inr (.inr (.inr (fun _ => none))))))] s.heap.size = A at hD hZ ⊢
  have hA : ∀ q : Nat, s.heap.size ≤ q → A q := fun q h => by rw [← hAe]; exact Or.inr h
  have hS : va_S A s.heap s.heap [] := va_S.rf
  have hP : va_P (dC, dI) vwCl [(h0, .inr (9, [.int 7, .ref a1, .int 0, .ref a2, .int 0, .int 0, .ref w1, .ref p1, .ref o1])), (a1, .inl (cA1, 4, .inr (.inr (.inr (.inr (fun _ => none)))))), (a2, .inl (cA2, 10, .inr (.inr (.inr (.inr (fun _ => none))))))] s.heap := hP
  have hl := lv_entry ([.ref h0, .int k1, .int k2, .ref o0]) (n := 5) (Nat.le_of_ble_eq_true rfl)
  rw [lg_entry_eq]
  generalize (lg_sl ([.ref h0, .int k1, .int k2, .ref o0]) ++ List.replicate (5 - (lg_sl ([.ref h0, .int k1, .int k2, .ref o0])).length) Slot.unset).toArray = ls at hl ⊢
  have hl : lv_has ls 5 [(0, .ref h0), (1, .int k1), (2, .int k2), (3, .ref o0)] := hl
  obtain ⟨H, eH⟩ : ∃ z, z = s.heap := ⟨_, rfl⟩
  rw [← eH] at hP ⊢
  have hS : va_S A s.heap H [] := by rw [eH]; exact va_S.rf
  refine lv_aload_n hx hb dL_killer_0 rfl (lv_at hl 3 rfl) ?_
  refine lv_aload_n hx hb dL_killer_1 rfl (lv_at hl 0 rfl) ?_
  refine lv_iload_n hx hb dL_killer_2 rfl (lv_at hl 1 rfl) ?_
  refine lv_iload_n hx hb dL_killer_3 rfl (lv_at hl 2 rfl) ?_
  have hPc := hP.sub (ws' := [(h0, .inr (9, [.int 7, .ref a1, .int 0, .ref a2, .int 0, .int 0, .ref w1, .ref p1, .ref o1])), (a1, .inl (cA1, 4, .inr (.inr (.inr (.inr (fun _ => none)))))), (a2, .inl (cA2, 10, .inr (.inr (.inr (.inr (fun _ => none))))))]) [0, 1, 2] rfl
  have hDc := hD.sub (ws' := [(h0, .inr (9, [.int 7, .ref a1, .int 0, .ref a2, .int 0, .int 0, .ref w1, .ref p1, .ref o1])), (a1, .inl (cA1, 4, .inr (.inr (.inr (.inr (fun _ => none)))))), (a2, .inl (cA2, 10, .inr (.inr (.inr (.inr (fun _ => none))))))]) [0, 1, 2] (by decide) rfl
  have hKc := hK.sub (tys' := [(cA1, .object RX0), (cA2, .object RX1)]) [0, 1] rfl
  have hFc := va_free (wc := [(h0, .inr (9, [.int 7, .ref a1, .int 0, .ref a2, .int 0, .int 0, .ref w1, .ref p1, .ref o1])), (a1, .inl (cA1, 4, .inr (.inr (.inr (.inr (fun _ => none)))))), (a2, .inl (cA2, 10, .inr (.inr (.inr (.inr (fun _ => none))))))]) hD hS hA [0, 1, 2] rfl
  refine vx_calli (vx_runV (As := [.int k1, .int k2]) (rest := [.ref o0]) ⟨hx, hb, hml, hown, hts⟩ (c_killer l hst dC dI dE h0 a1 a2 w1 p1 o1 cA1 cA2 k1 k2 H.size) (cwV 2 hts gL_killer_X6_killer rfl rfl rfl (by decide +kernel) ⟨Nat.le_of_ble_eq_true rfl, Nat.le_of_ble_eq_true rfl⟩) ⟨fun a U g mk q => ⟨q.1, PB.blind q.2⟩, va_recv hKc hPc (ci := 9) (q0 := 0) rfl rfl, fun U hU hW => ⟨rfl, PB.call hPc hKc hDc hTb hZ hS hFc hU hW⟩⟩ rfl rfl hl.1 rfl (lv_room (Nat.le_of_ble_eq_true rfl)) dL_killer_4 ⟨Nat.le_of_ble_eq_true rfl, Nat.le_of_ble_eq_true rfl⟩) hS (fun q _ h => hFc q h) hFc (fun q _ h => hFc q h) (fun E ce q9 u t H locs ht hvm hpx hBX hz1 hk1 hS hcell hv hcl => ?_) (fun r u t H locs ht hvm hw hB hz1 hk1 hS => ?_)
  · subst hBX
    refine vx_catch hown [] (⟨0, 11, 14, 30⟩ : ExceptionTableEntry) [⟨0, 11, 18, 19⟩, ⟨0, 11, 22, 21⟩] hex (fun z h => nomatch h) (by decide +kernel) (by decide +kernel) (name := "java/lang/IndexOutOfBoundsException") (hts (.classLink RL 30 "java/lang/IndexOutOfBoundsException") (by decide +kernel)) (va_Nw.use rfl (Tb_c1 hTb)) hcell hv hcl ?_
    refine W.eq (g2 := F0 m 14 ls [.ref q9]) rfl ?_
    have hP : va_P (dC, dI) vwCl [] H := fun k q h => by simp at h
    have hD : va_D A [] := ⟨fun i j p q h => by simp at h, fun k q h => by simp at h⟩
    have hK := hK.sub (tys' := []) [] rfl
    refine lv_astore (lv' := [(4, .ref q9), (0, .ref h0), (1, .int k1), (2, .int k2), (3, .ref o0)]) hx hb dL_killer_14 hl (by decide) rfl (fun ls hl => ?_)
    refine lv_iconst (v := 1) hx hb dL_killer_16 (by decide) ?_
    refine W.widen (k := 1) (n := 6) (Nat.le_of_ble_eq_true rfl) (Nat.le_of_ble_eq_true rfl) ?_
    exact W.iret (v := 1) hx hb hr (fun t ht hW => ⟨⟨_, (), rfl, rfl, trivial⟩, hS.F ht⟩) hS.2.2 dL_killer_17
  · exact hw.elim

set_option maxHeartbeats 4000000 in
set_option maxRecDepth 100000 in
/-- c_L_hang -/
theorem c_L_hang (l : Launch) (hst : l.stackTraces = false) (dC : Nat → ClassId) (dI : Nat → Nat → Nat) (dE : Nat) (h0 : Nat) (a1 : Nat) (a2 : Nat) (w1 : Nat) (p1 : Nat) (o1 : Nat) (cA1 : ClassId) (cA2 : ClassId) (k1 : Int32) (o0 : Nat) (sz : Nat) : Met l yL_hang wsL_hang ({ frames := 10, cells := 1, slots := 6, locals := 165 }) (va_Pc [.ref h0, .int k1, .ref o0] (PB dC dI dE [(cA1, .object RX0), (cA2, .object RX1)] [(h0, .inr (9, [.int 7, .ref a1, .int 0, .ref a2, .int 0, .int 0, .ref w1, .ref p1, .ref o1])), (a1, .inl (cA1, 4, .inr (.inr (.inr (.inr (fun _ => none)))))), (a2, .inl (cA2, 10, .inr (.inr (.inr (.inr (fun _ => none))))))] sz)) (va_Qi (fun (r : Int32) (_ : Unit) => r = 1) (fun (_ : Unit) (_ : State) => True) (va_A [(h0, .inr (9, [.int 7, .ref a1, .int 0, .ref a2, .int 0, .int 0, .ref w1, .ref p1, .ref o1])), (a1, .inl (cA1, 4, .inr (.inr (.inr (.inr (fun _ => none)))))), (a2, .inl (cA2, 10, .inr (.inr (.inr (.inr (fun _ => none))))))] sz)) 1 6 (va_A [(h0, .inr (9, [.int 7, .ref a1, .int 0, .ref a2, .int 0, .int 0, .ref w1, .ref p1, .ref o1])), (a1, .inl (cA1, 4, .inr (.inr (.inr (.inr (fun _ => none)))))), (a2, .inl (cA2, 10, .inr (.inr (.inr (.inr (fun _ => none))))))] sz) := by
  refine va_MetW (cc := cL_hang) (maxL := 4) (ret := (some .int)) (hh := [(0, 10, 13, 30), (0, 10, 16, 21)]) (by decide) rfl ?_
  intro p e s m args below meth c s₁ B hml hv
  obtain ⟨rfl, hsz, hP, hK, hD0, hTb, hZ⟩ := hv
  have hx := B.exec
  have hb := B.bytes
  have hr := B.returns
  have hts := atoms_spec (ws := wsL_hang) B.pre
  have hown : s.vm.findClass RL = some m.cls := findClass_of_methodNamed B.named
  have hlocks := B.notSynchronized
  have hex := vx_table (x := yL_hang) B (hts _ List.mem_cons_self)
  subst hsz
  have hD := hD0.self (sz := s.heap.size)
  generalize hAe : va_A [(h0, .inr (9, [.int 7, .ref a1, .int 0, .ref a2, .int 0, .int 0, .ref w1, .ref p1, .ref o1])), (a1, .inl (cA1, 4, .inr (.inr (.inr (.inr (fun _ => none)))))), (a2, .inl (cA2, 10, .inr (.inr (.inr (.inr (fun _ => none))))))] s.heap.size = A at hD hZ ⊢
  have hA : ∀ q : Nat, s.heap.size ≤ q → A q := fun q h => by rw [← hAe]; exact Or.inr h
  have hS : va_S A s.heap s.heap [] := va_S.rf
  have hP : va_P (dC, dI) vwCl [(h0, .inr (9, [.int 7, .ref a1, .int 0, .ref a2, .int 0, .int 0, .ref w1, .ref p1, .ref o1])), (a1, .inl (cA1, 4, .inr (.inr (.inr (.inr (fun _ => none)))))), (a2, .inl (cA2, 10, .inr (.inr (.inr (.inr (fun _ => none))))))] s.heap := hP
  have hl := lv_entry ([.ref h0, .int k1, .ref o0]) (n := 4) (Nat.le_of_ble_eq_true rfl)
  rw [lg_entry_eq]
  generalize (lg_sl ([.ref h0, .int k1, .ref o0]) ++ List.replicate (4 - (lg_sl ([.ref h0, .int k1, .ref o0])).length) Slot.unset).toArray = ls at hl ⊢
  have hl : lv_has ls 4 [(0, .ref h0), (1, .int k1), (2, .ref o0)] := hl
  obtain ⟨H, eH⟩ : ∃ z, z = s.heap := ⟨_, rfl⟩
  rw [← eH] at hP ⊢
  have hS : va_S A s.heap H [] := by rw [eH]; exact va_S.rf
  refine lv_aload_n hx hb dL_hang_0 rfl (lv_at hl 2 rfl) ?_
  refine lv_aload_n hx hb dL_hang_1 rfl (lv_at hl 0 rfl) ?_
  refine lv_iload_n hx hb dL_hang_2 rfl (lv_at hl 1 rfl) ?_
  have hPc := hP.sub (ws' := [(h0, .inr (9, [.int 7, .ref a1, .int 0, .ref a2, .int 0, .int 0, .ref w1, .ref p1, .ref o1])), (a1, .inl (cA1, 4, .inr (.inr (.inr (.inr (fun _ => none)))))), (a2, .inl (cA2, 10, .inr (.inr (.inr (.inr (fun _ => none))))))]) [0, 1, 2] rfl
  have hDc := hD.sub (ws' := [(h0, .inr (9, [.int 7, .ref a1, .int 0, .ref a2, .int 0, .int 0, .ref w1, .ref p1, .ref o1])), (a1, .inl (cA1, 4, .inr (.inr (.inr (.inr (fun _ => none)))))), (a2, .inl (cA2, 10, .inr (.inr (.inr (.inr (fun _ => none))))))]) [0, 1, 2] (by decide) rfl
  have hKc := hK.sub (tys' := [(cA1, .object RX0), (cA2, .object RX1)]) [0, 1] rfl
  have hFc := va_free (wc := [(h0, .inr (9, [.int 7, .ref a1, .int 0, .ref a2, .int 0, .int 0, .ref w1, .ref p1, .ref o1])), (a1, .inl (cA1, 4, .inr (.inr (.inr (.inr (fun _ => none)))))), (a2, .inl (cA2, 10, .inr (.inr (.inr (.inr (fun _ => none))))))]) hD hS hA [0, 1, 2] rfl
  refine vx_calli (vx_runV (As := [.int k1]) (rest := [.ref o0]) ⟨hx, hb, hml, hown, hts⟩ (c_hang l hst dC dI dE h0 a1 a2 w1 p1 o1 cA1 cA2 k1 H.size) (cwV 1 hts gL_hang_X6_hang rfl rfl rfl (by decide +kernel) ⟨Nat.le_of_ble_eq_true rfl, Nat.le_of_ble_eq_true rfl⟩) ⟨fun a U g mk q => ⟨q.1, PB.blind q.2⟩, va_recv hKc hPc (ci := 9) (q0 := 0) rfl rfl, fun U hU hW => ⟨rfl, PB.call hPc hKc hDc hTb hZ hS hFc hU hW⟩⟩ rfl rfl hl.1 rfl (lv_room (Nat.le_of_ble_eq_true rfl)) dL_hang_3 ⟨Nat.le_of_ble_eq_true rfl, Nat.le_of_ble_eq_true rfl⟩) hS (fun q _ h => hFc q h) hFc (fun q _ h => hFc q h) (fun E ce q9 u t H locs ht hvm hpx hBX hz1 hk1 hS hcell hv hcl => ?_) (fun r u t H locs ht hvm hw hB hz1 hk1 hS => ?_)
  · subst hBX
    refine vx_catch hown [] (⟨0, 10, 13, 30⟩ : ExceptionTableEntry) [⟨0, 10, 16, 21⟩] hex (fun z h => nomatch h) (by decide +kernel) (by decide +kernel) (name := "java/lang/IndexOutOfBoundsException") (hts (.classLink RL 30 "java/lang/IndexOutOfBoundsException") (by decide +kernel)) (va_Nw.use rfl (Tb_c1 hTb)) hcell hv hcl ?_
    refine W.eq (g2 := F0 m 13 ls [.ref q9]) rfl ?_
    have hP : va_P (dC, dI) vwCl [] H := fun k q h => by simp at h
    have hD : va_D A [] := ⟨fun i j p q h => by simp at h, fun k q h => by simp at h⟩
    have hK := hK.sub (tys' := []) [] rfl
    refine lv_astore_n (lv' := [(3, .ref q9), (0, .ref h0), (1, .int k1), (2, .ref o0)]) hx hb dL_hang_13 rfl hl (by decide) rfl (fun ls hl => ?_)
    refine lv_iconst (v := 1) hx hb dL_hang_14 (by decide) ?_
    refine W.widen (k := 1) (n := 6) (Nat.le_of_ble_eq_true rfl) (Nat.le_of_ble_eq_true rfl) ?_
    exact W.iret (v := 1) hx hb hr (fun t ht hW => ⟨⟨_, (), rfl, rfl, trivial⟩, hS.F ht⟩) hS.2.2 dL_hang_15
  · exact hw.elim

set_option maxHeartbeats 4000000 in
set_option maxRecDepth 100000 in
/-- c_L_clear -/
theorem c_L_clear (l : Launch) (hst : l.stackTraces = false) (dC : Nat → ClassId) (dI : Nat → Nat → Nat) (dE : Nat) (h0 : Nat) (a1 : Nat) (a2 : Nat) (w1 : Nat) (p1 : Nat) (o1 : Nat) (cA1 : ClassId) (cA2 : ClassId) (k1 : Int32) (o0 : Nat) (sz : Nat) : Met l yL_clear wsL_clear ({ frames := 10, cells := 1, slots := 6, locals := 165 }) (va_Pc [.ref h0, .int k1, .ref o0] (PB dC dI dE [(cA1, .object RX0), (cA2, .object RX1)] [(h0, .inr (9, [.int 7, .ref a1, .int 0, .ref a2, .int 0, .int 0, .ref w1, .ref p1, .ref o1])), (a1, .inl (cA1, 4, .inr (.inr (.inr (.inr (fun _ => none)))))), (a2, .inl (cA2, 10, .inr (.inr (.inr (.inr (fun _ => none))))))] sz)) (va_Qi (fun (r : Int32) (_ : Unit) => r = 1) (fun (_ : Unit) (_ : State) => True) (va_A [(h0, .inr (9, [.int 7, .ref a1, .int 0, .ref a2, .int 0, .int 0, .ref w1, .ref p1, .ref o1])), (a1, .inl (cA1, 4, .inr (.inr (.inr (.inr (fun _ => none)))))), (a2, .inl (cA2, 10, .inr (.inr (.inr (.inr (fun _ => none))))))] sz)) 1 6 (va_A [(h0, .inr (9, [.int 7, .ref a1, .int 0, .ref a2, .int 0, .int 0, .ref w1, .ref p1, .ref o1])), (a1, .inl (cA1, 4, .inr (.inr (.inr (.inr (fun _ => none)))))), (a2, .inl (cA2, 10, .inr (.inr (.inr (.inr (fun _ => none))))))] sz) := by
  refine va_MetW (cc := cL_clear) (maxL := 4) (ret := (some .int)) (hh := [(0, 10, 13, 30)]) (by decide) rfl ?_
  intro p e s m args below meth c s₁ B hml hv
  obtain ⟨rfl, hsz, hP, hK, hD0, hTb, hZ⟩ := hv
  have hx := B.exec
  have hb := B.bytes
  have hr := B.returns
  have hts := atoms_spec (ws := wsL_clear) B.pre
  have hown : s.vm.findClass RL = some m.cls := findClass_of_methodNamed B.named
  have hlocks := B.notSynchronized
  have hex := vx_table (x := yL_clear) B (hts _ List.mem_cons_self)
  subst hsz
  have hD := hD0.self (sz := s.heap.size)
  generalize hAe : va_A [(h0, .inr (9, [.int 7, .ref a1, .int 0, .ref a2, .int 0, .int 0, .ref w1, .ref p1, .ref o1])), (a1, .inl (cA1, 4, .inr (.inr (.inr (.inr (fun _ => none)))))), (a2, .inl (cA2, 10, .inr (.inr (.inr (.inr (fun _ => none))))))] s.heap.size = A at hD hZ ⊢
  have hA : ∀ q : Nat, s.heap.size ≤ q → A q := fun q h => by rw [← hAe]; exact Or.inr h
  have hS : va_S A s.heap s.heap [] := va_S.rf
  have hP : va_P (dC, dI) vwCl [(h0, .inr (9, [.int 7, .ref a1, .int 0, .ref a2, .int 0, .int 0, .ref w1, .ref p1, .ref o1])), (a1, .inl (cA1, 4, .inr (.inr (.inr (.inr (fun _ => none)))))), (a2, .inl (cA2, 10, .inr (.inr (.inr (.inr (fun _ => none))))))] s.heap := hP
  have hl := lv_entry ([.ref h0, .int k1, .ref o0]) (n := 4) (Nat.le_of_ble_eq_true rfl)
  rw [lg_entry_eq]
  generalize (lg_sl ([.ref h0, .int k1, .ref o0]) ++ List.replicate (4 - (lg_sl ([.ref h0, .int k1, .ref o0])).length) Slot.unset).toArray = ls at hl ⊢
  have hl : lv_has ls 4 [(0, .ref h0), (1, .int k1), (2, .ref o0)] := hl
  obtain ⟨H, eH⟩ : ∃ z, z = s.heap := ⟨_, rfl⟩
  rw [← eH] at hP ⊢
  have hS : va_S A s.heap H [] := by rw [eH]; exact va_S.rf
  refine lv_aload_n hx hb dL_clear_0 rfl (lv_at hl 2 rfl) ?_
  refine lv_aload_n hx hb dL_clear_1 rfl (lv_at hl 0 rfl) ?_
  refine lv_iload_n hx hb dL_clear_2 rfl (lv_at hl 1 rfl) ?_
  have hPc := hP.sub (ws' := [(h0, .inr (9, [.int 7, .ref a1, .int 0, .ref a2, .int 0, .int 0, .ref w1, .ref p1, .ref o1])), (a1, .inl (cA1, 4, .inr (.inr (.inr (.inr (fun _ => none)))))), (a2, .inl (cA2, 10, .inr (.inr (.inr (.inr (fun _ => none))))))]) [0, 1, 2] rfl
  have hDc := hD.sub (ws' := [(h0, .inr (9, [.int 7, .ref a1, .int 0, .ref a2, .int 0, .int 0, .ref w1, .ref p1, .ref o1])), (a1, .inl (cA1, 4, .inr (.inr (.inr (.inr (fun _ => none)))))), (a2, .inl (cA2, 10, .inr (.inr (.inr (.inr (fun _ => none))))))]) [0, 1, 2] (by decide) rfl
  have hKc := hK.sub (tys' := [(cA1, .object RX0), (cA2, .object RX1)]) [0, 1] rfl
  have hFc := va_free (wc := [(h0, .inr (9, [.int 7, .ref a1, .int 0, .ref a2, .int 0, .int 0, .ref w1, .ref p1, .ref o1])), (a1, .inl (cA1, 4, .inr (.inr (.inr (.inr (fun _ => none)))))), (a2, .inl (cA2, 10, .inr (.inr (.inr (.inr (fun _ => none))))))]) hD hS hA [0, 1, 2] rfl
  refine vx_calli (vx_runV (As := [.int k1]) (rest := [.ref o0]) ⟨hx, hb, hml, hown, hts⟩ (c_clear l hst dC dI dE h0 a1 a2 w1 p1 o1 cA1 cA2 k1 H.size) (cwV 1 hts gL_clear_X6_clear rfl rfl rfl (by decide +kernel) ⟨Nat.le_of_ble_eq_true rfl, Nat.le_of_ble_eq_true rfl⟩) ⟨fun a U g mk q => ⟨q.1, PB.blind q.2⟩, va_recv hKc hPc (ci := 9) (q0 := 0) rfl rfl, fun U hU hW => ⟨rfl, PB.call hPc hKc hDc hTb hZ hS hFc hU hW⟩⟩ rfl rfl hl.1 rfl (lv_room (Nat.le_of_ble_eq_true rfl)) dL_clear_3 ⟨Nat.le_of_ble_eq_true rfl, Nat.le_of_ble_eq_true rfl⟩) hS (fun q _ h => hFc q h) hFc (fun q _ h => hFc q h) (fun E ce q9 u t H locs ht hvm hpx hBX hz1 hk1 hS hcell hv hcl => ?_) (fun r u t H locs ht hvm hw hB hz1 hk1 hS => ?_)
  · subst hBX
    refine vx_catch hown [] (⟨0, 10, 13, 30⟩ : ExceptionTableEntry) [] hex (fun z h => nomatch h) (by decide +kernel) (by decide +kernel) (name := "java/lang/IndexOutOfBoundsException") (hts (.classLink RL 30 "java/lang/IndexOutOfBoundsException") (by decide +kernel)) (va_Nw.use rfl (Tb_c1 hTb)) hcell hv hcl ?_
    refine W.eq (g2 := F0 m 13 ls [.ref q9]) rfl ?_
    have hP : va_P (dC, dI) vwCl [] H := fun k q h => by simp at h
    have hD : va_D A [] := ⟨fun i j p q h => by simp at h, fun k q h => by simp at h⟩
    have hK := hK.sub (tys' := []) [] rfl
    refine lv_astore_n (lv' := [(3, .ref q9), (0, .ref h0), (1, .int k1), (2, .ref o0)]) hx hb dL_clear_13 rfl hl (by decide) rfl (fun ls hl => ?_)
    refine lv_iconst (v := 1) hx hb dL_clear_14 (by decide) ?_
    refine W.widen (k := 1) (n := 6) (Nat.le_of_ble_eq_true rfl) (Nat.le_of_ble_eq_true rfl) ?_
    exact W.iret (v := 1) hx hb hr (fun t ht hW => ⟨⟨_, (), rfl, rfl, trivial⟩, hS.F ht⟩) hS.2.2 dL_clear_15
  · exact hw.elim

set_option maxHeartbeats 4000000 in
set_option maxRecDepth 100000 in
/-- c_L_mirror -/
theorem c_L_mirror (l : Launch) (hst : l.stackTraces = false) (dC : Nat → ClassId) (dI : Nat → Nat → Nat) (dE : Nat) (h0 : Nat) (a1 : Nat) (a2 : Nat) (w1 : Nat) (p1 : Nat) (o1 : Nat) (cA1 : ClassId) (cA2 : ClassId) (k1 : Int32) (k2 : Int32) (k3 : Int32) (o0 : Nat) (sz : Nat) : Met l yL_mirror wsL_mirror ({ frames := 10, cells := 1, slots := 6, locals := 168 }) (va_Pc [.ref h0, .int k1, .int k2, .int k3, .ref o0] (PB dC dI dE [(cA1, .object RX0), (cA2, .object RX1)] [(h0, .inr (9, [.int 7, .ref a1, .int 0, .ref a2, .int 0, .int 0, .ref w1, .ref p1, .ref o1])), (a1, .inl (cA1, 4, .inr (.inr (.inr (.inr (fun _ => none)))))), (a2, .inl (cA2, 10, .inr (.inr (.inr (.inr (fun _ => none))))))] sz)) (va_Qi (fun (r : Int32) (_ : Unit) => r = 1) (fun (_ : Unit) (_ : State) => True) (va_A [(h0, .inr (9, [.int 7, .ref a1, .int 0, .ref a2, .int 0, .int 0, .ref w1, .ref p1, .ref o1])), (a1, .inl (cA1, 4, .inr (.inr (.inr (.inr (fun _ => none)))))), (a2, .inl (cA2, 10, .inr (.inr (.inr (.inr (fun _ => none))))))] sz)) 1 6 (va_A [(h0, .inr (9, [.int 7, .ref a1, .int 0, .ref a2, .int 0, .int 0, .ref w1, .ref p1, .ref o1])), (a1, .inl (cA1, 4, .inr (.inr (.inr (.inr (fun _ => none)))))), (a2, .inl (cA2, 10, .inr (.inr (.inr (.inr (fun _ => none))))))] sz) := by
  refine va_MetW (cc := cL_mirror) (maxL := 6) (ret := (some .int)) (hh := [(0, 13, 16, 30), (0, 13, 20, 19), (0, 13, 24, 21)]) (by decide) rfl ?_
  intro p e s m args below meth c s₁ B hml hv
  obtain ⟨rfl, hsz, hP, hK, hD0, hTb, hZ⟩ := hv
  have hx := B.exec
  have hb := B.bytes
  have hr := B.returns
  have hts := atoms_spec (ws := wsL_mirror) B.pre
  have hown : s.vm.findClass RL = some m.cls := findClass_of_methodNamed B.named
  have hlocks := B.notSynchronized
  have hex := vx_table (x := yL_mirror) B (hts _ List.mem_cons_self)
  subst hsz
  have hD := hD0.self (sz := s.heap.size)
  generalize hAe : va_A [(h0, .inr (9, [.int 7, .ref a1, .int 0, .ref a2, .int 0, .int 0, .ref w1, .ref p1, .ref o1])), (a1, .inl (cA1, 4, .inr (.inr (.inr (.inr (fun _ => none)))))), (a2, .inl (cA2, 10, .inr (.inr (.inr (.inr (fun _ => none))))))] s.heap.size = A at hD hZ ⊢
  have hA : ∀ q : Nat, s.heap.size ≤ q → A q := fun q h => by rw [← hAe]; exact Or.inr h
  have hS : va_S A s.heap s.heap [] := va_S.rf
  have hP : va_P (dC, dI) vwCl [(h0, .inr (9, [.int 7, .ref a1, .int 0, .ref a2, .int 0, .int 0, .ref w1, .ref p1, .ref o1])), (a1, .inl (cA1, 4, .inr (.inr (.inr (.inr (fun _ => none)))))), (a2, .inl (cA2, 10, .inr (.inr (.inr (.inr (fun _ => none))))))] s.heap := hP
  have hl := lv_entry ([.ref h0, .int k1, .int k2, .int k3, .ref o0]) (n := 6) (Nat.le_of_ble_eq_true rfl)
  rw [lg_entry_eq]
  generalize (lg_sl ([.ref h0, .int k1, .int k2, .int k3, .ref o0]) ++ List.replicate (6 - (lg_sl ([.ref h0, .int k1, .int k2, .int k3, .ref o0])).length) Slot.unset).toArray = ls at hl ⊢
  have hl : lv_has ls 6 [(0, .ref h0), (1, .int k1), (2, .int k2), (3, .int k3), (4, .ref o0)] := hl
  obtain ⟨H, eH⟩ : ∃ z, z = s.heap := ⟨_, rfl⟩
  rw [← eH] at hP ⊢
  have hS : va_S A s.heap H [] := by rw [eH]; exact va_S.rf
  refine lv_aload hx hb dL_mirror_0 (lv_at hl 4 rfl) ?_
  refine lv_aload_n hx hb dL_mirror_2 rfl (lv_at hl 0 rfl) ?_
  refine lv_iload_n hx hb dL_mirror_3 rfl (lv_at hl 1 rfl) ?_
  refine lv_iload_n hx hb dL_mirror_4 rfl (lv_at hl 2 rfl) ?_
  refine lv_iload_n hx hb dL_mirror_5 rfl (lv_at hl 3 rfl) ?_
  have hPc := hP.sub (ws' := [(h0, .inr (9, [.int 7, .ref a1, .int 0, .ref a2, .int 0, .int 0, .ref w1, .ref p1, .ref o1])), (a1, .inl (cA1, 4, .inr (.inr (.inr (.inr (fun _ => none)))))), (a2, .inl (cA2, 10, .inr (.inr (.inr (.inr (fun _ => none))))))]) [0, 1, 2] rfl
  have hDc := hD.sub (ws' := [(h0, .inr (9, [.int 7, .ref a1, .int 0, .ref a2, .int 0, .int 0, .ref w1, .ref p1, .ref o1])), (a1, .inl (cA1, 4, .inr (.inr (.inr (.inr (fun _ => none)))))), (a2, .inl (cA2, 10, .inr (.inr (.inr (.inr (fun _ => none))))))]) [0, 1, 2] (by decide) rfl
  have hKc := hK.sub (tys' := [(cA1, .object RX0), (cA2, .object RX1)]) [0, 1] rfl
  have hFc := va_free (wc := [(h0, .inr (9, [.int 7, .ref a1, .int 0, .ref a2, .int 0, .int 0, .ref w1, .ref p1, .ref o1])), (a1, .inl (cA1, 4, .inr (.inr (.inr (.inr (fun _ => none)))))), (a2, .inl (cA2, 10, .inr (.inr (.inr (.inr (fun _ => none))))))]) hD hS hA [0, 1, 2] rfl
  refine vx_calli (vx_runV (As := [.int k1, .int k2, .int k3]) (rest := [.ref o0]) ⟨hx, hb, hml, hown, hts⟩ (c_mirror l hst dC dI dE h0 a1 a2 w1 p1 o1 cA1 cA2 k1 k2 k3 H.size) (cwV 3 hts gL_mirror_X6_mirror rfl rfl rfl (by decide +kernel) ⟨Nat.le_of_ble_eq_true rfl, Nat.le_of_ble_eq_true rfl⟩) ⟨fun a U g mk q => ⟨q.1, PB.blind q.2⟩, va_recv hKc hPc (ci := 9) (q0 := 0) rfl rfl, fun U hU hW => ⟨rfl, PB.call hPc hKc hDc hTb hZ hS hFc hU hW⟩⟩ rfl rfl hl.1 rfl (lv_room (Nat.le_of_ble_eq_true rfl)) dL_mirror_6 ⟨Nat.le_of_ble_eq_true rfl, Nat.le_of_ble_eq_true rfl⟩) hS (fun q _ h => hFc q h) hFc (fun q _ h => hFc q h) (fun E ce q9 u t H locs ht hvm hpx hBX hz1 hk1 hS hcell hv hcl => ?_) (fun r u t H locs ht hvm hw hB hz1 hk1 hS => ?_)
  · subst hBX
    refine vx_catch hown [] (⟨0, 13, 16, 30⟩ : ExceptionTableEntry) [⟨0, 13, 20, 19⟩, ⟨0, 13, 24, 21⟩] hex (fun z h => nomatch h) (by decide +kernel) (by decide +kernel) (name := "java/lang/IndexOutOfBoundsException") (hts (.classLink RL 30 "java/lang/IndexOutOfBoundsException") (by decide +kernel)) (va_Nw.use rfl (Tb_c1 hTb)) hcell hv hcl ?_
    refine W.eq (g2 := F0 m 16 ls [.ref q9]) rfl ?_
    have hP : va_P (dC, dI) vwCl [] H := fun k q h => by simp at h
    have hD : va_D A [] := ⟨fun i j p q h => by simp at h, fun k q h => by simp at h⟩
    have hK := hK.sub (tys' := []) [] rfl
    refine lv_astore (lv' := [(5, .ref q9), (0, .ref h0), (1, .int k1), (2, .int k2), (3, .int k3), (4, .ref o0)]) hx hb dL_mirror_16 hl (by decide) rfl (fun ls hl => ?_)
    refine lv_iconst (v := 1) hx hb dL_mirror_18 (by decide) ?_
    refine W.widen (k := 1) (n := 6) (Nat.le_of_ble_eq_true rfl) (Nat.le_of_ble_eq_true rfl) ?_
    exact W.iret (v := 1) hx hb hr (fun t ht hW => ⟨⟨_, (), rfl, rfl, trivial⟩, hS.F ht⟩) hS.2.2 dL_mirror_19
  · exact hw.elim

set_option maxHeartbeats 4000000 in
set_option maxRecDepth 100000 in
/-- c_L_turn -/
theorem c_L_turn (l : Launch) (hst : l.stackTraces = false) (dC : Nat → ClassId) (dI : Nat → Nat → Nat) (dE : Nat) (h0 : Nat) (a1 : Nat) (a2 : Nat) (w1 : Nat) (p1 : Nat) (o1 : Nat) (cA1 : ClassId) (cA2 : ClassId) (k1 : Int32) (k2 : Int32) (o0 : Nat) (sz : Nat) : Met l yL_turn wsL_turn ({ frames := 10, cells := 1, slots := 6, locals := 166 }) (va_Pc [.ref h0, .int k1, .int k2, .ref o0] (PB dC dI dE [(cA1, .object RX0), (cA2, .object RX1)] [(h0, .inr (9, [.int 7, .ref a1, .int 0, .ref a2, .int 0, .int 0, .ref w1, .ref p1, .ref o1])), (a1, .inl (cA1, 4, .inr (.inr (.inr (.inr (fun _ => none)))))), (a2, .inl (cA2, 10, .inr (.inr (.inr (.inr (fun _ => none))))))] sz)) (va_Qi (fun (r : Int32) (_ : Unit) => r = 1) (fun (_ : Unit) (_ : State) => True) (va_A [(h0, .inr (9, [.int 7, .ref a1, .int 0, .ref a2, .int 0, .int 0, .ref w1, .ref p1, .ref o1])), (a1, .inl (cA1, 4, .inr (.inr (.inr (.inr (fun _ => none)))))), (a2, .inl (cA2, 10, .inr (.inr (.inr (.inr (fun _ => none))))))] sz)) 1 6 (va_A [(h0, .inr (9, [.int 7, .ref a1, .int 0, .ref a2, .int 0, .int 0, .ref w1, .ref p1, .ref o1])), (a1, .inl (cA1, 4, .inr (.inr (.inr (.inr (fun _ => none)))))), (a2, .inl (cA2, 10, .inr (.inr (.inr (.inr (fun _ => none))))))] sz) := by
  refine va_MetW (cc := cL_turn) (maxL := 5) (ret := (some .int)) (hh := [(0, 11, 14, 30), (0, 11, 18, 19), (0, 11, 22, 21)]) (by decide) rfl ?_
  intro p e s m args below meth c s₁ B hml hv
  obtain ⟨rfl, hsz, hP, hK, hD0, hTb, hZ⟩ := hv
  have hx := B.exec
  have hb := B.bytes
  have hr := B.returns
  have hts := atoms_spec (ws := wsL_turn) B.pre
  have hown : s.vm.findClass RL = some m.cls := findClass_of_methodNamed B.named
  have hlocks := B.notSynchronized
  have hex := vx_table (x := yL_turn) B (hts _ List.mem_cons_self)
  subst hsz
  have hD := hD0.self (sz := s.heap.size)
  generalize hAe : va_A [(h0, .inr (9, [.int 7, .ref a1, .int 0, .ref a2, .int 0, .int 0, .ref w1, .ref p1, .ref o1])), (a1, .inl (cA1, 4, .inr (.inr (.inr (.inr (fun _ => none)))))), (a2, .inl (cA2, 10, .inr (.inr (.inr (.inr (fun _ => none))))))] s.heap.size = A at hD hZ ⊢
  have hA : ∀ q : Nat, s.heap.size ≤ q → A q := fun q h => by rw [← hAe]; exact Or.inr h
  have hS : va_S A s.heap s.heap [] := va_S.rf
  have hP : va_P (dC, dI) vwCl [(h0, .inr (9, [.int 7, .ref a1, .int 0, .ref a2, .int 0, .int 0, .ref w1, .ref p1, .ref o1])), (a1, .inl (cA1, 4, .inr (.inr (.inr (.inr (fun _ => none)))))), (a2, .inl (cA2, 10, .inr (.inr (.inr (.inr (fun _ => none))))))] s.heap := hP
  have hl := lv_entry ([.ref h0, .int k1, .int k2, .ref o0]) (n := 5) (Nat.le_of_ble_eq_true rfl)
  rw [lg_entry_eq]
  generalize (lg_sl ([.ref h0, .int k1, .int k2, .ref o0]) ++ List.replicate (5 - (lg_sl ([.ref h0, .int k1, .int k2, .ref o0])).length) Slot.unset).toArray = ls at hl ⊢
  have hl : lv_has ls 5 [(0, .ref h0), (1, .int k1), (2, .int k2), (3, .ref o0)] := hl
  obtain ⟨H, eH⟩ : ∃ z, z = s.heap := ⟨_, rfl⟩
  rw [← eH] at hP ⊢
  have hS : va_S A s.heap H [] := by rw [eH]; exact va_S.rf
  refine lv_aload_n hx hb dL_turn_0 rfl (lv_at hl 3 rfl) ?_
  refine lv_aload_n hx hb dL_turn_1 rfl (lv_at hl 0 rfl) ?_
  refine lv_iload_n hx hb dL_turn_2 rfl (lv_at hl 1 rfl) ?_
  refine lv_iload_n hx hb dL_turn_3 rfl (lv_at hl 2 rfl) ?_
  have hPc := hP.sub (ws' := [(h0, .inr (9, [.int 7, .ref a1, .int 0, .ref a2, .int 0, .int 0, .ref w1, .ref p1, .ref o1])), (a1, .inl (cA1, 4, .inr (.inr (.inr (.inr (fun _ => none)))))), (a2, .inl (cA2, 10, .inr (.inr (.inr (.inr (fun _ => none))))))]) [0, 1, 2] rfl
  have hDc := hD.sub (ws' := [(h0, .inr (9, [.int 7, .ref a1, .int 0, .ref a2, .int 0, .int 0, .ref w1, .ref p1, .ref o1])), (a1, .inl (cA1, 4, .inr (.inr (.inr (.inr (fun _ => none)))))), (a2, .inl (cA2, 10, .inr (.inr (.inr (.inr (fun _ => none))))))]) [0, 1, 2] (by decide) rfl
  have hKc := hK.sub (tys' := [(cA1, .object RX0), (cA2, .object RX1)]) [0, 1] rfl
  have hFc := va_free (wc := [(h0, .inr (9, [.int 7, .ref a1, .int 0, .ref a2, .int 0, .int 0, .ref w1, .ref p1, .ref o1])), (a1, .inl (cA1, 4, .inr (.inr (.inr (.inr (fun _ => none)))))), (a2, .inl (cA2, 10, .inr (.inr (.inr (.inr (fun _ => none))))))]) hD hS hA [0, 1, 2] rfl
  refine vx_calli (vx_runV (As := [.int k1, .int k2]) (rest := [.ref o0]) ⟨hx, hb, hml, hown, hts⟩ (c_turn l hst dC dI dE h0 a1 a2 w1 p1 o1 cA1 cA2 k1 k2 H.size) (cwV 2 hts gL_turn_X6_turn rfl rfl rfl (by decide +kernel) ⟨Nat.le_of_ble_eq_true rfl, Nat.le_of_ble_eq_true rfl⟩) ⟨fun a U g mk q => ⟨q.1, PB.blind q.2⟩, va_recv hKc hPc (ci := 9) (q0 := 0) rfl rfl, fun U hU hW => ⟨rfl, PB.call hPc hKc hDc hTb hZ hS hFc hU hW⟩⟩ rfl rfl hl.1 rfl (lv_room (Nat.le_of_ble_eq_true rfl)) dL_turn_4 ⟨Nat.le_of_ble_eq_true rfl, Nat.le_of_ble_eq_true rfl⟩) hS (fun q _ h => hFc q h) hFc (fun q _ h => hFc q h) (fun E ce q9 u t H locs ht hvm hpx hBX hz1 hk1 hS hcell hv hcl => ?_) (fun r u t H locs ht hvm hw hB hz1 hk1 hS => ?_)
  · subst hBX
    refine vx_catch hown [] (⟨0, 11, 14, 30⟩ : ExceptionTableEntry) [⟨0, 11, 18, 19⟩, ⟨0, 11, 22, 21⟩] hex (fun z h => nomatch h) (by decide +kernel) (by decide +kernel) (name := "java/lang/IndexOutOfBoundsException") (hts (.classLink RL 30 "java/lang/IndexOutOfBoundsException") (by decide +kernel)) (va_Nw.use rfl (Tb_c1 hTb)) hcell hv hcl ?_
    refine W.eq (g2 := F0 m 14 ls [.ref q9]) rfl ?_
    have hP : va_P (dC, dI) vwCl [] H := fun k q h => by simp at h
    have hD : va_D A [] := ⟨fun i j p q h => by simp at h, fun k q h => by simp at h⟩
    have hK := hK.sub (tys' := []) [] rfl
    refine lv_astore (lv' := [(4, .ref q9), (0, .ref h0), (1, .int k1), (2, .int k2), (3, .ref o0)]) hx hb dL_turn_14 hl (by decide) rfl (fun ls hl => ?_)
    refine lv_iconst (v := 1) hx hb dL_turn_16 (by decide) ?_
    refine W.widen (k := 1) (n := 6) (Nat.le_of_ble_eq_true rfl) (Nat.le_of_ble_eq_true rfl) ?_
    exact W.iret (v := 1) hx hb hr (fun t ht hW => ⟨⟨_, (), rfl, rfl, trivial⟩, hS.F ht⟩) hS.2.2 dL_turn_17
  · exact hw.elim

set_option maxHeartbeats 4000000 in
set_option maxRecDepth 100000 in
/-- c_L_versor -/
theorem c_L_versor (l : Launch) (hst : l.stackTraces = false) (dC : Nat → ClassId) (dI : Nat → Nat → Nat) (dE : Nat) (h0 : Nat) (a1 : Nat) (a2 : Nat) (w1 : Nat) (p1 : Nat) (o1 : Nat) (cA1 : ClassId) (cA2 : ClassId) (k1 : Int32) (o0 : Nat) (sz : Nat) : Met l yL_versor wsL_versor ({ frames := 10, cells := 1, slots := 6, locals := 164 }) (va_Pc [.ref h0, .int k1, .ref o0] (PB dC dI dE [(cA1, .object RX0), (cA2, .object RX1)] [(h0, .inr (9, [.int 7, .ref a1, .int 0, .ref a2, .int 0, .int 0, .ref w1, .ref p1, .ref o1])), (a1, .inl (cA1, 4, .inr (.inr (.inr (.inr (fun _ => none)))))), (a2, .inl (cA2, 10, .inr (.inr (.inr (.inr (fun _ => none))))))] sz)) (va_Qi (fun (r : Int32) (_ : Unit) => r = 1) (fun (_ : Unit) (_ : State) => True) (va_A [(h0, .inr (9, [.int 7, .ref a1, .int 0, .ref a2, .int 0, .int 0, .ref w1, .ref p1, .ref o1])), (a1, .inl (cA1, 4, .inr (.inr (.inr (.inr (fun _ => none)))))), (a2, .inl (cA2, 10, .inr (.inr (.inr (.inr (fun _ => none))))))] sz)) 1 6 (va_A [(h0, .inr (9, [.int 7, .ref a1, .int 0, .ref a2, .int 0, .int 0, .ref w1, .ref p1, .ref o1])), (a1, .inl (cA1, 4, .inr (.inr (.inr (.inr (fun _ => none)))))), (a2, .inl (cA2, 10, .inr (.inr (.inr (.inr (fun _ => none))))))] sz) := by
  refine va_MetW (cc := cL_versor) (maxL := 4) (ret := (some .int)) (hh := [(0, 10, 13, 30), (0, 10, 16, 21)]) (by decide) rfl ?_
  intro p e s m args below meth c s₁ B hml hv
  obtain ⟨rfl, hsz, hP, hK, hD0, hTb, hZ⟩ := hv
  have hx := B.exec
  have hb := B.bytes
  have hr := B.returns
  have hts := atoms_spec (ws := wsL_versor) B.pre
  have hown : s.vm.findClass RL = some m.cls := findClass_of_methodNamed B.named
  have hlocks := B.notSynchronized
  have hex := vx_table (x := yL_versor) B (hts _ List.mem_cons_self)
  subst hsz
  have hD := hD0.self (sz := s.heap.size)
  generalize hAe : va_A [(h0, .inr (9, [.int 7, .ref a1, .int 0, .ref a2, .int 0, .int 0, .ref w1, .ref p1, .ref o1])), (a1, .inl (cA1, 4, .inr (.inr (.inr (.inr (fun _ => none)))))), (a2, .inl (cA2, 10, .inr (.inr (.inr (.inr (fun _ => none))))))] s.heap.size = A at hD hZ ⊢
  have hA : ∀ q : Nat, s.heap.size ≤ q → A q := fun q h => by rw [← hAe]; exact Or.inr h
  have hS : va_S A s.heap s.heap [] := va_S.rf
  have hP : va_P (dC, dI) vwCl [(h0, .inr (9, [.int 7, .ref a1, .int 0, .ref a2, .int 0, .int 0, .ref w1, .ref p1, .ref o1])), (a1, .inl (cA1, 4, .inr (.inr (.inr (.inr (fun _ => none)))))), (a2, .inl (cA2, 10, .inr (.inr (.inr (.inr (fun _ => none))))))] s.heap := hP
  have hl := lv_entry ([.ref h0, .int k1, .ref o0]) (n := 4) (Nat.le_of_ble_eq_true rfl)
  rw [lg_entry_eq]
  generalize (lg_sl ([.ref h0, .int k1, .ref o0]) ++ List.replicate (4 - (lg_sl ([.ref h0, .int k1, .ref o0])).length) Slot.unset).toArray = ls at hl ⊢
  have hl : lv_has ls 4 [(0, .ref h0), (1, .int k1), (2, .ref o0)] := hl
  obtain ⟨H, eH⟩ : ∃ z, z = s.heap := ⟨_, rfl⟩
  rw [← eH] at hP ⊢
  have hS : va_S A s.heap H [] := by rw [eH]; exact va_S.rf
  refine lv_aload_n hx hb dL_versor_0 rfl (lv_at hl 2 rfl) ?_
  refine lv_aload_n hx hb dL_versor_1 rfl (lv_at hl 0 rfl) ?_
  refine lv_iload_n hx hb dL_versor_2 rfl (lv_at hl 1 rfl) ?_
  have hPc := hP.sub (ws' := [(h0, .inr (9, [.int 7, .ref a1, .int 0, .ref a2, .int 0, .int 0, .ref w1, .ref p1, .ref o1])), (a1, .inl (cA1, 4, .inr (.inr (.inr (.inr (fun _ => none)))))), (a2, .inl (cA2, 10, .inr (.inr (.inr (.inr (fun _ => none))))))]) [0, 1, 2] rfl
  have hDc := hD.sub (ws' := [(h0, .inr (9, [.int 7, .ref a1, .int 0, .ref a2, .int 0, .int 0, .ref w1, .ref p1, .ref o1])), (a1, .inl (cA1, 4, .inr (.inr (.inr (.inr (fun _ => none)))))), (a2, .inl (cA2, 10, .inr (.inr (.inr (.inr (fun _ => none))))))]) [0, 1, 2] (by decide) rfl
  have hKc := hK.sub (tys' := [(cA1, .object RX0), (cA2, .object RX1)]) [0, 1] rfl
  have hFc := va_free (wc := [(h0, .inr (9, [.int 7, .ref a1, .int 0, .ref a2, .int 0, .int 0, .ref w1, .ref p1, .ref o1])), (a1, .inl (cA1, 4, .inr (.inr (.inr (.inr (fun _ => none)))))), (a2, .inl (cA2, 10, .inr (.inr (.inr (.inr (fun _ => none))))))]) hD hS hA [0, 1, 2] rfl
  refine vx_calli (vx_runV (As := [.int k1]) (rest := [.ref o0]) ⟨hx, hb, hml, hown, hts⟩ (c_versor l hst dC dI dE h0 a1 a2 w1 p1 o1 cA1 cA2 k1 H.size) (cwV 1 hts gL_versor_X6_versor rfl rfl rfl (by decide +kernel) ⟨Nat.le_of_ble_eq_true rfl, Nat.le_of_ble_eq_true rfl⟩) ⟨fun a U g mk q => ⟨q.1, PB.blind q.2⟩, va_recv hKc hPc (ci := 9) (q0 := 0) rfl rfl, fun U hU hW => ⟨rfl, PB.call hPc hKc hDc hTb hZ hS hFc hU hW⟩⟩ rfl rfl hl.1 rfl (lv_room (Nat.le_of_ble_eq_true rfl)) dL_versor_3 ⟨Nat.le_of_ble_eq_true rfl, Nat.le_of_ble_eq_true rfl⟩) hS (fun q _ h => hFc q h) hFc (fun q _ h => hFc q h) (fun E ce q9 u t H locs ht hvm hpx hBX hz1 hk1 hS hcell hv hcl => ?_) (fun r u t H locs ht hvm hw hB hz1 hk1 hS => ?_)
  · subst hBX
    refine vx_catch hown [] (⟨0, 10, 13, 30⟩ : ExceptionTableEntry) [⟨0, 10, 16, 21⟩] hex (fun z h => nomatch h) (by decide +kernel) (by decide +kernel) (name := "java/lang/IndexOutOfBoundsException") (hts (.classLink RL 30 "java/lang/IndexOutOfBoundsException") (by decide +kernel)) (va_Nw.use rfl (Tb_c1 hTb)) hcell hv hcl ?_
    refine W.eq (g2 := F0 m 13 ls [.ref q9]) rfl ?_
    have hP : va_P (dC, dI) vwCl [] H := fun k q h => by simp at h
    have hD : va_D A [] := ⟨fun i j p q h => by simp at h, fun k q h => by simp at h⟩
    have hK := hK.sub (tys' := []) [] rfl
    refine lv_astore_n (lv' := [(3, .ref q9), (0, .ref h0), (1, .int k1), (2, .ref o0)]) hx hb dL_versor_13 rfl hl (by decide) rfl (fun ls hl => ?_)
    refine lv_iconst (v := 1) hx hb dL_versor_14 (by decide) ?_
    refine W.widen (k := 1) (n := 6) (Nat.le_of_ble_eq_true rfl) (Nat.le_of_ble_eq_true rfl) ?_
    exact W.iret (v := 1) hx hb hr (fun t ht hW => ⟨⟨_, (), rfl, rfl, trivial⟩, hS.F ht⟩) hS.2.2 dL_versor_15
  · exact hw.elim

set_option maxHeartbeats 4000000 in
set_option maxRecDepth 100000 in
/-- c_L_run -/
theorem c_L_run (l : Launch) (hst : l.stackTraces = false) (dC : Nat → ClassId) (dI : Nat → Nat → Nat) (dE : Nat) (h0 : Nat) (a1 : Nat) (a2 : Nat) (w1 : Nat) (p1 : Nat) (o1 : Nat) (cA1 : ClassId) (cA2 : ClassId) (k1 : Int32) (k2 : Int32) (o0 : Nat) (sz : Nat) : Met l yL_run wsL_run ({ frames := 10, cells := 1, slots := 6, locals := 166 }) (va_Pc [.ref h0, .int k1, .int k2, .ref o0] (PB dC dI dE [(cA1, .object RX0), (cA2, .object RX1)] [(h0, .inr (9, [.int 7, .ref a1, .int 0, .ref a2, .int 0, .int 0, .ref w1, .ref p1, .ref o1])), (a1, .inl (cA1, 4, .inr (.inr (.inr (.inr (fun _ => none)))))), (a2, .inl (cA2, 10, .inr (.inr (.inr (.inr (fun _ => none))))))] sz)) (va_Qi (fun (r : Int32) (_ : Unit) => r = 1) (fun (_ : Unit) (_ : State) => True) (va_A [(h0, .inr (9, [.int 7, .ref a1, .int 0, .ref a2, .int 0, .int 0, .ref w1, .ref p1, .ref o1])), (a1, .inl (cA1, 4, .inr (.inr (.inr (.inr (fun _ => none)))))), (a2, .inl (cA2, 10, .inr (.inr (.inr (.inr (fun _ => none))))))] sz)) 1 6 (va_A [(h0, .inr (9, [.int 7, .ref a1, .int 0, .ref a2, .int 0, .int 0, .ref w1, .ref p1, .ref o1])), (a1, .inl (cA1, 4, .inr (.inr (.inr (.inr (fun _ => none)))))), (a2, .inl (cA2, 10, .inr (.inr (.inr (.inr (fun _ => none))))))] sz) := by
  refine va_MetW (cc := cL_run) (maxL := 5) (ret := (some .int)) (hh := [(0, 11, 14, 30), (0, 11, 18, 19)]) (by decide) rfl ?_
  intro p e s m args below meth c s₁ B hml hv
  obtain ⟨rfl, hsz, hP, hK, hD0, hTb, hZ⟩ := hv
  have hx := B.exec
  have hb := B.bytes
  have hr := B.returns
  have hts := atoms_spec (ws := wsL_run) B.pre
  have hown : s.vm.findClass RL = some m.cls := findClass_of_methodNamed B.named
  have hlocks := B.notSynchronized
  have hex := vx_table (x := yL_run) B (hts _ List.mem_cons_self)
  subst hsz
  have hD := hD0.self (sz := s.heap.size)
  generalize hAe : va_A [(h0, .inr (9, [.int 7, .ref a1, .int 0, .ref a2, .int 0, .int 0, .ref w1, .ref p1, .ref o1])), (a1, .inl (cA1, 4, .inr (.inr (.inr (.inr (fun _ => none)))))), (a2, .inl (cA2, 10, .inr (.inr (.inr (.inr (fun _ => none))))))] s.heap.size = A at hD hZ ⊢
  have hA : ∀ q : Nat, s.heap.size ≤ q → A q := fun q h => by rw [← hAe]; exact Or.inr h
  have hS : va_S A s.heap s.heap [] := va_S.rf
  have hP : va_P (dC, dI) vwCl [(h0, .inr (9, [.int 7, .ref a1, .int 0, .ref a2, .int 0, .int 0, .ref w1, .ref p1, .ref o1])), (a1, .inl (cA1, 4, .inr (.inr (.inr (.inr (fun _ => none)))))), (a2, .inl (cA2, 10, .inr (.inr (.inr (.inr (fun _ => none))))))] s.heap := hP
  have hl := lv_entry ([.ref h0, .int k1, .int k2, .ref o0]) (n := 5) (Nat.le_of_ble_eq_true rfl)
  rw [lg_entry_eq]
  generalize (lg_sl ([.ref h0, .int k1, .int k2, .ref o0]) ++ List.replicate (5 - (lg_sl ([.ref h0, .int k1, .int k2, .ref o0])).length) Slot.unset).toArray = ls at hl ⊢
  have hl : lv_has ls 5 [(0, .ref h0), (1, .int k1), (2, .int k2), (3, .ref o0)] := hl
  obtain ⟨H, eH⟩ : ∃ z, z = s.heap := ⟨_, rfl⟩
  rw [← eH] at hP ⊢
  have hS : va_S A s.heap H [] := by rw [eH]; exact va_S.rf
  refine lv_aload_n hx hb dL_run_0 rfl (lv_at hl 3 rfl) ?_
  refine lv_aload_n hx hb dL_run_1 rfl (lv_at hl 0 rfl) ?_
  refine lv_iload_n hx hb dL_run_2 rfl (lv_at hl 1 rfl) ?_
  refine lv_iload_n hx hb dL_run_3 rfl (lv_at hl 2 rfl) ?_
  have hPc := hP.sub (ws' := [(h0, .inr (9, [.int 7, .ref a1, .int 0, .ref a2, .int 0, .int 0, .ref w1, .ref p1, .ref o1])), (a1, .inl (cA1, 4, .inr (.inr (.inr (.inr (fun _ => none)))))), (a2, .inl (cA2, 10, .inr (.inr (.inr (.inr (fun _ => none))))))]) [0, 1, 2] rfl
  have hDc := hD.sub (ws' := [(h0, .inr (9, [.int 7, .ref a1, .int 0, .ref a2, .int 0, .int 0, .ref w1, .ref p1, .ref o1])), (a1, .inl (cA1, 4, .inr (.inr (.inr (.inr (fun _ => none)))))), (a2, .inl (cA2, 10, .inr (.inr (.inr (.inr (fun _ => none))))))]) [0, 1, 2] (by decide) rfl
  have hKc := hK.sub (tys' := [(cA1, .object RX0), (cA2, .object RX1)]) [0, 1] rfl
  have hFc := va_free (wc := [(h0, .inr (9, [.int 7, .ref a1, .int 0, .ref a2, .int 0, .int 0, .ref w1, .ref p1, .ref o1])), (a1, .inl (cA1, 4, .inr (.inr (.inr (.inr (fun _ => none)))))), (a2, .inl (cA2, 10, .inr (.inr (.inr (.inr (fun _ => none))))))]) hD hS hA [0, 1, 2] rfl
  refine vx_calli (vx_runV (As := [.int k1, .int k2]) (rest := [.ref o0]) ⟨hx, hb, hml, hown, hts⟩ (c_run l hst dC dI dE h0 a1 a2 w1 p1 o1 cA1 cA2 k1 k2 H.size) (cwV 2 hts gL_run_X6_run rfl rfl rfl (by decide +kernel) ⟨Nat.le_of_ble_eq_true rfl, Nat.le_of_ble_eq_true rfl⟩) ⟨fun a U g mk q => ⟨q.1, PB.blind q.2⟩, va_recv hKc hPc (ci := 9) (q0 := 0) rfl rfl, fun U hU hW => ⟨rfl, PB.call hPc hKc hDc hTb hZ hS hFc hU hW⟩⟩ rfl rfl hl.1 rfl (lv_room (Nat.le_of_ble_eq_true rfl)) dL_run_4 ⟨Nat.le_of_ble_eq_true rfl, Nat.le_of_ble_eq_true rfl⟩) hS (fun q _ h => hFc q h) hFc (fun q _ h => hFc q h) (fun E ce q9 u t H locs ht hvm hpx hBX hz1 hk1 hS hcell hv hcl => ?_) (fun r u t H locs ht hvm hw hB hz1 hk1 hS => ?_)
  · subst hBX
    refine vx_catch hown [] (⟨0, 11, 14, 30⟩ : ExceptionTableEntry) [⟨0, 11, 18, 19⟩] hex (fun z h => nomatch h) (by decide +kernel) (by decide +kernel) (name := "java/lang/IndexOutOfBoundsException") (hts (.classLink RL 30 "java/lang/IndexOutOfBoundsException") (by decide +kernel)) (va_Nw.use rfl (Tb_c1 hTb)) hcell hv hcl ?_
    refine W.eq (g2 := F0 m 14 ls [.ref q9]) rfl ?_
    have hP : va_P (dC, dI) vwCl [] H := fun k q h => by simp at h
    have hD : va_D A [] := ⟨fun i j p q h => by simp at h, fun k q h => by simp at h⟩
    have hK := hK.sub (tys' := []) [] rfl
    refine lv_astore (lv' := [(4, .ref q9), (0, .ref h0), (1, .int k1), (2, .int k2), (3, .ref o0)]) hx hb dL_run_14 hl (by decide) rfl (fun ls hl => ?_)
    refine lv_iconst (v := 1) hx hb dL_run_16 (by decide) ?_
    refine W.widen (k := 1) (n := 6) (Nat.le_of_ble_eq_true rfl) (Nat.le_of_ble_eq_true rfl) ?_
    exact W.iret (v := 1) hx hb hr (fun t ht hW => ⟨⟨_, (), rfl, rfl, trivial⟩, hS.F ht⟩) hS.2.2 dL_run_17
  · exact hw.elim

set_option maxHeartbeats 4000000 in
set_option maxRecDepth 100000 in
/-- c_L_at -/
theorem c_L_at (l : Launch) (hst : l.stackTraces = false) (dC : Nat → ClassId) (dI : Nat → Nat → Nat) (dE : Nat) (h0 : Nat) (a1 : Nat) (a2 : Nat) (w1 : Nat) (p1 : Nat) (o1 : Nat) (cA1 : ClassId) (cA2 : ClassId) (k1 : Int32) (k2 : Int32) (o0 : Nat) (sz : Nat) : Met l yL_at wsL_at ({ frames := 10, cells := 1, slots := 6, locals := 165 }) (va_Pc [.ref h0, .int k1, .int k2, .ref o0] (PB dC dI dE [(cA1, .object RX0), (cA2, .object RX1)] [(h0, .inr (9, [.int 7, .ref a1, .int 0, .ref a2, .int 0, .int 0, .ref w1, .ref p1, .ref o1])), (a1, .inl (cA1, 4, .inr (.inr (.inr (.inr (fun _ => none)))))), (a2, .inl (cA2, 10, .inr (.inr (.inr (.inr (fun _ => none))))))] sz)) (va_Qi (fun (r : Int32) (_ : Unit) => r = 1) (fun (_ : Unit) (_ : State) => True) (va_A [(h0, .inr (9, [.int 7, .ref a1, .int 0, .ref a2, .int 0, .int 0, .ref w1, .ref p1, .ref o1])), (a1, .inl (cA1, 4, .inr (.inr (.inr (.inr (fun _ => none)))))), (a2, .inl (cA2, 10, .inr (.inr (.inr (.inr (fun _ => none))))))] sz)) 1 6 (va_A [(h0, .inr (9, [.int 7, .ref a1, .int 0, .ref a2, .int 0, .int 0, .ref w1, .ref p1, .ref o1])), (a1, .inl (cA1, 4, .inr (.inr (.inr (.inr (fun _ => none)))))), (a2, .inl (cA2, 10, .inr (.inr (.inr (.inr (fun _ => none))))))] sz) := by
  refine va_MetW (cc := cL_at) (maxL := 5) (ret := (some .int)) (hh := [(0, 11, 14, 30)]) (by decide) rfl ?_
  intro p e s m args below meth c s₁ B hml hv
  obtain ⟨rfl, hsz, hP, hK, hD0, hTb, hZ⟩ := hv
  have hx := B.exec
  have hb := B.bytes
  have hr := B.returns
  have hts := atoms_spec (ws := wsL_at) B.pre
  have hown : s.vm.findClass RL = some m.cls := findClass_of_methodNamed B.named
  have hlocks := B.notSynchronized
  have hex := vx_table (x := yL_at) B (hts _ List.mem_cons_self)
  subst hsz
  have hD := hD0.self (sz := s.heap.size)
  generalize hAe : va_A [(h0, .inr (9, [.int 7, .ref a1, .int 0, .ref a2, .int 0, .int 0, .ref w1, .ref p1, .ref o1])), (a1, .inl (cA1, 4, .inr (.inr (.inr (.inr (fun _ => none)))))), (a2, .inl (cA2, 10, .inr (.inr (.inr (.inr (fun _ => none))))))] s.heap.size = A at hD hZ ⊢
  have hA : ∀ q : Nat, s.heap.size ≤ q → A q := fun q h => by rw [← hAe]; exact Or.inr h
  have hS : va_S A s.heap s.heap [] := va_S.rf
  have hP : va_P (dC, dI) vwCl [(h0, .inr (9, [.int 7, .ref a1, .int 0, .ref a2, .int 0, .int 0, .ref w1, .ref p1, .ref o1])), (a1, .inl (cA1, 4, .inr (.inr (.inr (.inr (fun _ => none)))))), (a2, .inl (cA2, 10, .inr (.inr (.inr (.inr (fun _ => none))))))] s.heap := hP
  have hl := lv_entry ([.ref h0, .int k1, .int k2, .ref o0]) (n := 5) (Nat.le_of_ble_eq_true rfl)
  rw [lg_entry_eq]
  generalize (lg_sl ([.ref h0, .int k1, .int k2, .ref o0]) ++ List.replicate (5 - (lg_sl ([.ref h0, .int k1, .int k2, .ref o0])).length) Slot.unset).toArray = ls at hl ⊢
  have hl : lv_has ls 5 [(0, .ref h0), (1, .int k1), (2, .int k2), (3, .ref o0)] := hl
  obtain ⟨H, eH⟩ : ∃ z, z = s.heap := ⟨_, rfl⟩
  rw [← eH] at hP ⊢
  have hS : va_S A s.heap H [] := by rw [eH]; exact va_S.rf
  refine lv_aload_n hx hb dL_at_0 rfl (lv_at hl 3 rfl) ?_
  refine lv_aload_n hx hb dL_at_1 rfl (lv_at hl 0 rfl) ?_
  refine lv_iload_n hx hb dL_at_2 rfl (lv_at hl 1 rfl) ?_
  refine lv_iload_n hx hb dL_at_3 rfl (lv_at hl 2 rfl) ?_
  have hPc := hP.sub (ws' := [(h0, .inr (9, [.int 7, .ref a1, .int 0, .ref a2, .int 0, .int 0, .ref w1, .ref p1, .ref o1])), (a1, .inl (cA1, 4, .inr (.inr (.inr (.inr (fun _ => none)))))), (a2, .inl (cA2, 10, .inr (.inr (.inr (.inr (fun _ => none))))))]) [0, 1, 2] rfl
  have hDc := hD.sub (ws' := [(h0, .inr (9, [.int 7, .ref a1, .int 0, .ref a2, .int 0, .int 0, .ref w1, .ref p1, .ref o1])), (a1, .inl (cA1, 4, .inr (.inr (.inr (.inr (fun _ => none)))))), (a2, .inl (cA2, 10, .inr (.inr (.inr (.inr (fun _ => none))))))]) [0, 1, 2] (by decide) rfl
  have hKc := hK.sub (tys' := [(cA1, .object RX0), (cA2, .object RX1)]) [0, 1] rfl
  have hFc := va_free (wc := [(h0, .inr (9, [.int 7, .ref a1, .int 0, .ref a2, .int 0, .int 0, .ref w1, .ref p1, .ref o1])), (a1, .inl (cA1, 4, .inr (.inr (.inr (.inr (fun _ => none)))))), (a2, .inl (cA2, 10, .inr (.inr (.inr (.inr (fun _ => none))))))]) hD hS hA [0, 1, 2] rfl
  refine vx_calli (vx_runV (As := [.int k1, .int k2]) (rest := [.ref o0]) ⟨hx, hb, hml, hown, hts⟩ (c_at l hst dC dI dE h0 a1 a2 w1 p1 o1 cA1 cA2 k1 k2 H.size) (cwV 2 hts gL_at_X6_at rfl rfl rfl (by decide +kernel) ⟨Nat.le_of_ble_eq_true rfl, Nat.le_of_ble_eq_true rfl⟩) ⟨fun a U g mk q => ⟨q.1, PB.blind q.2⟩, va_recv hKc hPc (ci := 9) (q0 := 0) rfl rfl, fun U hU hW => ⟨rfl, PB.call hPc hKc hDc hTb hZ hS hFc hU hW⟩⟩ rfl rfl hl.1 rfl (lv_room (Nat.le_of_ble_eq_true rfl)) dL_at_4 ⟨Nat.le_of_ble_eq_true rfl, Nat.le_of_ble_eq_true rfl⟩) hS (fun q _ h => hFc q h) hFc (fun q _ h => hFc q h) (fun E ce q9 u t H locs ht hvm hpx hBX hz1 hk1 hS hcell hv hcl => ?_) (fun r u t H locs ht hvm hw hB hz1 hk1 hS => ?_)
  · subst hBX
    refine vx_catch hown [] (⟨0, 11, 14, 30⟩ : ExceptionTableEntry) [] hex (fun z h => nomatch h) (by decide +kernel) (by decide +kernel) (name := "java/lang/IndexOutOfBoundsException") (hts (.classLink RL 30 "java/lang/IndexOutOfBoundsException") (by decide +kernel)) (va_Nw.use rfl (Tb_c1 hTb)) hcell hv hcl ?_
    refine W.eq (g2 := F0 m 14 ls [.ref q9]) rfl ?_
    have hP : va_P (dC, dI) vwCl [] H := fun k q h => by simp at h
    have hD : va_D A [] := ⟨fun i j p q h => by simp at h, fun k q h => by simp at h⟩
    have hK := hK.sub (tys' := []) [] rfl
    refine lv_astore (lv' := [(4, .ref q9), (0, .ref h0), (1, .int k1), (2, .int k2), (3, .ref o0)]) hx hb dL_at_14 hl (by decide) rfl (fun ls hl => ?_)
    refine lv_iconst (v := 1) hx hb dL_at_16 (by decide) ?_
    refine W.widen (k := 1) (n := 6) (Nat.le_of_ble_eq_true rfl) (Nat.le_of_ble_eq_true rfl) ?_
    exact W.iret (v := 1) hx hb hr (fun t ht hW => ⟨⟨_, (), rfl, rfl, trivial⟩, hS.F ht⟩) hS.2.2 dL_at_17
  · exact hw.elim

set_option maxHeartbeats 4000000 in
set_option maxRecDepth 100000 in
/-- c_L_ofElement -/
theorem c_L_ofElement (l : Launch) (hst : l.stackTraces = false) (dC : Nat → ClassId) (dI : Nat → Nat → Nat) (dE : Nat) (h0 : Nat) (a1 : Nat) (a2 : Nat) (w1 : Nat) (p1 : Nat) (o1 : Nat) (cA1 : ClassId) (cA2 : ClassId) (k1 : Int32) (k2 : Int32) (o0 : Nat) (sz : Nat) : Met l yL_ofElement wsL_ofElement ({ frames := 10, cells := 1, slots := 6, locals := 165 }) (va_Pc [.ref h0, .int k1, .int k2, .ref o0] (PB dC dI dE [(cA1, .object RX0), (cA2, .object RX1)] [(h0, .inr (9, [.int 7, .ref a1, .int 0, .ref a2, .int 0, .int 0, .ref w1, .ref p1, .ref o1])), (a1, .inl (cA1, 4, .inr (.inr (.inr (.inr (fun _ => none)))))), (a2, .inl (cA2, 10, .inr (.inr (.inr (.inr (fun _ => none))))))] sz)) (va_Qi (fun (r : Int32) (_ : Unit) => r = 1) (fun (_ : Unit) (_ : State) => True) (va_A [(h0, .inr (9, [.int 7, .ref a1, .int 0, .ref a2, .int 0, .int 0, .ref w1, .ref p1, .ref o1])), (a1, .inl (cA1, 4, .inr (.inr (.inr (.inr (fun _ => none)))))), (a2, .inl (cA2, 10, .inr (.inr (.inr (.inr (fun _ => none))))))] sz)) 1 6 (va_A [(h0, .inr (9, [.int 7, .ref a1, .int 0, .ref a2, .int 0, .int 0, .ref w1, .ref p1, .ref o1])), (a1, .inl (cA1, 4, .inr (.inr (.inr (.inr (fun _ => none)))))), (a2, .inl (cA2, 10, .inr (.inr (.inr (.inr (fun _ => none))))))] sz) := by
  refine va_MetW (cc := cL_ofElement) (maxL := 5) (ret := (some .int)) (hh := [(0, 11, 14, 30), (0, 11, 18, 19)]) (by decide) rfl ?_
  intro p e s m args below meth c s₁ B hml hv
  obtain ⟨rfl, hsz, hP, hK, hD0, hTb, hZ⟩ := hv
  have hx := B.exec
  have hb := B.bytes
  have hr := B.returns
  have hts := atoms_spec (ws := wsL_ofElement) B.pre
  have hown : s.vm.findClass RL = some m.cls := findClass_of_methodNamed B.named
  have hlocks := B.notSynchronized
  have hex := vx_table (x := yL_ofElement) B (hts _ List.mem_cons_self)
  subst hsz
  have hD := hD0.self (sz := s.heap.size)
  generalize hAe : va_A [(h0, .inr (9, [.int 7, .ref a1, .int 0, .ref a2, .int 0, .int 0, .ref w1, .ref p1, .ref o1])), (a1, .inl (cA1, 4, .inr (.inr (.inr (.inr (fun _ => none)))))), (a2, .inl (cA2, 10, .inr (.inr (.inr (.inr (fun _ => none))))))] s.heap.size = A at hD hZ ⊢
  have hA : ∀ q : Nat, s.heap.size ≤ q → A q := fun q h => by rw [← hAe]; exact Or.inr h
  have hS : va_S A s.heap s.heap [] := va_S.rf
  have hP : va_P (dC, dI) vwCl [(h0, .inr (9, [.int 7, .ref a1, .int 0, .ref a2, .int 0, .int 0, .ref w1, .ref p1, .ref o1])), (a1, .inl (cA1, 4, .inr (.inr (.inr (.inr (fun _ => none)))))), (a2, .inl (cA2, 10, .inr (.inr (.inr (.inr (fun _ => none))))))] s.heap := hP
  have hl := lv_entry ([.ref h0, .int k1, .int k2, .ref o0]) (n := 5) (Nat.le_of_ble_eq_true rfl)
  rw [lg_entry_eq]
  generalize (lg_sl ([.ref h0, .int k1, .int k2, .ref o0]) ++ List.replicate (5 - (lg_sl ([.ref h0, .int k1, .int k2, .ref o0])).length) Slot.unset).toArray = ls at hl ⊢
  have hl : lv_has ls 5 [(0, .ref h0), (1, .int k1), (2, .int k2), (3, .ref o0)] := hl
  obtain ⟨H, eH⟩ : ∃ z, z = s.heap := ⟨_, rfl⟩
  rw [← eH] at hP ⊢
  have hS : va_S A s.heap H [] := by rw [eH]; exact va_S.rf
  refine lv_aload_n hx hb dL_ofElement_0 rfl (lv_at hl 3 rfl) ?_
  refine lv_aload_n hx hb dL_ofElement_1 rfl (lv_at hl 0 rfl) ?_
  refine lv_iload_n hx hb dL_ofElement_2 rfl (lv_at hl 1 rfl) ?_
  refine lv_iload_n hx hb dL_ofElement_3 rfl (lv_at hl 2 rfl) ?_
  have hPc := hP.sub (ws' := [(h0, .inr (9, [.int 7, .ref a1, .int 0, .ref a2, .int 0, .int 0, .ref w1, .ref p1, .ref o1])), (a1, .inl (cA1, 4, .inr (.inr (.inr (.inr (fun _ => none)))))), (a2, .inl (cA2, 10, .inr (.inr (.inr (.inr (fun _ => none))))))]) [0, 1, 2] rfl
  have hDc := hD.sub (ws' := [(h0, .inr (9, [.int 7, .ref a1, .int 0, .ref a2, .int 0, .int 0, .ref w1, .ref p1, .ref o1])), (a1, .inl (cA1, 4, .inr (.inr (.inr (.inr (fun _ => none)))))), (a2, .inl (cA2, 10, .inr (.inr (.inr (.inr (fun _ => none))))))]) [0, 1, 2] (by decide) rfl
  have hKc := hK.sub (tys' := [(cA1, .object RX0), (cA2, .object RX1)]) [0, 1] rfl
  have hFc := va_free (wc := [(h0, .inr (9, [.int 7, .ref a1, .int 0, .ref a2, .int 0, .int 0, .ref w1, .ref p1, .ref o1])), (a1, .inl (cA1, 4, .inr (.inr (.inr (.inr (fun _ => none)))))), (a2, .inl (cA2, 10, .inr (.inr (.inr (.inr (fun _ => none))))))]) hD hS hA [0, 1, 2] rfl
  refine vx_calli (vx_runV (As := [.int k1, .int k2]) (rest := [.ref o0]) ⟨hx, hb, hml, hown, hts⟩ (c_ofElement l hst dC dI dE h0 a1 a2 w1 p1 o1 cA1 cA2 k1 k2 H.size) (cwV 2 hts gL_ofElement_X6_ofElement rfl rfl rfl (by decide +kernel) ⟨Nat.le_of_ble_eq_true rfl, Nat.le_of_ble_eq_true rfl⟩) ⟨fun a U g mk q => ⟨q.1, PB.blind q.2⟩, va_recv hKc hPc (ci := 9) (q0 := 0) rfl rfl, fun U hU hW => ⟨rfl, PB.call hPc hKc hDc hTb hZ hS hFc hU hW⟩⟩ rfl rfl hl.1 rfl (lv_room (Nat.le_of_ble_eq_true rfl)) dL_ofElement_4 ⟨Nat.le_of_ble_eq_true rfl, Nat.le_of_ble_eq_true rfl⟩) hS (fun q _ h => hFc q h) hFc (fun q _ h => hFc q h) (fun E ce q9 u t H locs ht hvm hpx hBX hz1 hk1 hS hcell hv hcl => ?_) (fun r u t H locs ht hvm hw hB hz1 hk1 hS => ?_)
  · subst hBX
    refine vx_catch hown [] (⟨0, 11, 14, 30⟩ : ExceptionTableEntry) [⟨0, 11, 18, 19⟩] hex (fun z h => nomatch h) (by decide +kernel) (by decide +kernel) (name := "java/lang/IndexOutOfBoundsException") (hts (.classLink RL 30 "java/lang/IndexOutOfBoundsException") (by decide +kernel)) (va_Nw.use rfl (Tb_c1 hTb)) hcell hv hcl ?_
    refine W.eq (g2 := F0 m 14 ls [.ref q9]) rfl ?_
    have hP : va_P (dC, dI) vwCl [] H := fun k q h => by simp at h
    have hD : va_D A [] := ⟨fun i j p q h => by simp at h, fun k q h => by simp at h⟩
    have hK := hK.sub (tys' := []) [] rfl
    refine lv_astore (lv' := [(4, .ref q9), (0, .ref h0), (1, .int k1), (2, .int k2), (3, .ref o0)]) hx hb dL_ofElement_14 hl (by decide) rfl (fun ls hl => ?_)
    refine lv_iconst (v := 1) hx hb dL_ofElement_16 (by decide) ?_
    refine W.widen (k := 1) (n := 6) (Nat.le_of_ble_eq_true rfl) (Nat.le_of_ble_eq_true rfl) ?_
    exact W.iret (v := 1) hx hb hr (fun t ht hW => ⟨⟨_, (), rfl, rfl, trivial⟩, hS.F ht⟩) hS.2.2 dL_ofElement_17
  · exact hw.elim

set_option maxHeartbeats 4000000 in
set_option maxRecDepth 100000 in
/-- c_L_text -/
theorem c_L_text (l : Launch) (hst : l.stackTraces = false) (dC : Nat → ClassId) (dI : Nat → Nat → Nat) (dE : Nat) (h0 : Nat) (a1 : Nat) (a2 : Nat) (w1 : Nat) (p1 : Nat) (o1 : Nat) (cA1 : ClassId) (cA2 : ClassId) (k1 : Int32) (o0 : Nat) (sz : Nat) : Met l yL_text wsL_text ({ frames := 10, cells := 1, slots := 6, locals := 167 }) (va_Pc [.ref h0, .int k1, .ref o0] (PB dC dI dE [(cA1, .object RX0), (cA2, .object RX1)] [(h0, .inr (9, [.int 7, .ref a1, .int 0, .ref a2, .int 0, .int 0, .ref w1, .ref p1, .ref o1])), (a1, .inl (cA1, 4, .inr (.inr (.inr (.inr (fun _ => none)))))), (a2, .inl (cA2, 10, .inr (.inr (.inr (.inr (fun _ => none))))))] sz)) (va_Qi (fun (r : Int32) (_ : Unit) => r = 1) (fun (_ : Unit) (_ : State) => True) (va_A [(h0, .inr (9, [.int 7, .ref a1, .int 0, .ref a2, .int 0, .int 0, .ref w1, .ref p1, .ref o1])), (a1, .inl (cA1, 4, .inr (.inr (.inr (.inr (fun _ => none)))))), (a2, .inl (cA2, 10, .inr (.inr (.inr (.inr (fun _ => none))))))] sz)) 1 6 (va_A [(h0, .inr (9, [.int 7, .ref a1, .int 0, .ref a2, .int 0, .int 0, .ref w1, .ref p1, .ref o1])), (a1, .inl (cA1, 4, .inr (.inr (.inr (.inr (fun _ => none)))))), (a2, .inl (cA2, 10, .inr (.inr (.inr (.inr (fun _ => none))))))] sz) := by
  refine va_MetW (cc := cL_text) (maxL := 4) (ret := (some .int)) (hh := [(0, 9, 12, 30)]) (by decide) rfl ?_
  intro p e s m args below meth c s₁ B hml hv
  obtain ⟨rfl, hsz, hP, hK, hD0, hTb, hZ⟩ := hv
  have hx := B.exec
  have hb := B.bytes
  have hr := B.returns
  have hts := atoms_spec (ws := wsL_text) B.pre
  have hown : s.vm.findClass RL = some m.cls := findClass_of_methodNamed B.named
  have hlocks := B.notSynchronized
  have hex := vx_table (x := yL_text) B (hts _ List.mem_cons_self)
  subst hsz
  have hD := hD0.self (sz := s.heap.size)
  generalize hAe : va_A [(h0, .inr (9, [.int 7, .ref a1, .int 0, .ref a2, .int 0, .int 0, .ref w1, .ref p1, .ref o1])), (a1, .inl (cA1, 4, .inr (.inr (.inr (.inr (fun _ => none)))))), (a2, .inl (cA2, 10, .inr (.inr (.inr (.inr (fun _ => none))))))] s.heap.size = A at hD hZ ⊢
  have hA : ∀ q : Nat, s.heap.size ≤ q → A q := fun q h => by rw [← hAe]; exact Or.inr h
  have hS : va_S A s.heap s.heap [] := va_S.rf
  have hP : va_P (dC, dI) vwCl [(h0, .inr (9, [.int 7, .ref a1, .int 0, .ref a2, .int 0, .int 0, .ref w1, .ref p1, .ref o1])), (a1, .inl (cA1, 4, .inr (.inr (.inr (.inr (fun _ => none)))))), (a2, .inl (cA2, 10, .inr (.inr (.inr (.inr (fun _ => none))))))] s.heap := hP
  have hl := lv_entry ([.ref h0, .int k1, .ref o0]) (n := 4) (Nat.le_of_ble_eq_true rfl)
  rw [lg_entry_eq]
  generalize (lg_sl ([.ref h0, .int k1, .ref o0]) ++ List.replicate (4 - (lg_sl ([.ref h0, .int k1, .ref o0])).length) Slot.unset).toArray = ls at hl ⊢
  have hl : lv_has ls 4 [(0, .ref h0), (1, .int k1), (2, .ref o0)] := hl
  obtain ⟨H, eH⟩ : ∃ z, z = s.heap := ⟨_, rfl⟩
  rw [← eH] at hP ⊢
  have hS : va_S A s.heap H [] := by rw [eH]; exact va_S.rf
  refine lv_aload_n hx hb dL_text_0 rfl (lv_at hl 2 rfl) ?_
  refine lv_aload_n hx hb dL_text_1 rfl (lv_at hl 0 rfl) ?_
  refine lv_iload_n hx hb dL_text_2 rfl (lv_at hl 1 rfl) ?_
  have hPc := hP.sub (ws' := [(h0, .inr (9, [.int 7, .ref a1, .int 0, .ref a2, .int 0, .int 0, .ref w1, .ref p1, .ref o1])), (a1, .inl (cA1, 4, .inr (.inr (.inr (.inr (fun _ => none)))))), (a2, .inl (cA2, 10, .inr (.inr (.inr (.inr (fun _ => none))))))]) [0, 1, 2] rfl
  have hDc := hD.sub (ws' := [(h0, .inr (9, [.int 7, .ref a1, .int 0, .ref a2, .int 0, .int 0, .ref w1, .ref p1, .ref o1])), (a1, .inl (cA1, 4, .inr (.inr (.inr (.inr (fun _ => none)))))), (a2, .inl (cA2, 10, .inr (.inr (.inr (.inr (fun _ => none))))))]) [0, 1, 2] (by decide) rfl
  have hKc := hK.sub (tys' := [(cA1, .object RX0), (cA2, .object RX1)]) [0, 1] rfl
  have hFc := va_free (wc := [(h0, .inr (9, [.int 7, .ref a1, .int 0, .ref a2, .int 0, .int 0, .ref w1, .ref p1, .ref o1])), (a1, .inl (cA1, 4, .inr (.inr (.inr (.inr (fun _ => none)))))), (a2, .inl (cA2, 10, .inr (.inr (.inr (.inr (fun _ => none))))))]) hD hS hA [0, 1, 2] rfl
  refine vx_callq (vx_runV (As := [.int k1]) (rest := [.ref o0]) ⟨hx, hb, hml, hown, hts⟩ (c_text l hst dC dI dE h0 a1 a2 w1 p1 o1 cA1 cA2 k1 H.size) (cwV 1 hts gL_text_X6_text rfl rfl rfl (by decide +kernel) ⟨Nat.le_of_ble_eq_true rfl, Nat.le_of_ble_eq_true rfl⟩) ⟨fun a U g mk q => ⟨q.1, PB.blind q.2⟩, va_recv hKc hPc (ci := 9) (q0 := 0) rfl rfl, fun U hU hW => ⟨rfl, PB.call hPc hKc hDc hTb hZ hS hFc hU hW⟩⟩ rfl rfl hl.1 rfl (lv_room (Nat.le_of_ble_eq_true rfl)) dL_text_3 ⟨Nat.le_of_ble_eq_true rfl, Nat.le_of_ble_eq_true rfl⟩) hS (fun q _ h => hFc q h) hFc (fun q _ h => hFc q h) (fun E ce q9 u t H locs ht hvm hpx hBX hz1 hk1 hS hcell hv hcl => ?_) (fun r u t H locs ht hvm hw hB hz1 hk1 hS => ?_)
  · subst hBX
    refine vx_catch hown [] (⟨0, 9, 12, 30⟩ : ExceptionTableEntry) [] hex (fun z h => nomatch h) (by decide +kernel) (by decide +kernel) (name := "java/lang/IndexOutOfBoundsException") (hts (.classLink RL 30 "java/lang/IndexOutOfBoundsException") (by decide +kernel)) (va_Nw.use rfl (Tb_c1 hTb)) hcell hv hcl ?_
    refine W.eq (g2 := F0 m 12 ls [.ref q9]) rfl ?_
    have hP : va_P (dC, dI) vwCl [] H := fun k q h => by simp at h
    have hD : va_D A [] := ⟨fun i j p q h => by simp at h, fun k q h => by simp at h⟩
    have hK := hK.sub (tys' := []) [] rfl
    refine lv_astore_n (lv' := [(3, .ref q9), (0, .ref h0), (1, .int k1), (2, .ref o0)]) hx hb dL_text_12 rfl hl (by decide) rfl (fun ls hl => ?_)
    refine lv_iconst (v := 1) hx hb dL_text_13 (by decide) ?_
    refine W.widen (k := 1) (n := 6) (Nat.le_of_ble_eq_true rfl) (Nat.le_of_ble_eq_true rfl) ?_
    exact W.iret (v := 1) hx hb hr (fun t ht hW => ⟨⟨_, (), rfl, rfl, trivial⟩, hS.F ht⟩) hS.2.2 dL_text_14
  · exact hw.elim

set_option maxHeartbeats 4000000 in
set_option maxRecDepth 100000 in
/-- c_L_ofAlgebra -/
theorem c_L_ofAlgebra (l : Launch) (hst : l.stackTraces = false) (dC : Nat → ClassId) (dI : Nat → Nat → Nat) (dE : Nat) (h0 : Nat) (a1 : Nat) (a2 : Nat) (w1 : Nat) (p1 : Nat) (o1 : Nat) (cA1 : ClassId) (cA2 : ClassId) (k1 : Int32) (k2 : Int32) (o0 : Nat) (sz : Nat) : Met l yL_ofAlgebra wsL_ofAlgebra ({ frames := 10, cells := 1, slots := 6, locals := 165 }) (va_Pc [.ref h0, .int k1, .int k2, .ref o0] (PB dC dI dE [(cA1, .object RX0), (cA2, .object RX1)] [(h0, .inr (9, [.int 7, .ref a1, .int 0, .ref a2, .int 0, .int 0, .ref w1, .ref p1, .ref o1])), (a1, .inl (cA1, 4, .inr (.inr (.inr (.inr (fun _ => none)))))), (a2, .inl (cA2, 10, .inr (.inr (.inr (.inr (fun _ => none))))))] sz)) (va_Qi (fun (r : Int32) (_ : Unit) => r = 1) (fun (_ : Unit) (_ : State) => True) (va_A [(h0, .inr (9, [.int 7, .ref a1, .int 0, .ref a2, .int 0, .int 0, .ref w1, .ref p1, .ref o1])), (a1, .inl (cA1, 4, .inr (.inr (.inr (.inr (fun _ => none)))))), (a2, .inl (cA2, 10, .inr (.inr (.inr (.inr (fun _ => none))))))] sz)) 1 6 (va_A [(h0, .inr (9, [.int 7, .ref a1, .int 0, .ref a2, .int 0, .int 0, .ref w1, .ref p1, .ref o1])), (a1, .inl (cA1, 4, .inr (.inr (.inr (.inr (fun _ => none)))))), (a2, .inl (cA2, 10, .inr (.inr (.inr (.inr (fun _ => none))))))] sz) := by
  refine va_MetW (cc := cL_ofAlgebra) (maxL := 5) (ret := (some .int)) (hh := [(0, 11, 14, 30), (0, 11, 18, 19)]) (by decide) rfl ?_
  intro p e s m args below meth c s₁ B hml hv
  obtain ⟨rfl, hsz, hP, hK, hD0, hTb, hZ⟩ := hv
  have hx := B.exec
  have hb := B.bytes
  have hr := B.returns
  have hts := atoms_spec (ws := wsL_ofAlgebra) B.pre
  have hown : s.vm.findClass RL = some m.cls := findClass_of_methodNamed B.named
  have hlocks := B.notSynchronized
  have hex := vx_table (x := yL_ofAlgebra) B (hts _ List.mem_cons_self)
  subst hsz
  have hD := hD0.self (sz := s.heap.size)
  generalize hAe : va_A [(h0, .inr (9, [.int 7, .ref a1, .int 0, .ref a2, .int 0, .int 0, .ref w1, .ref p1, .ref o1])), (a1, .inl (cA1, 4, .inr (.inr (.inr (.inr (fun _ => none)))))), (a2, .inl (cA2, 10, .inr (.inr (.inr (.inr (fun _ => none))))))] s.heap.size = A at hD hZ ⊢
  have hA : ∀ q : Nat, s.heap.size ≤ q → A q := fun q h => by rw [← hAe]; exact Or.inr h
  have hS : va_S A s.heap s.heap [] := va_S.rf
  have hP : va_P (dC, dI) vwCl [(h0, .inr (9, [.int 7, .ref a1, .int 0, .ref a2, .int 0, .int 0, .ref w1, .ref p1, .ref o1])), (a1, .inl (cA1, 4, .inr (.inr (.inr (.inr (fun _ => none)))))), (a2, .inl (cA2, 10, .inr (.inr (.inr (.inr (fun _ => none))))))] s.heap := hP
  have hl := lv_entry ([.ref h0, .int k1, .int k2, .ref o0]) (n := 5) (Nat.le_of_ble_eq_true rfl)
  rw [lg_entry_eq]
  generalize (lg_sl ([.ref h0, .int k1, .int k2, .ref o0]) ++ List.replicate (5 - (lg_sl ([.ref h0, .int k1, .int k2, .ref o0])).length) Slot.unset).toArray = ls at hl ⊢
  have hl : lv_has ls 5 [(0, .ref h0), (1, .int k1), (2, .int k2), (3, .ref o0)] := hl
  obtain ⟨H, eH⟩ : ∃ z, z = s.heap := ⟨_, rfl⟩
  rw [← eH] at hP ⊢
  have hS : va_S A s.heap H [] := by rw [eH]; exact va_S.rf
  refine lv_aload_n hx hb dL_ofAlgebra_0 rfl (lv_at hl 3 rfl) ?_
  refine lv_aload_n hx hb dL_ofAlgebra_1 rfl (lv_at hl 0 rfl) ?_
  refine lv_iload_n hx hb dL_ofAlgebra_2 rfl (lv_at hl 1 rfl) ?_
  refine lv_iload_n hx hb dL_ofAlgebra_3 rfl (lv_at hl 2 rfl) ?_
  have hPc := hP.sub (ws' := [(h0, .inr (9, [.int 7, .ref a1, .int 0, .ref a2, .int 0, .int 0, .ref w1, .ref p1, .ref o1])), (a1, .inl (cA1, 4, .inr (.inr (.inr (.inr (fun _ => none)))))), (a2, .inl (cA2, 10, .inr (.inr (.inr (.inr (fun _ => none))))))]) [0, 1, 2] rfl
  have hDc := hD.sub (ws' := [(h0, .inr (9, [.int 7, .ref a1, .int 0, .ref a2, .int 0, .int 0, .ref w1, .ref p1, .ref o1])), (a1, .inl (cA1, 4, .inr (.inr (.inr (.inr (fun _ => none)))))), (a2, .inl (cA2, 10, .inr (.inr (.inr (.inr (fun _ => none))))))]) [0, 1, 2] (by decide) rfl
  have hKc := hK.sub (tys' := [(cA1, .object RX0), (cA2, .object RX1)]) [0, 1] rfl
  have hFc := va_free (wc := [(h0, .inr (9, [.int 7, .ref a1, .int 0, .ref a2, .int 0, .int 0, .ref w1, .ref p1, .ref o1])), (a1, .inl (cA1, 4, .inr (.inr (.inr (.inr (fun _ => none)))))), (a2, .inl (cA2, 10, .inr (.inr (.inr (.inr (fun _ => none))))))]) hD hS hA [0, 1, 2] rfl
  refine vx_calli (vx_runV (As := [.int k1, .int k2]) (rest := [.ref o0]) ⟨hx, hb, hml, hown, hts⟩ (c_ofAlgebra l hst dC dI dE h0 a1 a2 w1 p1 o1 cA1 cA2 k1 k2 H.size) (cwV 2 hts gL_ofAlgebra_X6_ofAlgebra rfl rfl rfl (by decide +kernel) ⟨Nat.le_of_ble_eq_true rfl, Nat.le_of_ble_eq_true rfl⟩) ⟨fun a U g mk q => ⟨q.1, PB.blind q.2⟩, va_recv hKc hPc (ci := 9) (q0 := 0) rfl rfl, fun U hU hW => ⟨rfl, PB.call hPc hKc hDc hTb hZ hS hFc hU hW⟩⟩ rfl rfl hl.1 rfl (lv_room (Nat.le_of_ble_eq_true rfl)) dL_ofAlgebra_4 ⟨Nat.le_of_ble_eq_true rfl, Nat.le_of_ble_eq_true rfl⟩) hS (fun q _ h => hFc q h) hFc (fun q _ h => hFc q h) (fun E ce q9 u t H locs ht hvm hpx hBX hz1 hk1 hS hcell hv hcl => ?_) (fun r u t H locs ht hvm hw hB hz1 hk1 hS => ?_)
  · subst hBX
    refine vx_catch hown [] (⟨0, 11, 14, 30⟩ : ExceptionTableEntry) [⟨0, 11, 18, 19⟩] hex (fun z h => nomatch h) (by decide +kernel) (by decide +kernel) (name := "java/lang/IndexOutOfBoundsException") (hts (.classLink RL 30 "java/lang/IndexOutOfBoundsException") (by decide +kernel)) (va_Nw.use rfl (Tb_c1 hTb)) hcell hv hcl ?_
    refine W.eq (g2 := F0 m 14 ls [.ref q9]) rfl ?_
    have hP : va_P (dC, dI) vwCl [] H := fun k q h => by simp at h
    have hD : va_D A [] := ⟨fun i j p q h => by simp at h, fun k q h => by simp at h⟩
    have hK := hK.sub (tys' := []) [] rfl
    refine lv_astore (lv' := [(4, .ref q9), (0, .ref h0), (1, .int k1), (2, .int k2), (3, .ref o0)]) hx hb dL_ofAlgebra_14 hl (by decide) rfl (fun ls hl => ?_)
    refine lv_iconst (v := 1) hx hb dL_ofAlgebra_16 (by decide) ?_
    refine W.widen (k := 1) (n := 6) (Nat.le_of_ble_eq_true rfl) (Nat.le_of_ble_eq_true rfl) ?_
    exact W.iret (v := 1) hx hb hr (fun t ht hW => ⟨⟨_, (), rfl, rfl, trivial⟩, hS.F ht⟩) hS.2.2 dL_ofAlgebra_17
  · exact hw.elim

set_option maxHeartbeats 4000000 in
set_option maxRecDepth 100000 in
/-- c_L_sign -/
theorem c_L_sign (l : Launch) (hst : l.stackTraces = false) (dC : Nat → ClassId) (dI : Nat → Nat → Nat) (dE : Nat) (h0 : Nat) (a1 : Nat) (a2 : Nat) (w1 : Nat) (p1 : Nat) (o1 : Nat) (cA1 : ClassId) (cA2 : ClassId) (k1 : Int32) (k2 : Int32) (k3 : Int32) (o0 : Nat) (sz : Nat) : Met l yL_sign wsL_sign ({ frames := 10, cells := 1, slots := 6, locals := 166 }) (va_Pc [.ref h0, .int k1, .int k2, .int k3, .ref o0] (PB dC dI dE [(cA1, .object RX0), (cA2, .object RX1)] [(h0, .inr (9, [.int 7, .ref a1, .int 0, .ref a2, .int 0, .int 0, .ref w1, .ref p1, .ref o1])), (a1, .inl (cA1, 4, .inr (.inr (.inr (.inr (fun _ => none)))))), (a2, .inl (cA2, 10, .inr (.inr (.inr (.inr (fun _ => none))))))] sz)) (va_Qi (fun (r : Int32) (_ : Unit) => r = 1) (fun (_ : Unit) (_ : State) => True) (va_A [(h0, .inr (9, [.int 7, .ref a1, .int 0, .ref a2, .int 0, .int 0, .ref w1, .ref p1, .ref o1])), (a1, .inl (cA1, 4, .inr (.inr (.inr (.inr (fun _ => none)))))), (a2, .inl (cA2, 10, .inr (.inr (.inr (.inr (fun _ => none))))))] sz)) 1 6 (va_A [(h0, .inr (9, [.int 7, .ref a1, .int 0, .ref a2, .int 0, .int 0, .ref w1, .ref p1, .ref o1])), (a1, .inl (cA1, 4, .inr (.inr (.inr (.inr (fun _ => none)))))), (a2, .inl (cA2, 10, .inr (.inr (.inr (.inr (fun _ => none))))))] sz) := by
  refine va_MetW (cc := cL_sign) (maxL := 6) (ret := (some .int)) (hh := [(0, 13, 16, 30)]) (by decide) rfl ?_
  intro p e s m args below meth c s₁ B hml hv
  obtain ⟨rfl, hsz, hP, hK, hD0, hTb, hZ⟩ := hv
  have hx := B.exec
  have hb := B.bytes
  have hr := B.returns
  have hts := atoms_spec (ws := wsL_sign) B.pre
  have hown : s.vm.findClass RL = some m.cls := findClass_of_methodNamed B.named
  have hlocks := B.notSynchronized
  have hex := vx_table (x := yL_sign) B (hts _ List.mem_cons_self)
  subst hsz
  have hD := hD0.self (sz := s.heap.size)
  generalize hAe : va_A [(h0, .inr (9, [.int 7, .ref a1, .int 0, .ref a2, .int 0, .int 0, .ref w1, .ref p1, .ref o1])), (a1, .inl (cA1, 4, .inr (.inr (.inr (.inr (fun _ => none)))))), (a2, .inl (cA2, 10, .inr (.inr (.inr (.inr (fun _ => none))))))] s.heap.size = A at hD hZ ⊢
  have hA : ∀ q : Nat, s.heap.size ≤ q → A q := fun q h => by rw [← hAe]; exact Or.inr h
  have hS : va_S A s.heap s.heap [] := va_S.rf
  have hP : va_P (dC, dI) vwCl [(h0, .inr (9, [.int 7, .ref a1, .int 0, .ref a2, .int 0, .int 0, .ref w1, .ref p1, .ref o1])), (a1, .inl (cA1, 4, .inr (.inr (.inr (.inr (fun _ => none)))))), (a2, .inl (cA2, 10, .inr (.inr (.inr (.inr (fun _ => none))))))] s.heap := hP
  have hl := lv_entry ([.ref h0, .int k1, .int k2, .int k3, .ref o0]) (n := 6) (Nat.le_of_ble_eq_true rfl)
  rw [lg_entry_eq]
  generalize (lg_sl ([.ref h0, .int k1, .int k2, .int k3, .ref o0]) ++ List.replicate (6 - (lg_sl ([.ref h0, .int k1, .int k2, .int k3, .ref o0])).length) Slot.unset).toArray = ls at hl ⊢
  have hl : lv_has ls 6 [(0, .ref h0), (1, .int k1), (2, .int k2), (3, .int k3), (4, .ref o0)] := hl
  obtain ⟨H, eH⟩ : ∃ z, z = s.heap := ⟨_, rfl⟩
  rw [← eH] at hP ⊢
  have hS : va_S A s.heap H [] := by rw [eH]; exact va_S.rf
  refine lv_aload hx hb dL_sign_0 (lv_at hl 4 rfl) ?_
  refine lv_aload_n hx hb dL_sign_2 rfl (lv_at hl 0 rfl) ?_
  refine lv_iload_n hx hb dL_sign_3 rfl (lv_at hl 1 rfl) ?_
  refine lv_iload_n hx hb dL_sign_4 rfl (lv_at hl 2 rfl) ?_
  refine lv_iload_n hx hb dL_sign_5 rfl (lv_at hl 3 rfl) ?_
  have hPc := hP.sub (ws' := [(h0, .inr (9, [.int 7, .ref a1, .int 0, .ref a2, .int 0, .int 0, .ref w1, .ref p1, .ref o1])), (a1, .inl (cA1, 4, .inr (.inr (.inr (.inr (fun _ => none)))))), (a2, .inl (cA2, 10, .inr (.inr (.inr (.inr (fun _ => none))))))]) [0, 1, 2] rfl
  have hDc := hD.sub (ws' := [(h0, .inr (9, [.int 7, .ref a1, .int 0, .ref a2, .int 0, .int 0, .ref w1, .ref p1, .ref o1])), (a1, .inl (cA1, 4, .inr (.inr (.inr (.inr (fun _ => none)))))), (a2, .inl (cA2, 10, .inr (.inr (.inr (.inr (fun _ => none))))))]) [0, 1, 2] (by decide) rfl
  have hKc := hK.sub (tys' := [(cA1, .object RX0), (cA2, .object RX1)]) [0, 1] rfl
  have hFc := va_free (wc := [(h0, .inr (9, [.int 7, .ref a1, .int 0, .ref a2, .int 0, .int 0, .ref w1, .ref p1, .ref o1])), (a1, .inl (cA1, 4, .inr (.inr (.inr (.inr (fun _ => none)))))), (a2, .inl (cA2, 10, .inr (.inr (.inr (.inr (fun _ => none))))))]) hD hS hA [0, 1, 2] rfl
  refine vx_calli (vx_runV (As := [.int k1, .int k2, .int k3]) (rest := [.ref o0]) ⟨hx, hb, hml, hown, hts⟩ (c_sign l hst dC dI dE h0 a1 a2 w1 p1 o1 cA1 cA2 k1 k2 k3 H.size) (cwV 3 hts gL_sign_X6_sign rfl rfl rfl (by decide +kernel) ⟨Nat.le_of_ble_eq_true rfl, Nat.le_of_ble_eq_true rfl⟩) ⟨fun a U g mk q => ⟨q.1, PB.blind q.2⟩, va_recv hKc hPc (ci := 9) (q0 := 0) rfl rfl, fun U hU hW => ⟨rfl, PB.call hPc hKc hDc hTb hZ hS hFc hU hW⟩⟩ rfl rfl hl.1 rfl (lv_room (Nat.le_of_ble_eq_true rfl)) dL_sign_6 ⟨Nat.le_of_ble_eq_true rfl, Nat.le_of_ble_eq_true rfl⟩) hS (fun q _ h => hFc q h) hFc (fun q _ h => hFc q h) (fun E ce q9 u t H locs ht hvm hpx hBX hz1 hk1 hS hcell hv hcl => ?_) (fun r u t H locs ht hvm hw hB hz1 hk1 hS => ?_)
  · subst hBX
    refine vx_catch hown [] (⟨0, 13, 16, 30⟩ : ExceptionTableEntry) [] hex (fun z h => nomatch h) (by decide +kernel) (by decide +kernel) (name := "java/lang/IndexOutOfBoundsException") (hts (.classLink RL 30 "java/lang/IndexOutOfBoundsException") (by decide +kernel)) (va_Nw.use rfl (Tb_c1 hTb)) hcell hv hcl ?_
    refine W.eq (g2 := F0 m 16 ls [.ref q9]) rfl ?_
    have hP : va_P (dC, dI) vwCl [] H := fun k q h => by simp at h
    have hD : va_D A [] := ⟨fun i j p q h => by simp at h, fun k q h => by simp at h⟩
    have hK := hK.sub (tys' := []) [] rfl
    refine lv_astore (lv' := [(5, .ref q9), (0, .ref h0), (1, .int k1), (2, .int k2), (3, .int k3), (4, .ref o0)]) hx hb dL_sign_16 hl (by decide) rfl (fun ls hl => ?_)
    refine lv_iconst (v := 1) hx hb dL_sign_18 (by decide) ?_
    refine W.widen (k := 1) (n := 6) (Nat.le_of_ble_eq_true rfl) (Nat.le_of_ble_eq_true rfl) ?_
    exact W.iret (v := 1) hx hb hr (fun t ht hW => ⟨⟨_, (), rfl, rfl, trivial⟩, hS.F ht⟩) hS.2.2 dL_sign_19
  · exact hw.elim

set_option maxHeartbeats 4000000 in
set_option maxRecDepth 100000 in
/-- c_L_breaks -/
theorem c_L_breaks (l : Launch) (hst : l.stackTraces = false) (dC : Nat → ClassId) (dI : Nat → Nat → Nat) (dE : Nat) (h0 : Nat) (a1 : Nat) (a2 : Nat) (w1 : Nat) (p1 : Nat) (o1 : Nat) (cA1 : ClassId) (cA2 : ClassId) (k1 : Int32) (k2 : Int32) (o0 : Nat) (sz : Nat) : Met l yL_breaks wsL_breaks ({ frames := 10, cells := 1, slots := 6, locals := 165 }) (va_Pc [.ref h0, .int k1, .int k2, .ref o0] (PB dC dI dE [(cA1, .object RX0), (cA2, .object RX1)] [(h0, .inr (9, [.int 7, .ref a1, .int 0, .ref a2, .int 0, .int 0, .ref w1, .ref p1, .ref o1])), (a1, .inl (cA1, 4, .inr (.inr (.inr (.inr (fun _ => none)))))), (a2, .inl (cA2, 10, .inr (.inr (.inr (.inr (fun _ => none))))))] sz)) (va_Qi (fun (r : Int32) (_ : Unit) => r = 1) (fun (_ : Unit) (_ : State) => True) (va_A [(h0, .inr (9, [.int 7, .ref a1, .int 0, .ref a2, .int 0, .int 0, .ref w1, .ref p1, .ref o1])), (a1, .inl (cA1, 4, .inr (.inr (.inr (.inr (fun _ => none)))))), (a2, .inl (cA2, 10, .inr (.inr (.inr (.inr (fun _ => none))))))] sz)) 1 6 (va_A [(h0, .inr (9, [.int 7, .ref a1, .int 0, .ref a2, .int 0, .int 0, .ref w1, .ref p1, .ref o1])), (a1, .inl (cA1, 4, .inr (.inr (.inr (.inr (fun _ => none)))))), (a2, .inl (cA2, 10, .inr (.inr (.inr (.inr (fun _ => none))))))] sz) := by
  refine va_MetW (cc := cL_breaks) (maxL := 5) (ret := (some .int)) (hh := [(0, 11, 14, 30)]) (by decide) rfl ?_
  intro p e s m args below meth c s₁ B hml hv
  obtain ⟨rfl, hsz, hP, hK, hD0, hTb, hZ⟩ := hv
  have hx := B.exec
  have hb := B.bytes
  have hr := B.returns
  have hts := atoms_spec (ws := wsL_breaks) B.pre
  have hown : s.vm.findClass RL = some m.cls := findClass_of_methodNamed B.named
  have hlocks := B.notSynchronized
  have hex := vx_table (x := yL_breaks) B (hts _ List.mem_cons_self)
  subst hsz
  have hD := hD0.self (sz := s.heap.size)
  generalize hAe : va_A [(h0, .inr (9, [.int 7, .ref a1, .int 0, .ref a2, .int 0, .int 0, .ref w1, .ref p1, .ref o1])), (a1, .inl (cA1, 4, .inr (.inr (.inr (.inr (fun _ => none)))))), (a2, .inl (cA2, 10, .inr (.inr (.inr (.inr (fun _ => none))))))] s.heap.size = A at hD hZ ⊢
  have hA : ∀ q : Nat, s.heap.size ≤ q → A q := fun q h => by rw [← hAe]; exact Or.inr h
  have hS : va_S A s.heap s.heap [] := va_S.rf
  have hP : va_P (dC, dI) vwCl [(h0, .inr (9, [.int 7, .ref a1, .int 0, .ref a2, .int 0, .int 0, .ref w1, .ref p1, .ref o1])), (a1, .inl (cA1, 4, .inr (.inr (.inr (.inr (fun _ => none)))))), (a2, .inl (cA2, 10, .inr (.inr (.inr (.inr (fun _ => none))))))] s.heap := hP
  have hl := lv_entry ([.ref h0, .int k1, .int k2, .ref o0]) (n := 5) (Nat.le_of_ble_eq_true rfl)
  rw [lg_entry_eq]
  generalize (lg_sl ([.ref h0, .int k1, .int k2, .ref o0]) ++ List.replicate (5 - (lg_sl ([.ref h0, .int k1, .int k2, .ref o0])).length) Slot.unset).toArray = ls at hl ⊢
  have hl : lv_has ls 5 [(0, .ref h0), (1, .int k1), (2, .int k2), (3, .ref o0)] := hl
  obtain ⟨H, eH⟩ : ∃ z, z = s.heap := ⟨_, rfl⟩
  rw [← eH] at hP ⊢
  have hS : va_S A s.heap H [] := by rw [eH]; exact va_S.rf
  refine lv_aload_n hx hb dL_breaks_0 rfl (lv_at hl 3 rfl) ?_
  refine lv_aload_n hx hb dL_breaks_1 rfl (lv_at hl 0 rfl) ?_
  refine lv_iload_n hx hb dL_breaks_2 rfl (lv_at hl 1 rfl) ?_
  refine lv_iload_n hx hb dL_breaks_3 rfl (lv_at hl 2 rfl) ?_
  have hPc := hP.sub (ws' := [(h0, .inr (9, [.int 7, .ref a1, .int 0, .ref a2, .int 0, .int 0, .ref w1, .ref p1, .ref o1])), (a1, .inl (cA1, 4, .inr (.inr (.inr (.inr (fun _ => none)))))), (a2, .inl (cA2, 10, .inr (.inr (.inr (.inr (fun _ => none))))))]) [0, 1, 2] rfl
  have hDc := hD.sub (ws' := [(h0, .inr (9, [.int 7, .ref a1, .int 0, .ref a2, .int 0, .int 0, .ref w1, .ref p1, .ref o1])), (a1, .inl (cA1, 4, .inr (.inr (.inr (.inr (fun _ => none)))))), (a2, .inl (cA2, 10, .inr (.inr (.inr (.inr (fun _ => none))))))]) [0, 1, 2] (by decide) rfl
  have hKc := hK.sub (tys' := [(cA1, .object RX0), (cA2, .object RX1)]) [0, 1] rfl
  have hFc := va_free (wc := [(h0, .inr (9, [.int 7, .ref a1, .int 0, .ref a2, .int 0, .int 0, .ref w1, .ref p1, .ref o1])), (a1, .inl (cA1, 4, .inr (.inr (.inr (.inr (fun _ => none)))))), (a2, .inl (cA2, 10, .inr (.inr (.inr (.inr (fun _ => none))))))]) hD hS hA [0, 1, 2] rfl
  refine vx_calli (vx_runV (As := [.int k1, .int k2]) (rest := [.ref o0]) ⟨hx, hb, hml, hown, hts⟩ (c_breaks l hst dC dI dE h0 a1 a2 w1 p1 o1 cA1 cA2 k1 k2 H.size) (cwV 2 hts gL_breaks_X6_breaks rfl rfl rfl (by decide +kernel) ⟨Nat.le_of_ble_eq_true rfl, Nat.le_of_ble_eq_true rfl⟩) ⟨fun a U g mk q => ⟨q.1, PB.blind q.2⟩, va_recv hKc hPc (ci := 9) (q0 := 0) rfl rfl, fun U hU hW => ⟨rfl, PB.call hPc hKc hDc hTb hZ hS hFc hU hW⟩⟩ rfl rfl hl.1 rfl (lv_room (Nat.le_of_ble_eq_true rfl)) dL_breaks_4 ⟨Nat.le_of_ble_eq_true rfl, Nat.le_of_ble_eq_true rfl⟩) hS (fun q _ h => hFc q h) hFc (fun q _ h => hFc q h) (fun E ce q9 u t H locs ht hvm hpx hBX hz1 hk1 hS hcell hv hcl => ?_) (fun r u t H locs ht hvm hw hB hz1 hk1 hS => ?_)
  · subst hBX
    refine vx_catch hown [] (⟨0, 11, 14, 30⟩ : ExceptionTableEntry) [] hex (fun z h => nomatch h) (by decide +kernel) (by decide +kernel) (name := "java/lang/IndexOutOfBoundsException") (hts (.classLink RL 30 "java/lang/IndexOutOfBoundsException") (by decide +kernel)) (va_Nw.use rfl (Tb_c1 hTb)) hcell hv hcl ?_
    refine W.eq (g2 := F0 m 14 ls [.ref q9]) rfl ?_
    have hP : va_P (dC, dI) vwCl [] H := fun k q h => by simp at h
    have hD : va_D A [] := ⟨fun i j p q h => by simp at h, fun k q h => by simp at h⟩
    have hK := hK.sub (tys' := []) [] rfl
    refine lv_astore (lv' := [(4, .ref q9), (0, .ref h0), (1, .int k1), (2, .int k2), (3, .ref o0)]) hx hb dL_breaks_14 hl (by decide) rfl (fun ls hl => ?_)
    refine lv_iconst (v := 1) hx hb dL_breaks_16 (by decide) ?_
    refine W.widen (k := 1) (n := 6) (Nat.le_of_ble_eq_true rfl) (Nat.le_of_ble_eq_true rfl) ?_
    exact W.iret (v := 1) hx hb hr (fun t ht hW => ⟨⟨_, (), rfl, rfl, trivial⟩, hS.F ht⟩) hS.2.2 dL_breaks_17
  · exact hw.elim

set_option maxHeartbeats 4000000 in
set_option maxRecDepth 100000 in
/-- c_L_lean -/
theorem c_L_lean (l : Launch) (hst : l.stackTraces = false) (dC : Nat → ClassId) (dI : Nat → Nat → Nat) (dE : Nat) (h0 : Nat) (a1 : Nat) (a2 : Nat) (w1 : Nat) (p1 : Nat) (o1 : Nat) (cA1 : ClassId) (cA2 : ClassId) (k1 : Int32) (o0 : Nat) (sz : Nat) : Met l yL_lean wsL_lean ({ frames := 10, cells := 1, slots := 6, locals := 163 }) (va_Pc [.ref h0, .int k1, .ref o0] (PB dC dI dE [(cA1, .object RX0), (cA2, .object RX1)] [(h0, .inr (9, [.int 7, .ref a1, .int 0, .ref a2, .int 0, .int 0, .ref w1, .ref p1, .ref o1])), (a1, .inl (cA1, 4, .inr (.inr (.inr (.inr (fun _ => none)))))), (a2, .inl (cA2, 10, .inr (.inr (.inr (.inr (fun _ => none))))))] sz)) (va_Qi (fun (r : Int32) (_ : Unit) => r = 1) (fun (_ : Unit) (_ : State) => True) (va_A [(h0, .inr (9, [.int 7, .ref a1, .int 0, .ref a2, .int 0, .int 0, .ref w1, .ref p1, .ref o1])), (a1, .inl (cA1, 4, .inr (.inr (.inr (.inr (fun _ => none)))))), (a2, .inl (cA2, 10, .inr (.inr (.inr (.inr (fun _ => none))))))] sz)) 1 6 (va_A [(h0, .inr (9, [.int 7, .ref a1, .int 0, .ref a2, .int 0, .int 0, .ref w1, .ref p1, .ref o1])), (a1, .inl (cA1, 4, .inr (.inr (.inr (.inr (fun _ => none)))))), (a2, .inl (cA2, 10, .inr (.inr (.inr (.inr (fun _ => none))))))] sz) := by
  refine va_MetW (cc := cL_lean) (maxL := 4) (ret := (some .int)) (hh := [(0, 9, 12, 30)]) (by decide) rfl ?_
  intro p e s m args below meth c s₁ B hml hv
  obtain ⟨rfl, hsz, hP, hK, hD0, hTb, hZ⟩ := hv
  have hx := B.exec
  have hb := B.bytes
  have hr := B.returns
  have hts := atoms_spec (ws := wsL_lean) B.pre
  have hown : s.vm.findClass RL = some m.cls := findClass_of_methodNamed B.named
  have hlocks := B.notSynchronized
  have hex := vx_table (x := yL_lean) B (hts _ List.mem_cons_self)
  subst hsz
  have hD := hD0.self (sz := s.heap.size)
  generalize hAe : va_A [(h0, .inr (9, [.int 7, .ref a1, .int 0, .ref a2, .int 0, .int 0, .ref w1, .ref p1, .ref o1])), (a1, .inl (cA1, 4, .inr (.inr (.inr (.inr (fun _ => none)))))), (a2, .inl (cA2, 10, .inr (.inr (.inr (.inr (fun _ => none))))))] s.heap.size = A at hD hZ ⊢
  have hA : ∀ q : Nat, s.heap.size ≤ q → A q := fun q h => by rw [← hAe]; exact Or.inr h
  have hS : va_S A s.heap s.heap [] := va_S.rf
  have hP : va_P (dC, dI) vwCl [(h0, .inr (9, [.int 7, .ref a1, .int 0, .ref a2, .int 0, .int 0, .ref w1, .ref p1, .ref o1])), (a1, .inl (cA1, 4, .inr (.inr (.inr (.inr (fun _ => none)))))), (a2, .inl (cA2, 10, .inr (.inr (.inr (.inr (fun _ => none))))))] s.heap := hP
  have hl := lv_entry ([.ref h0, .int k1, .ref o0]) (n := 4) (Nat.le_of_ble_eq_true rfl)
  rw [lg_entry_eq]
  generalize (lg_sl ([.ref h0, .int k1, .ref o0]) ++ List.replicate (4 - (lg_sl ([.ref h0, .int k1, .ref o0])).length) Slot.unset).toArray = ls at hl ⊢
  have hl : lv_has ls 4 [(0, .ref h0), (1, .int k1), (2, .ref o0)] := hl
  obtain ⟨H, eH⟩ : ∃ z, z = s.heap := ⟨_, rfl⟩
  rw [← eH] at hP ⊢
  have hS : va_S A s.heap H [] := by rw [eH]; exact va_S.rf
  refine lv_aload_n hx hb dL_lean_0 rfl (lv_at hl 2 rfl) ?_
  refine lv_aload_n hx hb dL_lean_1 rfl (lv_at hl 0 rfl) ?_
  refine lv_iload_n hx hb dL_lean_2 rfl (lv_at hl 1 rfl) ?_
  have hPc := hP.sub (ws' := [(h0, .inr (9, [.int 7, .ref a1, .int 0, .ref a2, .int 0, .int 0, .ref w1, .ref p1, .ref o1])), (a1, .inl (cA1, 4, .inr (.inr (.inr (.inr (fun _ => none)))))), (a2, .inl (cA2, 10, .inr (.inr (.inr (.inr (fun _ => none))))))]) [0, 1, 2] rfl
  have hDc := hD.sub (ws' := [(h0, .inr (9, [.int 7, .ref a1, .int 0, .ref a2, .int 0, .int 0, .ref w1, .ref p1, .ref o1])), (a1, .inl (cA1, 4, .inr (.inr (.inr (.inr (fun _ => none)))))), (a2, .inl (cA2, 10, .inr (.inr (.inr (.inr (fun _ => none))))))]) [0, 1, 2] (by decide) rfl
  have hKc := hK.sub (tys' := [(cA1, .object RX0), (cA2, .object RX1)]) [0, 1] rfl
  have hFc := va_free (wc := [(h0, .inr (9, [.int 7, .ref a1, .int 0, .ref a2, .int 0, .int 0, .ref w1, .ref p1, .ref o1])), (a1, .inl (cA1, 4, .inr (.inr (.inr (.inr (fun _ => none)))))), (a2, .inl (cA2, 10, .inr (.inr (.inr (.inr (fun _ => none))))))]) hD hS hA [0, 1, 2] rfl
  refine vx_calld (vx_runV (As := [.int k1]) (rest := [.ref o0]) ⟨hx, hb, hml, hown, hts⟩ (c_lean l hst dC dI dE h0 a1 a2 w1 p1 o1 cA1 cA2 k1 H.size) (cwV 1 hts gL_lean_X6_lean rfl rfl rfl (by decide +kernel) ⟨Nat.le_of_ble_eq_true rfl, Nat.le_of_ble_eq_true rfl⟩) ⟨fun a U g mk q => ⟨q.1, PB.blind q.2⟩, va_recv hKc hPc (ci := 9) (q0 := 0) rfl rfl, fun U hU hW => ⟨rfl, PB.call hPc hKc hDc hTb hZ hS hFc hU hW⟩⟩ rfl rfl hl.1 rfl (lv_room (Nat.le_of_ble_eq_true rfl)) dL_lean_3 ⟨Nat.le_of_ble_eq_true rfl, Nat.le_of_ble_eq_true rfl⟩) hS (fun q _ h => hFc q h) hFc (fun q _ h => hFc q h) (fun E ce q9 u t H locs ht hvm hpx hBX hz1 hk1 hS hcell hv hcl => ?_) (fun r u t H locs ht hvm hw hB hz1 hk1 hS => ?_)
  · subst hBX
    refine vx_catch hown [] (⟨0, 9, 12, 30⟩ : ExceptionTableEntry) [] hex (fun z h => nomatch h) (by decide +kernel) (by decide +kernel) (name := "java/lang/IndexOutOfBoundsException") (hts (.classLink RL 30 "java/lang/IndexOutOfBoundsException") (by decide +kernel)) (va_Nw.use rfl (Tb_c1 hTb)) hcell hv hcl ?_
    refine W.eq (g2 := F0 m 12 ls [.ref q9]) rfl ?_
    have hP : va_P (dC, dI) vwCl [] H := fun k q h => by simp at h
    have hD : va_D A [] := ⟨fun i j p q h => by simp at h, fun k q h => by simp at h⟩
    have hK := hK.sub (tys' := []) [] rfl
    refine lv_astore_n (lv' := [(3, .ref q9), (0, .ref h0), (1, .int k1), (2, .ref o0)]) hx hb dL_lean_12 rfl hl (by decide) rfl (fun ls hl => ?_)
    refine lv_iconst (v := 1) hx hb dL_lean_13 (by decide) ?_
    refine W.widen (k := 1) (n := 6) (Nat.le_of_ble_eq_true rfl) (Nat.le_of_ble_eq_true rfl) ?_
    exact W.iret (v := 1) hx hb hr (fun t ht hW => ⟨⟨_, (), rfl, rfl, trivial⟩, hS.F ht⟩) hS.2.2 dL_lean_14
  · exact hw.elim

set_option maxHeartbeats 4000000 in
set_option maxRecDepth 100000 in
/-- c_L_apart -/
theorem c_L_apart (l : Launch) (hst : l.stackTraces = false) (dC : Nat → ClassId) (dI : Nat → Nat → Nat) (dE : Nat) (h0 : Nat) (a1 : Nat) (a2 : Nat) (w1 : Nat) (p1 : Nat) (o1 : Nat) (cA1 : ClassId) (cA2 : ClassId) (k1 : Int32) (k2 : Int32) (o0 : Nat) (sz : Nat) : Met l yL_apart wsL_apart ({ frames := 10, cells := 1, slots := 6, locals := 166 }) (va_Pc [.ref h0, .int k1, .int k2, .ref o0] (PB dC dI dE [(cA1, .object RX0), (cA2, .object RX1)] [(h0, .inr (9, [.int 7, .ref a1, .int 0, .ref a2, .int 0, .int 0, .ref w1, .ref p1, .ref o1])), (a1, .inl (cA1, 4, .inr (.inr (.inr (.inr (fun _ => none)))))), (a2, .inl (cA2, 10, .inr (.inr (.inr (.inr (fun _ => none))))))] sz)) (va_Qi (fun (r : Int32) (_ : Unit) => r = 1) (fun (_ : Unit) (_ : State) => True) (va_A [(h0, .inr (9, [.int 7, .ref a1, .int 0, .ref a2, .int 0, .int 0, .ref w1, .ref p1, .ref o1])), (a1, .inl (cA1, 4, .inr (.inr (.inr (.inr (fun _ => none)))))), (a2, .inl (cA2, 10, .inr (.inr (.inr (.inr (fun _ => none))))))] sz)) 1 6 (va_A [(h0, .inr (9, [.int 7, .ref a1, .int 0, .ref a2, .int 0, .int 0, .ref w1, .ref p1, .ref o1])), (a1, .inl (cA1, 4, .inr (.inr (.inr (.inr (fun _ => none)))))), (a2, .inl (cA2, 10, .inr (.inr (.inr (.inr (fun _ => none))))))] sz) := by
  refine va_MetW (cc := cL_apart) (maxL := 5) (ret := (some .int)) (hh := [(0, 11, 14, 30), (0, 11, 18, 19)]) (by decide) rfl ?_
  intro p e s m args below meth c s₁ B hml hv
  obtain ⟨rfl, hsz, hP, hK, hD0, hTb, hZ⟩ := hv
  have hx := B.exec
  have hb := B.bytes
  have hr := B.returns
  have hts := atoms_spec (ws := wsL_apart) B.pre
  have hown : s.vm.findClass RL = some m.cls := findClass_of_methodNamed B.named
  have hlocks := B.notSynchronized
  have hex := vx_table (x := yL_apart) B (hts _ List.mem_cons_self)
  subst hsz
  have hD := hD0.self (sz := s.heap.size)
  generalize hAe : va_A [(h0, .inr (9, [.int 7, .ref a1, .int 0, .ref a2, .int 0, .int 0, .ref w1, .ref p1, .ref o1])), (a1, .inl (cA1, 4, .inr (.inr (.inr (.inr (fun _ => none)))))), (a2, .inl (cA2, 10, .inr (.inr (.inr (.inr (fun _ => none))))))] s.heap.size = A at hD hZ ⊢
  have hA : ∀ q : Nat, s.heap.size ≤ q → A q := fun q h => by rw [← hAe]; exact Or.inr h
  have hS : va_S A s.heap s.heap [] := va_S.rf
  have hP : va_P (dC, dI) vwCl [(h0, .inr (9, [.int 7, .ref a1, .int 0, .ref a2, .int 0, .int 0, .ref w1, .ref p1, .ref o1])), (a1, .inl (cA1, 4, .inr (.inr (.inr (.inr (fun _ => none)))))), (a2, .inl (cA2, 10, .inr (.inr (.inr (.inr (fun _ => none))))))] s.heap := hP
  have hl := lv_entry ([.ref h0, .int k1, .int k2, .ref o0]) (n := 5) (Nat.le_of_ble_eq_true rfl)
  rw [lg_entry_eq]
  generalize (lg_sl ([.ref h0, .int k1, .int k2, .ref o0]) ++ List.replicate (5 - (lg_sl ([.ref h0, .int k1, .int k2, .ref o0])).length) Slot.unset).toArray = ls at hl ⊢
  have hl : lv_has ls 5 [(0, .ref h0), (1, .int k1), (2, .int k2), (3, .ref o0)] := hl
  obtain ⟨H, eH⟩ : ∃ z, z = s.heap := ⟨_, rfl⟩
  rw [← eH] at hP ⊢
  have hS : va_S A s.heap H [] := by rw [eH]; exact va_S.rf
  refine lv_aload_n hx hb dL_apart_0 rfl (lv_at hl 3 rfl) ?_
  refine lv_aload_n hx hb dL_apart_1 rfl (lv_at hl 0 rfl) ?_
  refine lv_iload_n hx hb dL_apart_2 rfl (lv_at hl 1 rfl) ?_
  refine lv_iload_n hx hb dL_apart_3 rfl (lv_at hl 2 rfl) ?_
  have hPc := hP.sub (ws' := [(h0, .inr (9, [.int 7, .ref a1, .int 0, .ref a2, .int 0, .int 0, .ref w1, .ref p1, .ref o1])), (a1, .inl (cA1, 4, .inr (.inr (.inr (.inr (fun _ => none)))))), (a2, .inl (cA2, 10, .inr (.inr (.inr (.inr (fun _ => none))))))]) [0, 1, 2] rfl
  have hDc := hD.sub (ws' := [(h0, .inr (9, [.int 7, .ref a1, .int 0, .ref a2, .int 0, .int 0, .ref w1, .ref p1, .ref o1])), (a1, .inl (cA1, 4, .inr (.inr (.inr (.inr (fun _ => none)))))), (a2, .inl (cA2, 10, .inr (.inr (.inr (.inr (fun _ => none))))))]) [0, 1, 2] (by decide) rfl
  have hKc := hK.sub (tys' := [(cA1, .object RX0), (cA2, .object RX1)]) [0, 1] rfl
  have hFc := va_free (wc := [(h0, .inr (9, [.int 7, .ref a1, .int 0, .ref a2, .int 0, .int 0, .ref w1, .ref p1, .ref o1])), (a1, .inl (cA1, 4, .inr (.inr (.inr (.inr (fun _ => none)))))), (a2, .inl (cA2, 10, .inr (.inr (.inr (.inr (fun _ => none))))))]) hD hS hA [0, 1, 2] rfl
  refine vx_calli (vx_runV (As := [.int k1, .int k2]) (rest := [.ref o0]) ⟨hx, hb, hml, hown, hts⟩ (c_apart l hst dC dI dE h0 a1 a2 w1 p1 o1 cA1 cA2 k1 k2 H.size) (cwV 2 hts gL_apart_X6_apart rfl rfl rfl (by decide +kernel) ⟨Nat.le_of_ble_eq_true rfl, Nat.le_of_ble_eq_true rfl⟩) ⟨fun a U g mk q => ⟨q.1, PB.blind q.2⟩, va_recv hKc hPc (ci := 9) (q0 := 0) rfl rfl, fun U hU hW => ⟨rfl, PB.call hPc hKc hDc hTb hZ hS hFc hU hW⟩⟩ rfl rfl hl.1 rfl (lv_room (Nat.le_of_ble_eq_true rfl)) dL_apart_4 ⟨Nat.le_of_ble_eq_true rfl, Nat.le_of_ble_eq_true rfl⟩) hS (fun q _ h => hFc q h) hFc (fun q _ h => hFc q h) (fun E ce q9 u t H locs ht hvm hpx hBX hz1 hk1 hS hcell hv hcl => ?_) (fun r u t H locs ht hvm hw hB hz1 hk1 hS => ?_)
  · subst hBX
    refine vx_catch hown [] (⟨0, 11, 14, 30⟩ : ExceptionTableEntry) [⟨0, 11, 18, 19⟩] hex (fun z h => nomatch h) (by decide +kernel) (by decide +kernel) (name := "java/lang/IndexOutOfBoundsException") (hts (.classLink RL 30 "java/lang/IndexOutOfBoundsException") (by decide +kernel)) (va_Nw.use rfl (Tb_c1 hTb)) hcell hv hcl ?_
    refine W.eq (g2 := F0 m 14 ls [.ref q9]) rfl ?_
    have hP : va_P (dC, dI) vwCl [] H := fun k q h => by simp at h
    have hD : va_D A [] := ⟨fun i j p q h => by simp at h, fun k q h => by simp at h⟩
    have hK := hK.sub (tys' := []) [] rfl
    refine lv_astore (lv' := [(4, .ref q9), (0, .ref h0), (1, .int k1), (2, .int k2), (3, .ref o0)]) hx hb dL_apart_14 hl (by decide) rfl (fun ls hl => ?_)
    refine lv_iconst (v := 1) hx hb dL_apart_16 (by decide) ?_
    refine W.widen (k := 1) (n := 6) (Nat.le_of_ble_eq_true rfl) (Nat.le_of_ble_eq_true rfl) ?_
    exact W.iret (v := 1) hx hb hr (fun t ht hW => ⟨⟨_, (), rfl, rfl, trivial⟩, hS.F ht⟩) hS.2.2 dL_apart_17
  · exact hw.elim

set_option maxHeartbeats 4000000 in
set_option maxRecDepth 100000 in
/-- c_L_row -/
theorem c_L_row (l : Launch) (hst : l.stackTraces = false) (dC : Nat → ClassId) (dI : Nat → Nat → Nat) (dE : Nat) (h0 : Nat) (a1 : Nat) (a2 : Nat) (w1 : Nat) (p1 : Nat) (o1 : Nat) (cA1 : ClassId) (cA2 : ClassId) (k1 : Int32) (k2 : Int32) (o0 : Nat) (sz : Nat) : Met l yL_row wsL_row ({ frames := 10, cells := 1, slots := 6, locals := 165 }) (va_Pc [.ref h0, .int k1, .int k2, .ref o0] (PB dC dI dE [(cA1, .object RX0), (cA2, .object RX1)] [(h0, .inr (9, [.int 7, .ref a1, .int 0, .ref a2, .int 0, .int 0, .ref w1, .ref p1, .ref o1])), (a1, .inl (cA1, 4, .inr (.inr (.inr (.inr (fun _ => none)))))), (a2, .inl (cA2, 10, .inr (.inr (.inr (.inr (fun _ => none))))))] sz)) (va_Qi (fun (r : Int32) (_ : Unit) => r = 1) (fun (_ : Unit) (_ : State) => True) (va_A [(h0, .inr (9, [.int 7, .ref a1, .int 0, .ref a2, .int 0, .int 0, .ref w1, .ref p1, .ref o1])), (a1, .inl (cA1, 4, .inr (.inr (.inr (.inr (fun _ => none)))))), (a2, .inl (cA2, 10, .inr (.inr (.inr (.inr (fun _ => none))))))] sz)) 1 6 (va_A [(h0, .inr (9, [.int 7, .ref a1, .int 0, .ref a2, .int 0, .int 0, .ref w1, .ref p1, .ref o1])), (a1, .inl (cA1, 4, .inr (.inr (.inr (.inr (fun _ => none)))))), (a2, .inl (cA2, 10, .inr (.inr (.inr (.inr (fun _ => none))))))] sz) := by
  refine va_MetW (cc := cL_row) (maxL := 5) (ret := (some .int)) (hh := [(0, 11, 14, 30), (0, 11, 18, 19)]) (by decide) rfl ?_
  intro p e s m args below meth c s₁ B hml hv
  obtain ⟨rfl, hsz, hP, hK, hD0, hTb, hZ⟩ := hv
  have hx := B.exec
  have hb := B.bytes
  have hr := B.returns
  have hts := atoms_spec (ws := wsL_row) B.pre
  have hown : s.vm.findClass RL = some m.cls := findClass_of_methodNamed B.named
  have hlocks := B.notSynchronized
  have hex := vx_table (x := yL_row) B (hts _ List.mem_cons_self)
  subst hsz
  have hD := hD0.self (sz := s.heap.size)
  generalize hAe : va_A [(h0, .inr (9, [.int 7, .ref a1, .int 0, .ref a2, .int 0, .int 0, .ref w1, .ref p1, .ref o1])), (a1, .inl (cA1, 4, .inr (.inr (.inr (.inr (fun _ => none)))))), (a2, .inl (cA2, 10, .inr (.inr (.inr (.inr (fun _ => none))))))] s.heap.size = A at hD hZ ⊢
  have hA : ∀ q : Nat, s.heap.size ≤ q → A q := fun q h => by rw [← hAe]; exact Or.inr h
  have hS : va_S A s.heap s.heap [] := va_S.rf
  have hP : va_P (dC, dI) vwCl [(h0, .inr (9, [.int 7, .ref a1, .int 0, .ref a2, .int 0, .int 0, .ref w1, .ref p1, .ref o1])), (a1, .inl (cA1, 4, .inr (.inr (.inr (.inr (fun _ => none)))))), (a2, .inl (cA2, 10, .inr (.inr (.inr (.inr (fun _ => none))))))] s.heap := hP
  have hl := lv_entry ([.ref h0, .int k1, .int k2, .ref o0]) (n := 5) (Nat.le_of_ble_eq_true rfl)
  rw [lg_entry_eq]
  generalize (lg_sl ([.ref h0, .int k1, .int k2, .ref o0]) ++ List.replicate (5 - (lg_sl ([.ref h0, .int k1, .int k2, .ref o0])).length) Slot.unset).toArray = ls at hl ⊢
  have hl : lv_has ls 5 [(0, .ref h0), (1, .int k1), (2, .int k2), (3, .ref o0)] := hl
  obtain ⟨H, eH⟩ : ∃ z, z = s.heap := ⟨_, rfl⟩
  rw [← eH] at hP ⊢
  have hS : va_S A s.heap H [] := by rw [eH]; exact va_S.rf
  refine lv_aload_n hx hb dL_row_0 rfl (lv_at hl 3 rfl) ?_
  refine lv_aload_n hx hb dL_row_1 rfl (lv_at hl 0 rfl) ?_
  refine lv_iload_n hx hb dL_row_2 rfl (lv_at hl 1 rfl) ?_
  refine lv_iload_n hx hb dL_row_3 rfl (lv_at hl 2 rfl) ?_
  have hPc := hP.sub (ws' := [(h0, .inr (9, [.int 7, .ref a1, .int 0, .ref a2, .int 0, .int 0, .ref w1, .ref p1, .ref o1])), (a1, .inl (cA1, 4, .inr (.inr (.inr (.inr (fun _ => none)))))), (a2, .inl (cA2, 10, .inr (.inr (.inr (.inr (fun _ => none))))))]) [0, 1, 2] rfl
  have hDc := hD.sub (ws' := [(h0, .inr (9, [.int 7, .ref a1, .int 0, .ref a2, .int 0, .int 0, .ref w1, .ref p1, .ref o1])), (a1, .inl (cA1, 4, .inr (.inr (.inr (.inr (fun _ => none)))))), (a2, .inl (cA2, 10, .inr (.inr (.inr (.inr (fun _ => none))))))]) [0, 1, 2] (by decide) rfl
  have hKc := hK.sub (tys' := [(cA1, .object RX0), (cA2, .object RX1)]) [0, 1] rfl
  have hFc := va_free (wc := [(h0, .inr (9, [.int 7, .ref a1, .int 0, .ref a2, .int 0, .int 0, .ref w1, .ref p1, .ref o1])), (a1, .inl (cA1, 4, .inr (.inr (.inr (.inr (fun _ => none)))))), (a2, .inl (cA2, 10, .inr (.inr (.inr (.inr (fun _ => none))))))]) hD hS hA [0, 1, 2] rfl
  refine vx_calli (vx_runV (As := [.int k1, .int k2]) (rest := [.ref o0]) ⟨hx, hb, hml, hown, hts⟩ (c_row l hst dC dI dE h0 a1 a2 w1 p1 o1 cA1 cA2 k1 k2 H.size) (cwV 2 hts gL_row_X6_row rfl rfl rfl (by decide +kernel) ⟨Nat.le_of_ble_eq_true rfl, Nat.le_of_ble_eq_true rfl⟩) ⟨fun a U g mk q => ⟨q.1, PB.blind q.2⟩, va_recv hKc hPc (ci := 9) (q0 := 0) rfl rfl, fun U hU hW => ⟨rfl, PB.call hPc hKc hDc hTb hZ hS hFc hU hW⟩⟩ rfl rfl hl.1 rfl (lv_room (Nat.le_of_ble_eq_true rfl)) dL_row_4 ⟨Nat.le_of_ble_eq_true rfl, Nat.le_of_ble_eq_true rfl⟩) hS (fun q _ h => hFc q h) hFc (fun q _ h => hFc q h) (fun E ce q9 u t H locs ht hvm hpx hBX hz1 hk1 hS hcell hv hcl => ?_) (fun r u t H locs ht hvm hw hB hz1 hk1 hS => ?_)
  · subst hBX
    refine vx_catch hown [] (⟨0, 11, 14, 30⟩ : ExceptionTableEntry) [⟨0, 11, 18, 19⟩] hex (fun z h => nomatch h) (by decide +kernel) (by decide +kernel) (name := "java/lang/IndexOutOfBoundsException") (hts (.classLink RL 30 "java/lang/IndexOutOfBoundsException") (by decide +kernel)) (va_Nw.use rfl (Tb_c1 hTb)) hcell hv hcl ?_
    refine W.eq (g2 := F0 m 14 ls [.ref q9]) rfl ?_
    have hP : va_P (dC, dI) vwCl [] H := fun k q h => by simp at h
    have hD : va_D A [] := ⟨fun i j p q h => by simp at h, fun k q h => by simp at h⟩
    have hK := hK.sub (tys' := []) [] rfl
    refine lv_astore (lv' := [(4, .ref q9), (0, .ref h0), (1, .int k1), (2, .int k2), (3, .ref o0)]) hx hb dL_row_14 hl (by decide) rfl (fun ls hl => ?_)
    refine lv_iconst (v := 1) hx hb dL_row_16 (by decide) ?_
    refine W.widen (k := 1) (n := 6) (Nat.le_of_ble_eq_true rfl) (Nat.le_of_ble_eq_true rfl) ?_
    exact W.iret (v := 1) hx hb hr (fun t ht hW => ⟨⟨_, (), rfl, rfl, trivial⟩, hS.F ht⟩) hS.2.2 dL_row_17
  · exact hw.elim

set_option maxHeartbeats 4000000 in
set_option maxRecDepth 100000 in
/-- c_L_match -/
theorem c_L_match (l : Launch) (hst : l.stackTraces = false) (dC : Nat → ClassId) (dI : Nat → Nat → Nat) (dE : Nat) (h0 : Nat) (a1 : Nat) (a2 : Nat) (w1 : Nat) (p1 : Nat) (o1 : Nat) (cA1 : ClassId) (cA2 : ClassId) (k1 : Int32) (k2 : Int32) (o0 : Nat) (sz : Nat) : Met l yL_match wsL_match ({ frames := 10, cells := 1, slots := 6, locals := 168 }) (va_Pc [.ref h0, .int k1, .int k2, .ref o0] (PB dC dI dE [(cA1, .object RX0), (cA2, .object RX1)] [(h0, .inr (9, [.int 7, .ref a1, .int 0, .ref a2, .int 0, .int 0, .ref w1, .ref p1, .ref o1])), (a1, .inl (cA1, 4, .inr (.inr (.inr (.inr (fun _ => none)))))), (a2, .inl (cA2, 10, .inr (.inr (.inr (.inr (fun _ => none))))))] sz)) (va_Qi (fun (r : Int32) (_ : Unit) => r = 1) (fun (_ : Unit) (_ : State) => True) (va_A [(h0, .inr (9, [.int 7, .ref a1, .int 0, .ref a2, .int 0, .int 0, .ref w1, .ref p1, .ref o1])), (a1, .inl (cA1, 4, .inr (.inr (.inr (.inr (fun _ => none)))))), (a2, .inl (cA2, 10, .inr (.inr (.inr (.inr (fun _ => none))))))] sz)) 1 6 (va_A [(h0, .inr (9, [.int 7, .ref a1, .int 0, .ref a2, .int 0, .int 0, .ref w1, .ref p1, .ref o1])), (a1, .inl (cA1, 4, .inr (.inr (.inr (.inr (fun _ => none)))))), (a2, .inl (cA2, 10, .inr (.inr (.inr (.inr (fun _ => none))))))] sz) := by
  refine va_MetW (cc := cL_match) (maxL := 5) (ret := (some .int)) (hh := [(0, 11, 14, 30)]) (by decide) rfl ?_
  intro p e s m args below meth c s₁ B hml hv
  obtain ⟨rfl, hsz, hP, hK, hD0, hTb, hZ⟩ := hv
  have hx := B.exec
  have hb := B.bytes
  have hr := B.returns
  have hts := atoms_spec (ws := wsL_match) B.pre
  have hown : s.vm.findClass RL = some m.cls := findClass_of_methodNamed B.named
  have hlocks := B.notSynchronized
  have hex := vx_table (x := yL_match) B (hts _ List.mem_cons_self)
  subst hsz
  have hD := hD0.self (sz := s.heap.size)
  generalize hAe : va_A [(h0, .inr (9, [.int 7, .ref a1, .int 0, .ref a2, .int 0, .int 0, .ref w1, .ref p1, .ref o1])), (a1, .inl (cA1, 4, .inr (.inr (.inr (.inr (fun _ => none)))))), (a2, .inl (cA2, 10, .inr (.inr (.inr (.inr (fun _ => none))))))] s.heap.size = A at hD hZ ⊢
  have hA : ∀ q : Nat, s.heap.size ≤ q → A q := fun q h => by rw [← hAe]; exact Or.inr h
  have hS : va_S A s.heap s.heap [] := va_S.rf
  have hP : va_P (dC, dI) vwCl [(h0, .inr (9, [.int 7, .ref a1, .int 0, .ref a2, .int 0, .int 0, .ref w1, .ref p1, .ref o1])), (a1, .inl (cA1, 4, .inr (.inr (.inr (.inr (fun _ => none)))))), (a2, .inl (cA2, 10, .inr (.inr (.inr (.inr (fun _ => none))))))] s.heap := hP
  have hl := lv_entry ([.ref h0, .int k1, .int k2, .ref o0]) (n := 5) (Nat.le_of_ble_eq_true rfl)
  rw [lg_entry_eq]
  generalize (lg_sl ([.ref h0, .int k1, .int k2, .ref o0]) ++ List.replicate (5 - (lg_sl ([.ref h0, .int k1, .int k2, .ref o0])).length) Slot.unset).toArray = ls at hl ⊢
  have hl : lv_has ls 5 [(0, .ref h0), (1, .int k1), (2, .int k2), (3, .ref o0)] := hl
  obtain ⟨H, eH⟩ : ∃ z, z = s.heap := ⟨_, rfl⟩
  rw [← eH] at hP ⊢
  have hS : va_S A s.heap H [] := by rw [eH]; exact va_S.rf
  refine lv_aload_n hx hb dL_match_0 rfl (lv_at hl 3 rfl) ?_
  refine lv_aload_n hx hb dL_match_1 rfl (lv_at hl 0 rfl) ?_
  refine lv_iload_n hx hb dL_match_2 rfl (lv_at hl 1 rfl) ?_
  refine lv_iload_n hx hb dL_match_3 rfl (lv_at hl 2 rfl) ?_
  have hPc := hP.sub (ws' := [(h0, .inr (9, [.int 7, .ref a1, .int 0, .ref a2, .int 0, .int 0, .ref w1, .ref p1, .ref o1])), (a1, .inl (cA1, 4, .inr (.inr (.inr (.inr (fun _ => none)))))), (a2, .inl (cA2, 10, .inr (.inr (.inr (.inr (fun _ => none))))))]) [0, 1, 2] rfl
  have hDc := hD.sub (ws' := [(h0, .inr (9, [.int 7, .ref a1, .int 0, .ref a2, .int 0, .int 0, .ref w1, .ref p1, .ref o1])), (a1, .inl (cA1, 4, .inr (.inr (.inr (.inr (fun _ => none)))))), (a2, .inl (cA2, 10, .inr (.inr (.inr (.inr (fun _ => none))))))]) [0, 1, 2] (by decide) rfl
  have hKc := hK.sub (tys' := [(cA1, .object RX0), (cA2, .object RX1)]) [0, 1] rfl
  have hFc := va_free (wc := [(h0, .inr (9, [.int 7, .ref a1, .int 0, .ref a2, .int 0, .int 0, .ref w1, .ref p1, .ref o1])), (a1, .inl (cA1, 4, .inr (.inr (.inr (.inr (fun _ => none)))))), (a2, .inl (cA2, 10, .inr (.inr (.inr (.inr (fun _ => none))))))]) hD hS hA [0, 1, 2] rfl
  refine vx_calli (vx_runV (As := [.int k1, .int k2]) (rest := [.ref o0]) ⟨hx, hb, hml, hown, hts⟩ (c_match l hst dC dI dE h0 a1 a2 w1 p1 o1 cA1 cA2 k1 k2 H.size) (cwV 2 hts gL_match_X6_match rfl rfl rfl (by decide +kernel) ⟨Nat.le_of_ble_eq_true rfl, Nat.le_of_ble_eq_true rfl⟩) ⟨fun a U g mk q => ⟨q.1, PB.blind q.2⟩, va_recv hKc hPc (ci := 9) (q0 := 0) rfl rfl, fun U hU hW => ⟨rfl, PB.call hPc hKc hDc hTb hZ hS hFc hU hW⟩⟩ rfl rfl hl.1 rfl (lv_room (Nat.le_of_ble_eq_true rfl)) dL_match_4 ⟨Nat.le_of_ble_eq_true rfl, Nat.le_of_ble_eq_true rfl⟩) hS (fun q _ h => hFc q h) hFc (fun q _ h => hFc q h) (fun E ce q9 u t H locs ht hvm hpx hBX hz1 hk1 hS hcell hv hcl => ?_) (fun r u t H locs ht hvm hw hB hz1 hk1 hS => ?_)
  · subst hBX
    refine vx_catch hown [] (⟨0, 11, 14, 30⟩ : ExceptionTableEntry) [] hex (fun z h => nomatch h) (by decide +kernel) (by decide +kernel) (name := "java/lang/IndexOutOfBoundsException") (hts (.classLink RL 30 "java/lang/IndexOutOfBoundsException") (by decide +kernel)) (va_Nw.use rfl (Tb_c1 hTb)) hcell hv hcl ?_
    refine W.eq (g2 := F0 m 14 ls [.ref q9]) rfl ?_
    have hP : va_P (dC, dI) vwCl [] H := fun k q h => by simp at h
    have hD : va_D A [] := ⟨fun i j p q h => by simp at h, fun k q h => by simp at h⟩
    have hK := hK.sub (tys' := []) [] rfl
    refine lv_astore (lv' := [(4, .ref q9), (0, .ref h0), (1, .int k1), (2, .int k2), (3, .ref o0)]) hx hb dL_match_14 hl (by decide) rfl (fun ls hl => ?_)
    refine lv_iconst (v := 1) hx hb dL_match_16 (by decide) ?_
    refine W.widen (k := 1) (n := 6) (Nat.le_of_ble_eq_true rfl) (Nat.le_of_ble_eq_true rfl) ?_
    exact W.iret (v := 1) hx hb hr (fun t ht hW => ⟨⟨_, (), rfl, rfl, trivial⟩, hS.F ht⟩) hS.2.2 dL_match_17
  · exact hw.elim

set_option maxHeartbeats 4000000 in
set_option maxRecDepth 100000 in
/-- c_L_scaleOf -/
theorem c_L_scaleOf (l : Launch) (hst : l.stackTraces = false) (dC : Nat → ClassId) (dI : Nat → Nat → Nat) (dE : Nat) (h0 : Nat) (a1 : Nat) (a2 : Nat) (w1 : Nat) (p1 : Nat) (o1 : Nat) (cA1 : ClassId) (cA2 : ClassId) (k1 : Int32) (k2 : Int32) (k3 : Int32) (o0 : Nat) (sz : Nat) : Met l yL_scaleOf wsL_scaleOf ({ frames := 10, cells := 1, slots := 6, locals := 167 }) (va_Pc [.ref h0, .int k1, .int k2, .int k3, .ref o0] (PB dC dI dE [(cA1, .object RX0), (cA2, .object RX1)] [(h0, .inr (9, [.int 7, .ref a1, .int 0, .ref a2, .int 0, .int 0, .ref w1, .ref p1, .ref o1])), (a1, .inl (cA1, 4, .inr (.inr (.inr (.inr (fun _ => none)))))), (a2, .inl (cA2, 10, .inr (.inr (.inr (.inr (fun _ => none))))))] sz)) (va_Qi (fun (r : Int32) (_ : Unit) => r = 1) (fun (_ : Unit) (_ : State) => True) (va_A [(h0, .inr (9, [.int 7, .ref a1, .int 0, .ref a2, .int 0, .int 0, .ref w1, .ref p1, .ref o1])), (a1, .inl (cA1, 4, .inr (.inr (.inr (.inr (fun _ => none)))))), (a2, .inl (cA2, 10, .inr (.inr (.inr (.inr (fun _ => none))))))] sz)) 1 6 (va_A [(h0, .inr (9, [.int 7, .ref a1, .int 0, .ref a2, .int 0, .int 0, .ref w1, .ref p1, .ref o1])), (a1, .inl (cA1, 4, .inr (.inr (.inr (.inr (fun _ => none)))))), (a2, .inl (cA2, 10, .inr (.inr (.inr (.inr (fun _ => none))))))] sz) := by
  refine va_MetW (cc := cL_scaleOf) (maxL := 6) (ret := (some .int)) (hh := [(0, 13, 16, 30)]) (by decide) rfl ?_
  intro p e s m args below meth c s₁ B hml hv
  obtain ⟨rfl, hsz, hP, hK, hD0, hTb, hZ⟩ := hv
  have hx := B.exec
  have hb := B.bytes
  have hr := B.returns
  have hts := atoms_spec (ws := wsL_scaleOf) B.pre
  have hown : s.vm.findClass RL = some m.cls := findClass_of_methodNamed B.named
  have hlocks := B.notSynchronized
  have hex := vx_table (x := yL_scaleOf) B (hts _ List.mem_cons_self)
  subst hsz
  have hD := hD0.self (sz := s.heap.size)
  generalize hAe : va_A [(h0, .inr (9, [.int 7, .ref a1, .int 0, .ref a2, .int 0, .int 0, .ref w1, .ref p1, .ref o1])), (a1, .inl (cA1, 4, .inr (.inr (.inr (.inr (fun _ => none)))))), (a2, .inl (cA2, 10, .inr (.inr (.inr (.inr (fun _ => none))))))] s.heap.size = A at hD hZ ⊢
  have hA : ∀ q : Nat, s.heap.size ≤ q → A q := fun q h => by rw [← hAe]; exact Or.inr h
  have hS : va_S A s.heap s.heap [] := va_S.rf
  have hP : va_P (dC, dI) vwCl [(h0, .inr (9, [.int 7, .ref a1, .int 0, .ref a2, .int 0, .int 0, .ref w1, .ref p1, .ref o1])), (a1, .inl (cA1, 4, .inr (.inr (.inr (.inr (fun _ => none)))))), (a2, .inl (cA2, 10, .inr (.inr (.inr (.inr (fun _ => none))))))] s.heap := hP
  have hl := lv_entry ([.ref h0, .int k1, .int k2, .int k3, .ref o0]) (n := 6) (Nat.le_of_ble_eq_true rfl)
  rw [lg_entry_eq]
  generalize (lg_sl ([.ref h0, .int k1, .int k2, .int k3, .ref o0]) ++ List.replicate (6 - (lg_sl ([.ref h0, .int k1, .int k2, .int k3, .ref o0])).length) Slot.unset).toArray = ls at hl ⊢
  have hl : lv_has ls 6 [(0, .ref h0), (1, .int k1), (2, .int k2), (3, .int k3), (4, .ref o0)] := hl
  obtain ⟨H, eH⟩ : ∃ z, z = s.heap := ⟨_, rfl⟩
  rw [← eH] at hP ⊢
  have hS : va_S A s.heap H [] := by rw [eH]; exact va_S.rf
  refine lv_aload hx hb dL_scaleOf_0 (lv_at hl 4 rfl) ?_
  refine lv_aload_n hx hb dL_scaleOf_2 rfl (lv_at hl 0 rfl) ?_
  refine lv_iload_n hx hb dL_scaleOf_3 rfl (lv_at hl 1 rfl) ?_
  refine lv_iload_n hx hb dL_scaleOf_4 rfl (lv_at hl 2 rfl) ?_
  refine lv_iload_n hx hb dL_scaleOf_5 rfl (lv_at hl 3 rfl) ?_
  have hPc := hP.sub (ws' := [(h0, .inr (9, [.int 7, .ref a1, .int 0, .ref a2, .int 0, .int 0, .ref w1, .ref p1, .ref o1])), (a1, .inl (cA1, 4, .inr (.inr (.inr (.inr (fun _ => none)))))), (a2, .inl (cA2, 10, .inr (.inr (.inr (.inr (fun _ => none))))))]) [0, 1, 2] rfl
  have hDc := hD.sub (ws' := [(h0, .inr (9, [.int 7, .ref a1, .int 0, .ref a2, .int 0, .int 0, .ref w1, .ref p1, .ref o1])), (a1, .inl (cA1, 4, .inr (.inr (.inr (.inr (fun _ => none)))))), (a2, .inl (cA2, 10, .inr (.inr (.inr (.inr (fun _ => none))))))]) [0, 1, 2] (by decide) rfl
  have hKc := hK.sub (tys' := [(cA1, .object RX0), (cA2, .object RX1)]) [0, 1] rfl
  have hFc := va_free (wc := [(h0, .inr (9, [.int 7, .ref a1, .int 0, .ref a2, .int 0, .int 0, .ref w1, .ref p1, .ref o1])), (a1, .inl (cA1, 4, .inr (.inr (.inr (.inr (fun _ => none)))))), (a2, .inl (cA2, 10, .inr (.inr (.inr (.inr (fun _ => none))))))]) hD hS hA [0, 1, 2] rfl
  refine vx_calli (vx_runV (As := [.int k1, .int k2, .int k3]) (rest := [.ref o0]) ⟨hx, hb, hml, hown, hts⟩ (c_scaleOf l hst dC dI dE h0 a1 a2 w1 p1 o1 cA1 cA2 k1 k2 k3 H.size) (cwV 3 hts gL_scaleOf_X6_scaleOf rfl rfl rfl (by decide +kernel) ⟨Nat.le_of_ble_eq_true rfl, Nat.le_of_ble_eq_true rfl⟩) ⟨fun a U g mk q => ⟨q.1, PB.blind q.2⟩, va_recv hKc hPc (ci := 9) (q0 := 0) rfl rfl, fun U hU hW => ⟨rfl, PB.call hPc hKc hDc hTb hZ hS hFc hU hW⟩⟩ rfl rfl hl.1 rfl (lv_room (Nat.le_of_ble_eq_true rfl)) dL_scaleOf_6 ⟨Nat.le_of_ble_eq_true rfl, Nat.le_of_ble_eq_true rfl⟩) hS (fun q _ h => hFc q h) hFc (fun q _ h => hFc q h) (fun E ce q9 u t H locs ht hvm hpx hBX hz1 hk1 hS hcell hv hcl => ?_) (fun r u t H locs ht hvm hw hB hz1 hk1 hS => ?_)
  · subst hBX
    refine vx_catch hown [] (⟨0, 13, 16, 30⟩ : ExceptionTableEntry) [] hex (fun z h => nomatch h) (by decide +kernel) (by decide +kernel) (name := "java/lang/IndexOutOfBoundsException") (hts (.classLink RL 30 "java/lang/IndexOutOfBoundsException") (by decide +kernel)) (va_Nw.use rfl (Tb_c1 hTb)) hcell hv hcl ?_
    refine W.eq (g2 := F0 m 16 ls [.ref q9]) rfl ?_
    have hP : va_P (dC, dI) vwCl [] H := fun k q h => by simp at h
    have hD : va_D A [] := ⟨fun i j p q h => by simp at h, fun k q h => by simp at h⟩
    have hK := hK.sub (tys' := []) [] rfl
    refine lv_astore (lv' := [(5, .ref q9), (0, .ref h0), (1, .int k1), (2, .int k2), (3, .int k3), (4, .ref o0)]) hx hb dL_scaleOf_16 hl (by decide) rfl (fun ls hl => ?_)
    refine lv_iconst (v := 1) hx hb dL_scaleOf_18 (by decide) ?_
    refine W.widen (k := 1) (n := 6) (Nat.le_of_ble_eq_true rfl) (Nat.le_of_ble_eq_true rfl) ?_
    exact W.iret (v := 1) hx hb hr (fun t ht hW => ⟨⟨_, (), rfl, rfl, trivial⟩, hS.F ht⟩) hS.2.2 dL_scaleOf_19
  · exact hw.elim

