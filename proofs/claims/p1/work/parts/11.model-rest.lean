def wsX10_allQuarters_r1 : List Cond := [Cond.fieldLink RX10 20 "VersorhallModel" "elements" "Ljava/util/List;", Cond.methodLink RX10 30 ⟨"java/util/List", "size", "()I"⟩, Cond.selects RJx4a65c ⟨"java/util/List", "size", "()I"⟩ yJx4a65c_size_8abf5, Cond.instanceMethod yJx4a65c_size_8abf5, Cond.initialized RJx4a65c, Cond.code yJx4a65c_size_8abf5 cJx4a65c_size_8abf5 1 (some .int), Cond.fieldLink RJx4a65c 48 "java/util/ArrayList" "size" "I", Cond.methodLink RX10 231 yX10_quarters, Cond.instanceMethod yX10_quarters, Cond.selects RX10 yX10_quarters yX10_quarters, Cond.initialized RX10, Cond.code yX10_quarters cX10_quarters 4 (some .int), Cond.fieldLink RX10 7 "VersorhallModel" "p" "I", Cond.methodLink RX10 91 yX10_row, Cond.instanceMethod yX10_row, Cond.selects RX10 yX10_row yX10_row, Cond.code yX10_row cX10_row 2 (some (.array .int)), Cond.classLink RX10 44 "VersorhallModel$Element", Cond.fieldLink RX10 49 "VersorhallModel$Element" "row" "[I", Cond.methodLink RX10 40 ⟨"java/util/List", "get", "(I)Ljava/lang/Object;"⟩, Cond.selects RJx4a65c ⟨"java/util/List", "get", "(I)Ljava/lang/Object;"⟩ yJx4a65c_get_915e3, Cond.instanceMethod yJx4a65c_get_915e3, Cond.code yJx4a65c_get_915e3 cJx4a65c_get_915e3 2 (some (.object "java/lang/Object")), Cond.methodLink RJx4a65c 118 yJ15_checkIndex_7cf53]
def wsX10_allQuarters_r2 : List Cond := [Cond.static yJ15_checkIndex_7cf53, Cond.initialized RJ15, Cond.code yJ15_checkIndex_7cf53 cJ15_checkIndex_7cf53 2 (some .int), Cond.methodLink RJ15 105 yJ3_checkIndex_8e157, Cond.static yJ3_checkIndex_8e157, Cond.initialized RJ3, Cond.code yJ3_checkIndex_8e157 cJ3_checkIndex_8e157 3 (some .int), Cond.methodLink RJx4a65c 123 yJx4a65c_elementData_915e3, Cond.instanceMethod yJx4a65c_elementData_915e3, Cond.selects RJx4a65c yJx4a65c_elementData_915e3 yJx4a65c_elementData_915e3, Cond.code yJx4a65c_elementData_915e3 cJx4a65c_elementData_915e3 2 (some (.object "java/lang/Object")), Cond.fieldLink RJx4a65c 9 "java/util/ArrayList" "elementData" "[Ljava/lang/Object;", Cond.methodLink RX10 125 yX10_isPlain, Cond.static yX10_isPlain, Cond.code yX10_isPlain cX10_isPlain 1 (some .boolean), Cond.methodLink RX10 55 yX10_size, Cond.static yX10_size, Cond.code yX10_size cX10_size 6 (some .int)]
def wsX10_allQuarters : List Cond := .code yX10_allQuarters cX10_allQuarters 3 (some .int) :: ((wsX10_allQuarters_r1 ++ wsX10_allQuarters_r2) ++ wsX100 ++ wsJx4a65c0 ++ wsX90)
theorem dX10_allQuarters_0 : decode cX10_allQuarters 0 = .ok (.iconst 0, 1) := by decide +kernel
theorem dX10_allQuarters_1 : decode cX10_allQuarters 1 = .ok (.istore_n 1, 1) := by decide +kernel
theorem dX10_allQuarters_2 : decode cX10_allQuarters 2 = .ok (.iconst 0, 1) := by decide +kernel
theorem dX10_allQuarters_3 : decode cX10_allQuarters 3 = .ok (.istore_n 2, 1) := by decide +kernel
theorem dX10_allQuarters_4 : decode cX10_allQuarters 4 = .ok (.iload_n 2, 1) := by decide +kernel
theorem dX10_allQuarters_5 : decode cX10_allQuarters 5 = .ok (.aload_n 0, 1) := by decide +kernel
theorem dX10_allQuarters_6 : decode cX10_allQuarters 6 = .ok (.getfield 20, 3) := by decide +kernel
set_option maxRecDepth 20000 in
theorem ggX10_allQuarters_Jx4a65c_size_8abf5 : GoodIn wsX10_allQuarters wsJx4a65c_size_8abf5 := goodIn_r _ [6, 7, 48, 49, 50] (by decide +kernel) (by decide +kernel)
set_option maxRecDepth 20000 in
theorem gX10_allQuarters_Jx4a65c_size_8abf5_f30Jx4a65c : GoodIn wsX10_allQuarters (va_wsF RX10 30 RJx4a65c ⟨"java/util/List", "size", "()I"⟩ yJx4a65c_size_8abf5 wsJx4a65c_size_8abf5) := goodIn_app (goodIn_of _ (by decide +kernel)) ggX10_allQuarters_Jx4a65c_size_8abf5
theorem dX10_allQuarters_9 : decode cX10_allQuarters 9 = .ok (.invokeinterface 30 1, 5) := by decide +kernel
theorem dX10_allQuarters_14 : decode cX10_allQuarters 14 = .ok (.if_icmp .ge 17, 3) := by decide +kernel
theorem dX10_allQuarters_31 : decode cX10_allQuarters 31 = .ok (.iload_n 1, 1) := by decide +kernel
theorem dX10_allQuarters_32 : decode cX10_allQuarters 32 = .ok (.ireturn, 1) := by decide +kernel
def wsX10_manyNow_r1 : List Cond := [Cond.fieldLink RX10 16 "VersorhallModel" "algebras" "Ljava/util/List;", Cond.classLink RX10 53 "VersorhallModel$Algebra", Cond.fieldLink RX10 20 "VersorhallModel" "elements" "Ljava/util/List;", Cond.arrayClass .int, Cond.fieldLink RX10 7 "VersorhallModel" "p" "I", Cond.fieldLink RX10 169 "VersorhallModel" "knocks" "I", Cond.methodLink RX10 30 ⟨"java/util/List", "size", "()I"⟩, Cond.selects RJx4a65c ⟨"java/util/List", "size", "()I"⟩ yJx4a65c_size_8abf5, Cond.instanceMethod yJx4a65c_size_8abf5, Cond.initialized RJx4a65c, Cond.code yJx4a65c_size_8abf5 cJx4a65c_size_8abf5 1 (some .int), Cond.fieldLink RJx4a65c 48 "java/util/ArrayList" "size" "I", Cond.methodLink RX10 40 ⟨"java/util/List", "get", "(I)Ljava/lang/Object;"⟩, Cond.selects RJx4a65c ⟨"java/util/List", "get", "(I)Ljava/lang/Object;"⟩ yJx4a65c_get_915e3, Cond.instanceMethod yJx4a65c_get_915e3, Cond.code yJx4a65c_get_915e3 cJx4a65c_get_915e3 2 (some (.object "java/lang/Object")), Cond.methodLink RJx4a65c 118 yJ15_checkIndex_7cf53, Cond.static yJ15_checkIndex_7cf53, Cond.initialized RJ15, Cond.code yJ15_checkIndex_7cf53 cJ15_checkIndex_7cf53 2 (some .int), Cond.methodLink RJ15 105 yJ3_checkIndex_8e157, Cond.static yJ3_checkIndex_8e157, Cond.initialized RJ3, Cond.code yJ3_checkIndex_8e157 cJ3_checkIndex_8e157 3 (some .int)]
def wsX10_manyNow_r2 : List Cond := [Cond.methodLink RJx4a65c 123 yJx4a65c_elementData_915e3, Cond.instanceMethod yJx4a65c_elementData_915e3, Cond.selects RJx4a65c yJx4a65c_elementData_915e3 yJx4a65c_elementData_915e3, Cond.code yJx4a65c_elementData_915e3 cJx4a65c_elementData_915e3 2 (some (.object "java/lang/Object")), Cond.fieldLink RJx4a65c 9 "java/util/ArrayList" "elementData" "[Ljava/lang/Object;", Cond.methodLink RX10 82 yX8_units, Cond.instanceMethod yX8_units, Cond.selects RX8 yX8_units yX8_units, Cond.initialized RX8, Cond.code yX8_units cX8_units 1 (some .int), Cond.fieldLink RX8 35 "VersorhallModel$Algebra" "many" "I", Cond.methodLink RX10 91 yX10_row, Cond.instanceMethod yX10_row, Cond.selects RX10 yX10_row yX10_row, Cond.initialized RX10, Cond.code yX10_row cX10_row 2 (some (.array .int)), Cond.classLink RX10 44 "VersorhallModel$Element", Cond.fieldLink RX10 49 "VersorhallModel$Element" "row" "[I", Cond.methodLink RX10 125 yX10_isPlain, Cond.static yX10_isPlain, Cond.code yX10_isPlain cX10_isPlain 1 (some .boolean), Cond.methodLink RX10 55 yX10_size, Cond.static yX10_size, Cond.code yX10_size cX10_size 6 (some .int)]
def wsX10_manyNow_r3 : List Cond := [Cond.methodLink RX10 178 yX10_normOf, Cond.instanceMethod yX10_normOf, Cond.selects RX10 yX10_normOf yX10_normOf, Cond.code yX10_normOf cX10_normOf 2 (some .int), Cond.methodLink RX10 106 yX10_home, Cond.instanceMethod yX10_home, Cond.selects RX10 yX10_home yX10_home, Cond.code yX10_home cX10_home 2 (some (.object "VersorhallModel$Algebra")), Cond.fieldLink RX10 46 "VersorhallModel$Element" "algebra" "I", Cond.methodLink RX10 118 yX8_conjugated, Cond.instanceMethod yX8_conjugated, Cond.selects RX8 yX8_conjugated yX8_conjugated, Cond.code yX8_conjugated cX8_conjugated 4 (some (.array .int)), Cond.fieldLink RX8 3 "VersorhallModel$Algebra" "this$0" "LVersorhallModel;", Cond.methodLink RX8 38 yX8_units, Cond.methodLink RX8 51 yX8_conjugate, Cond.instanceMethod yX8_conjugate, Cond.selects RX8 yX8_conjugate yX8_conjugate, Cond.code yX8_conjugate cX8_conjugate 3 (some .int), Cond.fieldLink RX8 31 "VersorhallModel$Algebra" "kind" "I", Cond.static yX10_grade, Cond.code yX10_grade cX10_grade 3 (some .int), Cond.instanceMethod yX10_mod, Cond.selects RX10 yX10_mod yX10_mod]
def wsX10_manyNow_r4 : List Cond := [Cond.code yX10_mod cX10_mod 2 (some .int), Cond.methodLink RX10 110 yX8_times, Cond.instanceMethod yX8_times, Cond.selects RX8 yX8_times yX8_times, Cond.code yX8_times cX8_times 6 (some (.array .int)), Cond.fieldLink RX8 20 "VersorhallModel$Algebra" "signs" "[[I", Cond.methodLink RX10 236 yX10_allQuarters, Cond.instanceMethod yX10_allQuarters, Cond.selects RX10 yX10_allQuarters yX10_allQuarters, Cond.code yX10_allQuarters cX10_allQuarters 3 (some .int), Cond.methodLink RX10 231 yX10_quarters, Cond.instanceMethod yX10_quarters, Cond.selects RX10 yX10_quarters yX10_quarters, Cond.code yX10_quarters cX10_quarters 4 (some .int)]
def wsX10_manyNow : List Cond := .code yX10_manyNow cX10_manyNow 6 (some .int) :: ((wsX10_manyNow_r1 ++ (wsX10_manyNow_r2 ++ (wsX10_manyNow_r3 ++ wsX10_manyNow_r4))) ++ wsX100 ++ wsJx4a65c0 ++ wsX80 ++ wsX90)
theorem dX10_manyNow_0 : decode cX10_manyNow 0 = .ok (.iconst 0, 1) := by decide +kernel
theorem dX10_manyNow_1 : decode cX10_manyNow 1 = .ok (.istore_n 2, 1) := by decide +kernel
theorem dX10_manyNow_2 : decode cX10_manyNow 2 = .ok (.iconst 0, 1) := by decide +kernel
theorem dX10_manyNow_3 : decode cX10_manyNow 3 = .ok (.istore_n 3, 1) := by decide +kernel
theorem dX10_manyNow_4 : decode cX10_manyNow 4 = .ok (.iconst 0, 1) := by decide +kernel
theorem dX10_manyNow_5 : decode cX10_manyNow 5 = .ok (.istore 4, 2) := by decide +kernel
theorem dX10_manyNow_7 : decode cX10_manyNow 7 = .ok (.iconst 0, 1) := by decide +kernel
theorem dX10_manyNow_8 : decode cX10_manyNow 8 = .ok (.istore 5, 2) := by decide +kernel
theorem dX10_manyNow_10 : decode cX10_manyNow 10 = .ok (.iload 5, 2) := by decide +kernel
theorem dX10_manyNow_12 : decode cX10_manyNow 12 = .ok (.aload_n 0, 1) := by decide +kernel
theorem dX10_manyNow_13 : decode cX10_manyNow 13 = .ok (.getfield 16, 3) := by decide +kernel
set_option maxRecDepth 20000 in
theorem ggX10_manyNow_Jx4a65c_size_8abf5 : GoodIn wsX10_manyNow wsJx4a65c_size_8abf5 := goodIn_r _ [11, 12, 92, 93, 94] (by decide +kernel) (by decide +kernel)
set_option maxRecDepth 20000 in
theorem gX10_manyNow_Jx4a65c_size_8abf5_f30Jx4a65c : GoodIn wsX10_manyNow (va_wsF RX10 30 RJx4a65c ⟨"java/util/List", "size", "()I"⟩ yJx4a65c_size_8abf5 wsJx4a65c_size_8abf5) := goodIn_app (goodIn_of _ (by decide +kernel)) ggX10_manyNow_Jx4a65c_size_8abf5
theorem dX10_manyNow_16 : decode cX10_manyNow 16 = .ok (.invokeinterface 30 1, 5) := by decide +kernel
theorem dX10_manyNow_21 : decode cX10_manyNow 21 = .ok (.if_icmp .ge 29, 3) := by decide +kernel
theorem dX10_manyNow_50 : decode cX10_manyNow 50 = .ok (.iconst 0, 1) := by decide +kernel
theorem dX10_manyNow_51 : decode cX10_manyNow 51 = .ok (.istore 5, 2) := by decide +kernel
theorem dX10_manyNow_53 : decode cX10_manyNow 53 = .ok (.iload 5, 2) := by decide +kernel
theorem dX10_manyNow_55 : decode cX10_manyNow 55 = .ok (.aload_n 0, 1) := by decide +kernel
theorem dX10_manyNow_56 : decode cX10_manyNow 56 = .ok (.getfield 20, 3) := by decide +kernel
theorem dX10_manyNow_59 : decode cX10_manyNow 59 = .ok (.invokeinterface 30 1, 5) := by decide +kernel
theorem dX10_manyNow_64 : decode cX10_manyNow 64 = .ok (.if_icmp .ge 48, 3) := by decide +kernel
theorem dX10_manyNow_112 : decode cX10_manyNow 112 = .ok (.bipush 8, 2) := by decide +kernel
theorem dX10_manyNow_114 : decode cX10_manyNow 114 = .ok (.newarray .int, 2) := by decide +kernel
theorem dX10_manyNow_116 : decode cX10_manyNow 116 = .ok (.dup, 1) := by decide +kernel
theorem dX10_manyNow_117 : decode cX10_manyNow 117 = .ok (.iconst 0, 1) := by decide +kernel
theorem dX10_manyNow_118 : decode cX10_manyNow 118 = .ok (.aload_n 0, 1) := by decide +kernel
theorem dX10_manyNow_119 : decode cX10_manyNow 119 = .ok (.getfield 7, 3) := by decide +kernel
theorem dX10_manyNow_122 : decode cX10_manyNow 122 = .ok (.iastore, 1) := by decide +kernel
theorem dX10_manyNow_123 : decode cX10_manyNow 123 = .ok (.dup, 1) := by decide +kernel
theorem dX10_manyNow_124 : decode cX10_manyNow 124 = .ok (.iconst 1, 1) := by decide +kernel
theorem dX10_manyNow_125 : decode cX10_manyNow 125 = .ok (.aload_n 0, 1) := by decide +kernel
theorem dX10_manyNow_126 : decode cX10_manyNow 126 = .ok (.getfield 16, 3) := by decide +kernel
theorem dX10_manyNow_129 : decode cX10_manyNow 129 = .ok (.invokeinterface 30 1, 5) := by decide +kernel
theorem dX10_manyNow_134 : decode cX10_manyNow 134 = .ok (.iastore, 1) := by decide +kernel
theorem dX10_manyNow_135 : decode cX10_manyNow 135 = .ok (.dup, 1) := by decide +kernel
theorem dX10_manyNow_136 : decode cX10_manyNow 136 = .ok (.iconst 2, 1) := by decide +kernel
theorem dX10_manyNow_137 : decode cX10_manyNow 137 = .ok (.aload_n 0, 1) := by decide +kernel
theorem dX10_manyNow_138 : decode cX10_manyNow 138 = .ok (.getfield 20, 3) := by decide +kernel
theorem dX10_manyNow_141 : decode cX10_manyNow 141 = .ok (.invokeinterface 30 1, 5) := by decide +kernel
theorem dX10_manyNow_146 : decode cX10_manyNow 146 = .ok (.iastore, 1) := by decide +kernel
theorem dX10_manyNow_147 : decode cX10_manyNow 147 = .ok (.dup, 1) := by decide +kernel
theorem dX10_manyNow_148 : decode cX10_manyNow 148 = .ok (.iconst 3, 1) := by decide +kernel
theorem dX10_manyNow_149 : decode cX10_manyNow 149 = .ok (.iload_n 2, 1) := by decide +kernel
theorem dX10_manyNow_150 : decode cX10_manyNow 150 = .ok (.iastore, 1) := by decide +kernel
theorem dX10_manyNow_151 : decode cX10_manyNow 151 = .ok (.dup, 1) := by decide +kernel
theorem dX10_manyNow_152 : decode cX10_manyNow 152 = .ok (.iconst 4, 1) := by decide +kernel
theorem dX10_manyNow_153 : decode cX10_manyNow 153 = .ok (.iload_n 3, 1) := by decide +kernel
theorem dX10_manyNow_154 : decode cX10_manyNow 154 = .ok (.iastore, 1) := by decide +kernel
theorem dX10_manyNow_155 : decode cX10_manyNow 155 = .ok (.dup, 1) := by decide +kernel
theorem dX10_manyNow_156 : decode cX10_manyNow 156 = .ok (.iconst 5, 1) := by decide +kernel
theorem dX10_manyNow_157 : decode cX10_manyNow 157 = .ok (.iload 4, 2) := by decide +kernel
theorem dX10_manyNow_159 : decode cX10_manyNow 159 = .ok (.iastore, 1) := by decide +kernel
theorem dX10_manyNow_160 : decode cX10_manyNow 160 = .ok (.dup, 1) := by decide +kernel
theorem dX10_manyNow_161 : decode cX10_manyNow 161 = .ok (.bipush 6, 2) := by decide +kernel
theorem dX10_manyNow_163 : decode cX10_manyNow 163 = .ok (.aload_n 0, 1) := by decide +kernel
theorem dX10_manyNow_164 : decode cX10_manyNow 164 = .ok (.getfield 169, 3) := by decide +kernel
theorem dX10_manyNow_167 : decode cX10_manyNow 167 = .ok (.iastore, 1) := by decide +kernel
theorem dX10_manyNow_168 : decode cX10_manyNow 168 = .ok (.dup, 1) := by decide +kernel
theorem dX10_manyNow_169 : decode cX10_manyNow 169 = .ok (.bipush 7, 2) := by decide +kernel
theorem dX10_manyNow_171 : decode cX10_manyNow 171 = .ok (.aload_n 0, 1) := by decide +kernel
set_option maxRecDepth 20000 in
theorem ggX10_manyNow_X10_allQuarters : GoodIn wsX10_manyNow wsX10_allQuarters := goodIn_r _ [82, 3, 7, 8, 9, 10, 11, 12, 83, 84, 85, 39, 86, 5, 36, 37, 38, 40, 41, 42, 13, 14, 15, 16, 17, 18, 19, 20, 21, 22, 23, 24, 25, 26, 27, 28, 29, 43, 44, 45, 46, 47, 48, 87, 88, 89, 90, 91, 92, 93, 94, 101, 102] (by decide +kernel) (by decide +kernel)
set_option maxRecDepth 20000 in
theorem gX10_manyNow_X10_allQuarters : GoodIn wsX10_manyNow (wsV RX10 236 RX10 yX10_allQuarters wsX10_allQuarters) := goodIn_app (goodIn_of _ (by decide +kernel)) ggX10_manyNow_X10_allQuarters
theorem dX10_manyNow_172 : decode cX10_manyNow 172 = .ok (.invokevirtual 236, 3) := by decide +kernel
theorem dX10_manyNow_175 : decode cX10_manyNow 175 = .ok (.iconst 4, 1) := by decide +kernel
theorem dX10_manyNow_176 : decode cX10_manyNow 176 = .ok (.idiv, 1) := by decide +kernel
theorem dX10_manyNow_177 : decode cX10_manyNow 177 = .ok (.iastore, 1) := by decide +kernel
theorem dX10_manyNow_178 : decode cX10_manyNow 178 = .ok (.astore 5, 2) := by decide +kernel
theorem dX10_manyNow_180 : decode cX10_manyNow 180 = .ok (.aload 5, 2) := by decide +kernel
theorem dX10_manyNow_182 : decode cX10_manyNow 182 = .ok (.iload_n 1, 1) := by decide +kernel
theorem dX10_manyNow_183 : decode cX10_manyNow 183 = .ok (.iaload, 1) := by decide +kernel
theorem dX10_manyNow_184 : decode cX10_manyNow 184 = .ok (.ireturn, 1) := by decide +kernel
def wsX10_many_r1 : List Cond := [Cond.fieldLink RX10 23 "VersorhallModel" "thrown" "I", Cond.methodLink RX10 36 yX10_in, Cond.static yX10_in, Cond.initialized RX10, Cond.code yX10_in cX10_in 3 (some .boolean), Cond.methodLink RX10 58 yX10_no, Cond.instanceMethod yX10_no, Cond.selects RX10 yX10_no yX10_no, Cond.code yX10_no cX10_no 2 (some .int), Cond.methodLink RX10 244 yX10_manyNow, Cond.instanceMethod yX10_manyNow, Cond.selects RX10 yX10_manyNow yX10_manyNow, Cond.code yX10_manyNow cX10_manyNow 6 (some .int), Cond.fieldLink RX10 16 "VersorhallModel" "algebras" "Ljava/util/List;", Cond.classLink RX10 53 "VersorhallModel$Algebra", Cond.fieldLink RX10 20 "VersorhallModel" "elements" "Ljava/util/List;", Cond.arrayClass .int, Cond.fieldLink RX10 7 "VersorhallModel" "p" "I", Cond.fieldLink RX10 169 "VersorhallModel" "knocks" "I", Cond.methodLink RX10 30 ⟨"java/util/List", "size", "()I"⟩, Cond.selects RJx4a65c ⟨"java/util/List", "size", "()I"⟩ yJx4a65c_size_8abf5, Cond.instanceMethod yJx4a65c_size_8abf5, Cond.initialized RJx4a65c, Cond.code yJx4a65c_size_8abf5 cJx4a65c_size_8abf5 1 (some .int)]
def wsX10_many_r2 : List Cond := [Cond.fieldLink RJx4a65c 48 "java/util/ArrayList" "size" "I", Cond.methodLink RX10 40 ⟨"java/util/List", "get", "(I)Ljava/lang/Object;"⟩, Cond.selects RJx4a65c ⟨"java/util/List", "get", "(I)Ljava/lang/Object;"⟩ yJx4a65c_get_915e3, Cond.instanceMethod yJx4a65c_get_915e3, Cond.code yJx4a65c_get_915e3 cJx4a65c_get_915e3 2 (some (.object "java/lang/Object")), Cond.methodLink RJx4a65c 118 yJ15_checkIndex_7cf53, Cond.static yJ15_checkIndex_7cf53, Cond.initialized RJ15, Cond.code yJ15_checkIndex_7cf53 cJ15_checkIndex_7cf53 2 (some .int), Cond.methodLink RJ15 105 yJ3_checkIndex_8e157, Cond.static yJ3_checkIndex_8e157, Cond.initialized RJ3, Cond.code yJ3_checkIndex_8e157 cJ3_checkIndex_8e157 3 (some .int), Cond.methodLink RJx4a65c 123 yJx4a65c_elementData_915e3, Cond.instanceMethod yJx4a65c_elementData_915e3, Cond.selects RJx4a65c yJx4a65c_elementData_915e3 yJx4a65c_elementData_915e3, Cond.code yJx4a65c_elementData_915e3 cJx4a65c_elementData_915e3 2 (some (.object "java/lang/Object")), Cond.fieldLink RJx4a65c 9 "java/util/ArrayList" "elementData" "[Ljava/lang/Object;", Cond.methodLink RX10 82 yX8_units, Cond.instanceMethod yX8_units, Cond.selects RX8 yX8_units yX8_units, Cond.initialized RX8, Cond.code yX8_units cX8_units 1 (some .int), Cond.fieldLink RX8 35 "VersorhallModel$Algebra" "many" "I"]
def wsX10_many_r3 : List Cond := [Cond.methodLink RX10 91 yX10_row, Cond.instanceMethod yX10_row, Cond.selects RX10 yX10_row yX10_row, Cond.code yX10_row cX10_row 2 (some (.array .int)), Cond.classLink RX10 44 "VersorhallModel$Element", Cond.fieldLink RX10 49 "VersorhallModel$Element" "row" "[I", Cond.methodLink RX10 125 yX10_isPlain, Cond.static yX10_isPlain, Cond.code yX10_isPlain cX10_isPlain 1 (some .boolean), Cond.methodLink RX10 55 yX10_size, Cond.static yX10_size, Cond.code yX10_size cX10_size 6 (some .int), Cond.methodLink RX10 178 yX10_normOf, Cond.instanceMethod yX10_normOf, Cond.selects RX10 yX10_normOf yX10_normOf, Cond.code yX10_normOf cX10_normOf 2 (some .int), Cond.methodLink RX10 106 yX10_home, Cond.instanceMethod yX10_home, Cond.selects RX10 yX10_home yX10_home, Cond.code yX10_home cX10_home 2 (some (.object "VersorhallModel$Algebra")), Cond.fieldLink RX10 46 "VersorhallModel$Element" "algebra" "I", Cond.methodLink RX10 118 yX8_conjugated, Cond.instanceMethod yX8_conjugated, Cond.selects RX8 yX8_conjugated yX8_conjugated]
def wsX10_many_r4 : List Cond := [Cond.code yX8_conjugated cX8_conjugated 4 (some (.array .int)), Cond.fieldLink RX8 3 "VersorhallModel$Algebra" "this$0" "LVersorhallModel;", Cond.methodLink RX8 38 yX8_units, Cond.methodLink RX8 51 yX8_conjugate, Cond.instanceMethod yX8_conjugate, Cond.selects RX8 yX8_conjugate yX8_conjugate, Cond.code yX8_conjugate cX8_conjugate 3 (some .int), Cond.fieldLink RX8 31 "VersorhallModel$Algebra" "kind" "I", Cond.static yX10_grade, Cond.code yX10_grade cX10_grade 3 (some .int), Cond.instanceMethod yX10_mod, Cond.selects RX10 yX10_mod yX10_mod, Cond.code yX10_mod cX10_mod 2 (some .int), Cond.methodLink RX10 110 yX8_times, Cond.instanceMethod yX8_times, Cond.selects RX8 yX8_times yX8_times, Cond.code yX8_times cX8_times 6 (some (.array .int)), Cond.fieldLink RX8 20 "VersorhallModel$Algebra" "signs" "[[I", Cond.methodLink RX10 236 yX10_allQuarters, Cond.instanceMethod yX10_allQuarters, Cond.selects RX10 yX10_allQuarters yX10_allQuarters, Cond.code yX10_allQuarters cX10_allQuarters 3 (some .int), Cond.methodLink RX10 231 yX10_quarters, Cond.instanceMethod yX10_quarters]
def wsX10_many_r5 : List Cond := [Cond.selects RX10 yX10_quarters yX10_quarters, Cond.code yX10_quarters cX10_quarters 4 (some .int)]
def wsX10_many : List Cond := .code yX10_many cX10_many 2 (some .int) :: ((wsX10_many_r1 ++ (wsX10_many_r2 ++ (wsX10_many_r3 ++ (wsX10_many_r4 ++ wsX10_many_r5)))) ++ wsX100 ++ wsJx4a65c0 ++ wsX80 ++ wsX90)
theorem dX10_many_0 : decode cX10_many 0 = .ok (.aload_n 0, 1) := by decide +kernel
theorem dX10_many_1 : decode cX10_many 1 = .ok (.iconst 0, 1) := by decide +kernel
theorem dX10_many_2 : decode cX10_many 2 = .ok (.putfield 23, 3) := by decide +kernel
theorem dX10_many_5 : decode cX10_many 5 = .ok (.iload_n 1, 1) := by decide +kernel
theorem dX10_many_6 : decode cX10_many 6 = .ok (.iconst 0, 1) := by decide +kernel
theorem dX10_many_7 : decode cX10_many 7 = .ok (.bipush 7, 2) := by decide +kernel
set_option maxRecDepth 20000 in
theorem ggX10_many_X10_in : GoodIn wsX10_many wsX10_in := goodIn_r _ [5] (by decide +kernel) (by decide +kernel)
set_option maxRecDepth 20000 in
theorem gX10_many_X10_in : GoodIn wsX10_many (va_wsS RX10 36 yX10_in wsX10_in) := goodIn_app (goodIn_of _ (by decide +kernel)) ggX10_many_X10_in
theorem dX10_many_9 : decode cX10_many 9 = .ok (.invokestatic 36, 3) := by decide +kernel
theorem dX10_many_12 : decode cX10_many 12 = .ok (.ifCond .ne 9, 3) := by decide +kernel
theorem dX10_many_21 : decode cX10_many 21 = .ok (.aload_n 0, 1) := by decide +kernel
theorem dX10_many_22 : decode cX10_many 22 = .ok (.iload_n 1, 1) := by decide +kernel
set_option maxRecDepth 20000 in
theorem ggX10_many_X10_manyNow : GoodIn wsX10_many wsX10_manyNow := goodIn_r _ [13, 14, 15, 16, 17, 18, 19, 20, 21, 22, 23, 24, 25, 26, 27, 28, 29, 30, 31, 32, 33, 34, 35, 36, 37, 38, 39, 40, 41, 42, 43, 44, 45, 46, 47, 48, 49, 50, 51, 4, 52, 53, 54, 55, 56, 57, 58, 59, 60, 61, 62, 63, 64, 65, 66, 67, 68, 69, 70, 71, 72, 73, 74, 75, 76, 77, 78, 79, 80, 81, 82, 83, 84, 85, 86, 87, 88, 89, 90, 91, 92, 93, 94, 95, 96, 97, 98, 99, 100, 101, 102, 103, 104, 105, 106, 107, 108, 109, 110, 111, 112, 113, 114] (by decide +kernel) (by decide +kernel)
set_option maxRecDepth 20000 in
theorem gX10_many_X10_manyNow : GoodIn wsX10_many (wsV RX10 244 RX10 yX10_manyNow wsX10_manyNow) := goodIn_app (goodIn_of _ (by decide +kernel)) ggX10_many_X10_manyNow
theorem dX10_many_23 : decode cX10_many 23 = .ok (.invokevirtual 244, 3) := by decide +kernel
theorem dX10_many_26 : decode cX10_many 26 = .ok (.ireturn, 1) := by decide +kernel
theorem dX10_many_15 : decode cX10_many 15 = .ok (.aload_n 0, 1) := by decide +kernel
theorem dX10_many_16 : decode cX10_many 16 = .ok (.iconst 1, 1) := by decide +kernel
set_option maxRecDepth 20000 in
theorem ggX10_many_X10_no : GoodIn wsX10_many wsX10_no := goodIn_r _ [9, 1, 99, 100, 101, 102, 103] (by decide +kernel) (by decide +kernel)
set_option maxRecDepth 20000 in
theorem gX10_many_X10_no : GoodIn wsX10_many (wsV RX10 58 RX10 yX10_no wsX10_no) := goodIn_app (goodIn_of _ (by decide +kernel)) ggX10_many_X10_no
theorem dX10_many_17 : decode cX10_many 17 = .ok (.invokevirtual 58, 3) := by decide +kernel
theorem dX10_many_20 : decode cX10_many 20 = .ok (.ireturn, 1) := by decide +kernel
def wsX10_prime : List Cond := .code yX10_prime cX10_prime 3 (some .int) :: ([.fieldLink RX10 23 "VersorhallModel" "thrown" "I", .fieldLink RX10 16 "VersorhallModel" "algebras" "Ljava/util/List;", .fieldLink RX10 7 "VersorhallModel" "p" "I", .methodLink RX10 58 yX10_no, .instanceMethod yX10_no, .selects RX10 yX10_no yX10_no, .initialized RX10, .code yX10_no cX10_no 2 (some .int), .methodLink RX10 30 ⟨"java/util/List", "size", "()I"⟩, .selects RJx4a65c ⟨"java/util/List", "size", "()I"⟩ yJx4a65c_size_8abf5, .instanceMethod yJx4a65c_size_8abf5, .initialized RJx4a65c, .code yJx4a65c_size_8abf5 cJx4a65c_size_8abf5 1 (some .int), .fieldLink RJx4a65c 48 "java/util/ArrayList" "size" "I"] ++ wsX100 ++ wsJx4a65c0)
theorem dX10_prime_0 : decode cX10_prime 0 = .ok (.aload_n 0, 1) := by decide +kernel
theorem dX10_prime_1 : decode cX10_prime 1 = .ok (.iconst 0, 1) := by decide +kernel
theorem dX10_prime_2 : decode cX10_prime 2 = .ok (.putfield 23, 3) := by decide +kernel
theorem dX10_prime_5 : decode cX10_prime 5 = .ok (.iload_n 1, 1) := by decide +kernel
theorem dX10_prime_6 : decode cX10_prime 6 = .ok (.iconst 3, 1) := by decide +kernel
theorem dX10_prime_7 : decode cX10_prime 7 = .ok (.if_icmp .eq 20, 3) := by decide +kernel
theorem dX10_prime_27 : decode cX10_prime 27 = .ok (.aload_n 0, 1) := by decide +kernel
theorem dX10_prime_28 : decode cX10_prime 28 = .ok (.getfield 16, 3) := by decide +kernel
set_option maxRecDepth 20000 in
theorem ggX10_prime_Jx4a65c_size_8abf5 : GoodIn wsX10_prime wsJx4a65c_size_8abf5 := goodIn_r _ [13, 14, 20, 21, 22] (by decide +kernel) (by decide +kernel)
set_option maxRecDepth 20000 in
theorem gX10_prime_Jx4a65c_size_8abf5_f30Jx4a65c : GoodIn wsX10_prime (va_wsF RX10 30 RJx4a65c ⟨"java/util/List", "size", "()I"⟩ yJx4a65c_size_8abf5 wsJx4a65c_size_8abf5) := goodIn_app (goodIn_of _ (by decide +kernel)) ggX10_prime_Jx4a65c_size_8abf5
theorem dX10_prime_31 : decode cX10_prime 31 = .ok (.invokeinterface 30 1, 5) := by decide +kernel
theorem dX10_prime_36 : decode cX10_prime 36 = .ok (.ifCond .le 9, 3) := by decide +kernel
theorem dX10_prime_45 : decode cX10_prime 45 = .ok (.aload_n 0, 1) := by decide +kernel
theorem dX10_prime_46 : decode cX10_prime 46 = .ok (.getfield 7, 3) := by decide +kernel
theorem dX10_prime_49 : decode cX10_prime 49 = .ok (.istore_n 2, 1) := by decide +kernel
theorem dX10_prime_50 : decode cX10_prime 50 = .ok (.aload_n 0, 1) := by decide +kernel
theorem dX10_prime_51 : decode cX10_prime 51 = .ok (.iload_n 1, 1) := by decide +kernel
theorem dX10_prime_52 : decode cX10_prime 52 = .ok (.putfield 7, 3) := by decide +kernel
theorem dX10_prime_55 : decode cX10_prime 55 = .ok (.iload_n 2, 1) := by decide +kernel
theorem dX10_prime_56 : decode cX10_prime 56 = .ok (.ireturn, 1) := by decide +kernel
theorem dX10_prime_10 : decode cX10_prime 10 = .ok (.iload_n 1, 1) := by decide +kernel
theorem dX10_prime_11 : decode cX10_prime 11 = .ok (.iconst 5, 1) := by decide +kernel
theorem dX10_prime_12 : decode cX10_prime 12 = .ok (.if_icmp .eq 15, 3) := by decide +kernel
theorem dX10_prime_15 : decode cX10_prime 15 = .ok (.iload_n 1, 1) := by decide +kernel
theorem dX10_prime_16 : decode cX10_prime 16 = .ok (.bipush 7, 2) := by decide +kernel
theorem dX10_prime_18 : decode cX10_prime 18 = .ok (.if_icmp .eq 9, 3) := by decide +kernel
theorem dX10_prime_21 : decode cX10_prime 21 = .ok (.aload_n 0, 1) := by decide +kernel
theorem dX10_prime_22 : decode cX10_prime 22 = .ok (.iconst 1, 1) := by decide +kernel
set_option maxRecDepth 20000 in
theorem ggX10_prime_X10_no : GoodIn wsX10_prime wsX10_no := goodIn_r _ [8, 1, 15, 16, 17, 18, 19] (by decide +kernel) (by decide +kernel)
set_option maxRecDepth 20000 in
theorem gX10_prime_X10_no : GoodIn wsX10_prime (wsV RX10 58 RX10 yX10_no wsX10_no) := goodIn_app (goodIn_of _ (by decide +kernel)) ggX10_prime_X10_no
theorem dX10_prime_23 : decode cX10_prime 23 = .ok (.invokevirtual 58, 3) := by decide +kernel
theorem dX10_prime_26 : decode cX10_prime 26 = .ok (.ireturn, 1) := by decide +kernel
theorem dX10_algebra_14 : decode cX10_algebra 14 = .ok (.aload_n 0, 1) := by decide +kernel
theorem dX10_algebra_15 : decode cX10_algebra 15 = .ok (.iconst 1, 1) := by decide +kernel
set_option maxRecDepth 20000 in
theorem ggX10_algebra_X10_no : GoodIn wsX10_algebra wsX10_no := goodIn_r _ [13, 1, 102, 103, 104, 105, 106] (by decide +kernel) (by decide +kernel)
set_option maxRecDepth 20000 in
theorem gX10_algebra_X10_no : GoodIn wsX10_algebra (wsV RX10 58 RX10 yX10_no wsX10_no) := goodIn_app (goodIn_of _ (by decide +kernel)) ggX10_algebra_X10_no
theorem dX10_algebra_16 : decode cX10_algebra 16 = .ok (.invokevirtual 58, 3) := by decide +kernel
theorem dX10_algebra_19 : decode cX10_algebra 19 = .ok (.ireturn, 1) := by decide +kernel
def wsX10_meanSize_r1 : List Cond := [Cond.fieldLink RX10 23 "VersorhallModel" "thrown" "I", Cond.fieldLink RX10 20 "VersorhallModel" "elements" "Ljava/util/List;", Cond.methodLink RX10 30 ⟨"java/util/List", "size", "()I"⟩, Cond.selects RJx4a65c ⟨"java/util/List", "size", "()I"⟩ yJx4a65c_size_8abf5, Cond.instanceMethod yJx4a65c_size_8abf5, Cond.initialized RJx4a65c, Cond.code yJx4a65c_size_8abf5 cJx4a65c_size_8abf5 1 (some .int), Cond.fieldLink RJx4a65c 48 "java/util/ArrayList" "size" "I", Cond.methodLink RX10 91 yX10_row, Cond.instanceMethod yX10_row, Cond.selects RX10 yX10_row yX10_row, Cond.initialized RX10, Cond.code yX10_row cX10_row 2 (some (.array .int)), Cond.classLink RX10 44 "VersorhallModel$Element", Cond.fieldLink RX10 49 "VersorhallModel$Element" "row" "[I", Cond.methodLink RX10 40 ⟨"java/util/List", "get", "(I)Ljava/lang/Object;"⟩, Cond.selects RJx4a65c ⟨"java/util/List", "get", "(I)Ljava/lang/Object;"⟩ yJx4a65c_get_915e3, Cond.instanceMethod yJx4a65c_get_915e3, Cond.code yJx4a65c_get_915e3 cJx4a65c_get_915e3 2 (some (.object "java/lang/Object")), Cond.methodLink RJx4a65c 118 yJ15_checkIndex_7cf53, Cond.static yJ15_checkIndex_7cf53, Cond.initialized RJ15, Cond.code yJ15_checkIndex_7cf53 cJ15_checkIndex_7cf53 2 (some .int), Cond.methodLink RJ15 105 yJ3_checkIndex_8e157]
def wsX10_meanSize_r2 : List Cond := [Cond.static yJ3_checkIndex_8e157, Cond.initialized RJ3, Cond.code yJ3_checkIndex_8e157 cJ3_checkIndex_8e157 3 (some .int), Cond.methodLink RJx4a65c 123 yJx4a65c_elementData_915e3, Cond.instanceMethod yJx4a65c_elementData_915e3, Cond.selects RJx4a65c yJx4a65c_elementData_915e3 yJx4a65c_elementData_915e3, Cond.code yJx4a65c_elementData_915e3 cJx4a65c_elementData_915e3 2 (some (.object "java/lang/Object")), Cond.fieldLink RJx4a65c 9 "java/util/ArrayList" "elementData" "[Ljava/lang/Object;", Cond.methodLink RX10 55 yX10_size, Cond.static yX10_size, Cond.code yX10_size cX10_size 6 (some .int)]
def wsX10_meanSize : List Cond := .code yX10_meanSize cX10_meanSize 3 (some .double) :: ((wsX10_meanSize_r1 ++ wsX10_meanSize_r2) ++ wsX100 ++ wsJx4a65c0 ++ wsX90)
theorem dX10_meanSize_0 : decode cX10_meanSize 0 = .ok (.aload_n 0, 1) := by decide +kernel
theorem dX10_meanSize_1 : decode cX10_meanSize 1 = .ok (.iconst 0, 1) := by decide +kernel
theorem dX10_meanSize_2 : decode cX10_meanSize 2 = .ok (.putfield 23, 3) := by decide +kernel
theorem dX10_meanSize_5 : decode cX10_meanSize 5 = .ok (.iconst 0, 1) := by decide +kernel
theorem dX10_meanSize_6 : decode cX10_meanSize 6 = .ok (.istore_n 1, 1) := by decide +kernel
theorem dX10_meanSize_7 : decode cX10_meanSize 7 = .ok (.iconst 0, 1) := by decide +kernel
theorem dX10_meanSize_8 : decode cX10_meanSize 8 = .ok (.istore_n 2, 1) := by decide +kernel
theorem dX10_meanSize_9 : decode cX10_meanSize 9 = .ok (.iload_n 2, 1) := by decide +kernel
theorem dX10_meanSize_10 : decode cX10_meanSize 10 = .ok (.aload_n 0, 1) := by decide +kernel
theorem dX10_meanSize_11 : decode cX10_meanSize 11 = .ok (.getfield 20, 3) := by decide +kernel
set_option maxRecDepth 20000 in
theorem ggX10_meanSize_Jx4a65c_size_8abf5 : GoodIn wsX10_meanSize wsJx4a65c_size_8abf5 := goodIn_r _ [7, 8, 41, 42, 43] (by decide +kernel) (by decide +kernel)
set_option maxRecDepth 20000 in
theorem gX10_meanSize_Jx4a65c_size_8abf5_f30Jx4a65c : GoodIn wsX10_meanSize (va_wsF RX10 30 RJx4a65c ⟨"java/util/List", "size", "()I"⟩ yJx4a65c_size_8abf5 wsJx4a65c_size_8abf5) := goodIn_app (goodIn_of _ (by decide +kernel)) ggX10_meanSize_Jx4a65c_size_8abf5
theorem dX10_meanSize_14 : decode cX10_meanSize 14 = .ok (.invokeinterface 30 1, 5) := by decide +kernel
theorem dX10_meanSize_19 : decode cX10_meanSize 19 = .ok (.if_icmp .ge 20, 3) := by decide +kernel
theorem dX10_meanSize_39 : decode cX10_meanSize 39 = .ok (.aload_n 0, 1) := by decide +kernel
theorem dX10_meanSize_40 : decode cX10_meanSize 40 = .ok (.getfield 20, 3) := by decide +kernel
theorem dX10_meanSize_43 : decode cX10_meanSize 43 = .ok (.invokeinterface 30 1, 5) := by decide +kernel
theorem dX10_meanSize_48 : decode cX10_meanSize 48 = .ok (.ifCond .ne 7, 3) := by decide +kernel
theorem dX10_meanSize_51 : decode cX10_meanSize 51 = .ok (.dconst 0, 1) := by decide +kernel
theorem dX10_meanSize_52 : decode cX10_meanSize 52 = .ok (.goto 16, 3) := by decide +kernel
theorem dX10_meanSize_68 : decode cX10_meanSize 68 = .ok (.dreturn, 1) := by decide +kernel
def wsX10_poise_r1 : List Cond := [Cond.fieldLink RX10 23 "VersorhallModel" "thrown" "I", Cond.fieldLink RX10 20 "VersorhallModel" "elements" "Ljava/util/List;", Cond.methodLink RX10 239 Lib.Math.abs.name, Cond.static Lib.Math.abs.name, Cond.initialized "java/lang/Math", Cond.code Lib.Math.abs.name Lib.Math.abs.code 1 (some .int), Cond.methodLink RX10 30 ⟨"java/util/List", "size", "()I"⟩, Cond.selects RJx4a65c ⟨"java/util/List", "size", "()I"⟩ yJx4a65c_size_8abf5, Cond.instanceMethod yJx4a65c_size_8abf5, Cond.initialized RJx4a65c, Cond.code yJx4a65c_size_8abf5 cJx4a65c_size_8abf5 1 (some .int), Cond.fieldLink RJx4a65c 48 "java/util/ArrayList" "size" "I", Cond.methodLink RX10 236 yX10_allQuarters, Cond.instanceMethod yX10_allQuarters, Cond.selects RX10 yX10_allQuarters yX10_allQuarters, Cond.initialized RX10, Cond.code yX10_allQuarters cX10_allQuarters 3 (some .int), Cond.methodLink RX10 231 yX10_quarters, Cond.instanceMethod yX10_quarters, Cond.selects RX10 yX10_quarters yX10_quarters, Cond.code yX10_quarters cX10_quarters 4 (some .int), Cond.fieldLink RX10 7 "VersorhallModel" "p" "I", Cond.methodLink RX10 91 yX10_row, Cond.instanceMethod yX10_row]
def wsX10_poise_r2 : List Cond := [Cond.selects RX10 yX10_row yX10_row, Cond.code yX10_row cX10_row 2 (some (.array .int)), Cond.classLink RX10 44 "VersorhallModel$Element", Cond.fieldLink RX10 49 "VersorhallModel$Element" "row" "[I", Cond.methodLink RX10 40 ⟨"java/util/List", "get", "(I)Ljava/lang/Object;"⟩, Cond.selects RJx4a65c ⟨"java/util/List", "get", "(I)Ljava/lang/Object;"⟩ yJx4a65c_get_915e3, Cond.instanceMethod yJx4a65c_get_915e3, Cond.code yJx4a65c_get_915e3 cJx4a65c_get_915e3 2 (some (.object "java/lang/Object")), Cond.methodLink RJx4a65c 118 yJ15_checkIndex_7cf53, Cond.static yJ15_checkIndex_7cf53, Cond.initialized RJ15, Cond.code yJ15_checkIndex_7cf53 cJ15_checkIndex_7cf53 2 (some .int), Cond.methodLink RJ15 105 yJ3_checkIndex_8e157, Cond.static yJ3_checkIndex_8e157, Cond.initialized RJ3, Cond.code yJ3_checkIndex_8e157 cJ3_checkIndex_8e157 3 (some .int), Cond.methodLink RJx4a65c 123 yJx4a65c_elementData_915e3, Cond.instanceMethod yJx4a65c_elementData_915e3, Cond.selects RJx4a65c yJx4a65c_elementData_915e3 yJx4a65c_elementData_915e3, Cond.code yJx4a65c_elementData_915e3 cJx4a65c_elementData_915e3 2 (some (.object "java/lang/Object")), Cond.fieldLink RJx4a65c 9 "java/util/ArrayList" "elementData" "[Ljava/lang/Object;", Cond.methodLink RX10 125 yX10_isPlain, Cond.static yX10_isPlain, Cond.code yX10_isPlain cX10_isPlain 1 (some .boolean)]
def wsX10_poise_r3 : List Cond := [Cond.methodLink RX10 55 yX10_size, Cond.static yX10_size, Cond.code yX10_size cX10_size 6 (some .int)]
def wsX10_poise : List Cond := .code yX10_poise cX10_poise 6 (some .double) :: ((wsX10_poise_r1 ++ (wsX10_poise_r2 ++ wsX10_poise_r3)) ++ wsX100 ++ wsJx4a65c0 ++ wsX90)
theorem dX10_poise_0 : decode cX10_poise 0 = .ok (.aload_n 0, 1) := by decide +kernel
theorem dX10_poise_1 : decode cX10_poise 1 = .ok (.iconst 0, 1) := by decide +kernel
theorem dX10_poise_2 : decode cX10_poise 2 = .ok (.putfield 23, 3) := by decide +kernel
theorem dX10_poise_5 : decode cX10_poise 5 = .ok (.aload_n 0, 1) := by decide +kernel
theorem dX10_poise_6 : decode cX10_poise 6 = .ok (.getfield 20, 3) := by decide +kernel
set_option maxRecDepth 20000 in
theorem ggX10_poise_Jx4a65c_size_8abf5 : GoodIn wsX10_poise wsJx4a65c_size_8abf5 := goodIn_r _ [11, 12, 57, 58, 59] (by decide +kernel) (by decide +kernel)
set_option maxRecDepth 20000 in
theorem gX10_poise_Jx4a65c_size_8abf5_f30Jx4a65c : GoodIn wsX10_poise (va_wsF RX10 30 RJx4a65c ⟨"java/util/List", "size", "()I"⟩ yJx4a65c_size_8abf5 wsJx4a65c_size_8abf5) := goodIn_app (goodIn_of _ (by decide +kernel)) ggX10_poise_Jx4a65c_size_8abf5
theorem dX10_poise_9 : decode cX10_poise 9 = .ok (.invokeinterface 30 1, 5) := by decide +kernel
theorem dX10_poise_14 : decode cX10_poise 14 = .ok (.ifCond .ne 5, 3) := by decide +kernel
theorem dX10_poise_17 : decode cX10_poise 17 = .ok (.dconst 0, 1) := by decide +kernel
theorem dX10_poise_18 : decode cX10_poise 18 = .ok (.dreturn, 1) := by decide +kernel
def wsX10_digest_r1 : List Cond := [Cond.fieldLink RX10 23 "VersorhallModel" "thrown" "I", Cond.constantLong RX10 266 (58236), Cond.constantLong RX10 268 (31), Cond.fieldLink RX10 16 "VersorhallModel" "algebras" "Ljava/util/List;", Cond.classLink RX10 53 "VersorhallModel$Algebra", Cond.fieldLink RX10 20 "VersorhallModel" "elements" "Ljava/util/List;", Cond.methodLink RX10 244 yX10_manyNow, Cond.instanceMethod yX10_manyNow, Cond.selects RX10 yX10_manyNow yX10_manyNow, Cond.initialized RX10, Cond.code yX10_manyNow cX10_manyNow 6 (some .int), Cond.arrayClass .int, Cond.fieldLink RX10 7 "VersorhallModel" "p" "I", Cond.fieldLink RX10 169 "VersorhallModel" "knocks" "I", Cond.methodLink RX10 30 ⟨"java/util/List", "size", "()I"⟩, Cond.selects RJx4a65c ⟨"java/util/List", "size", "()I"⟩ yJx4a65c_size_8abf5, Cond.instanceMethod yJx4a65c_size_8abf5, Cond.initialized RJx4a65c, Cond.code yJx4a65c_size_8abf5 cJx4a65c_size_8abf5 1 (some .int), Cond.fieldLink RJx4a65c 48 "java/util/ArrayList" "size" "I", Cond.methodLink RX10 40 ⟨"java/util/List", "get", "(I)Ljava/lang/Object;"⟩, Cond.selects RJx4a65c ⟨"java/util/List", "get", "(I)Ljava/lang/Object;"⟩ yJx4a65c_get_915e3, Cond.instanceMethod yJx4a65c_get_915e3, Cond.code yJx4a65c_get_915e3 cJx4a65c_get_915e3 2 (some (.object "java/lang/Object"))]
def wsX10_digest_r2 : List Cond := [Cond.methodLink RJx4a65c 118 yJ15_checkIndex_7cf53, Cond.static yJ15_checkIndex_7cf53, Cond.initialized RJ15, Cond.code yJ15_checkIndex_7cf53 cJ15_checkIndex_7cf53 2 (some .int), Cond.methodLink RJ15 105 yJ3_checkIndex_8e157, Cond.static yJ3_checkIndex_8e157, Cond.initialized RJ3, Cond.code yJ3_checkIndex_8e157 cJ3_checkIndex_8e157 3 (some .int), Cond.methodLink RJx4a65c 123 yJx4a65c_elementData_915e3, Cond.instanceMethod yJx4a65c_elementData_915e3, Cond.selects RJx4a65c yJx4a65c_elementData_915e3 yJx4a65c_elementData_915e3, Cond.code yJx4a65c_elementData_915e3 cJx4a65c_elementData_915e3 2 (some (.object "java/lang/Object")), Cond.fieldLink RJx4a65c 9 "java/util/ArrayList" "elementData" "[Ljava/lang/Object;", Cond.methodLink RX10 82 yX8_units, Cond.instanceMethod yX8_units, Cond.selects RX8 yX8_units yX8_units, Cond.initialized RX8, Cond.code yX8_units cX8_units 1 (some .int), Cond.fieldLink RX8 35 "VersorhallModel$Algebra" "many" "I", Cond.methodLink RX10 91 yX10_row, Cond.instanceMethod yX10_row, Cond.selects RX10 yX10_row yX10_row, Cond.code yX10_row cX10_row 2 (some (.array .int)), Cond.classLink RX10 44 "VersorhallModel$Element"]
def wsX10_digest_r3 : List Cond := [Cond.fieldLink RX10 49 "VersorhallModel$Element" "row" "[I", Cond.methodLink RX10 125 yX10_isPlain, Cond.static yX10_isPlain, Cond.code yX10_isPlain cX10_isPlain 1 (some .boolean), Cond.methodLink RX10 55 yX10_size, Cond.static yX10_size, Cond.code yX10_size cX10_size 6 (some .int), Cond.methodLink RX10 178 yX10_normOf, Cond.instanceMethod yX10_normOf, Cond.selects RX10 yX10_normOf yX10_normOf, Cond.code yX10_normOf cX10_normOf 2 (some .int), Cond.methodLink RX10 106 yX10_home, Cond.instanceMethod yX10_home, Cond.selects RX10 yX10_home yX10_home, Cond.code yX10_home cX10_home 2 (some (.object "VersorhallModel$Algebra")), Cond.fieldLink RX10 46 "VersorhallModel$Element" "algebra" "I", Cond.methodLink RX10 118 yX8_conjugated, Cond.instanceMethod yX8_conjugated, Cond.selects RX8 yX8_conjugated yX8_conjugated, Cond.code yX8_conjugated cX8_conjugated 4 (some (.array .int)), Cond.fieldLink RX8 3 "VersorhallModel$Algebra" "this$0" "LVersorhallModel;", Cond.methodLink RX8 38 yX8_units, Cond.methodLink RX8 51 yX8_conjugate, Cond.instanceMethod yX8_conjugate]
def wsX10_digest_r4 : List Cond := [Cond.selects RX8 yX8_conjugate yX8_conjugate, Cond.code yX8_conjugate cX8_conjugate 3 (some .int), Cond.fieldLink RX8 31 "VersorhallModel$Algebra" "kind" "I", Cond.static yX10_grade, Cond.code yX10_grade cX10_grade 3 (some .int), Cond.instanceMethod yX10_mod, Cond.selects RX10 yX10_mod yX10_mod, Cond.code yX10_mod cX10_mod 2 (some .int), Cond.methodLink RX10 110 yX8_times, Cond.instanceMethod yX8_times, Cond.selects RX8 yX8_times yX8_times, Cond.code yX8_times cX8_times 6 (some (.array .int)), Cond.fieldLink RX8 20 "VersorhallModel$Algebra" "signs" "[[I", Cond.methodLink RX10 236 yX10_allQuarters, Cond.instanceMethod yX10_allQuarters, Cond.selects RX10 yX10_allQuarters yX10_allQuarters, Cond.code yX10_allQuarters cX10_allQuarters 3 (some .int), Cond.methodLink RX10 231 yX10_quarters, Cond.instanceMethod yX10_quarters, Cond.selects RX10 yX10_quarters yX10_quarters, Cond.code yX10_quarters cX10_quarters 4 (some .int), Cond.methodLink RX10 221 yX10_algebraNow, Cond.instanceMethod yX10_algebraNow, Cond.selects RX10 yX10_algebraNow yX10_algebraNow]
def wsX10_digest_r5 : List Cond := [Cond.code yX10_algebraNow cX10_algebraNow 8 (some .int), Cond.fieldLink RX10 154 "VersorhallModel$Algebra" "kind" "I", Cond.fieldLink RX10 72 "VersorhallModel$Algebra" "many" "I", Cond.fieldLink RX10 160 "VersorhallModel$Algebra" "mirrors" "Ljava/util/List;", Cond.methodLink RX10 217 yX8_keeps, Cond.instanceMethod yX8_keeps, Cond.selects RX8 yX8_keeps yX8_keeps, Cond.code yX8_keeps cX8_keeps 6 (some .boolean), Cond.methodLink RX8 79 yX8_gap, Cond.instanceMethod yX8_gap, Cond.selects RX8 yX8_gap yX8_gap, Cond.code yX8_gap cX8_gap 4 (some .int), Cond.methodLink RX10 75 yX10_elementsOf, Cond.instanceMethod yX10_elementsOf, Cond.selects RX10 yX10_elementsOf yX10_elementsOf, Cond.code yX10_elementsOf cX10_elementsOf 4 (some .int), Cond.methodLink RX10 227 yX10_breakNow, Cond.instanceMethod yX10_breakNow, Cond.selects RX10 yX10_breakNow yX10_breakNow, Cond.code yX10_breakNow cX10_breakNow 7 (some .int), Cond.methodLink RX10 250 yX10_rowNow, Cond.instanceMethod yX10_rowNow, Cond.selects RX10 yX10_rowNow yX10_rowNow, Cond.code yX10_rowNow cX10_rowNow 5 (some .int)]
def wsX10_digest_r6 : List Cond := [Cond.methodLink RX10 247 yX8_form, Cond.instanceMethod yX8_form, Cond.selects RX8 yX8_form yX8_form, Cond.code yX8_form cX8_form 5 (some .int), Cond.fieldLink RX8 15 "VersorhallModel$Algebra" "dials" "[I", Cond.methodLink RX10 263 yX10_matchNow, Cond.instanceMethod yX10_matchNow, Cond.selects RX10 yX10_matchNow yX10_matchNow, Cond.code yX10_matchNow cX10_matchNow 5 (some .int), Cond.methodLink RX10 259 yX10_orderNow, Cond.instanceMethod yX10_orderNow, Cond.selects RX10 yX10_orderNow yX10_orderNow, Cond.code yX10_orderNow cX10_orderNow 8 (some .int), Cond.fieldLink RX10 253 "VersorhallModel$Algebra" "dials" "[I", Cond.methodLink RX10 256 yX10_scaleNow, Cond.instanceMethod yX10_scaleNow, Cond.selects RX10 yX10_scaleNow yX10_scaleNow, Cond.code yX10_scaleNow cX10_scaleNow 4 (some .int), Cond.methodLink RX10 26 yX10_mod, Cond.methodLink RX10 188 yX10_elementNow, Cond.instanceMethod yX10_elementNow, Cond.selects RX10 yX10_elementNow yX10_elementNow, Cond.code yX10_elementNow cX10_elementNow 3 (some .int), Cond.classLink RX10 139 "[I"]
def wsX10_digest_r7 : List Cond := [Cond.methodLink RX10 181 yX10_orderOf, Cond.instanceMethod yX10_orderOf, Cond.selects RX10 yX10_orderOf yX10_orderOf, Cond.code yX10_orderOf cX10_orderOf 4 (some .int), Cond.methodLink RX10 132 yX8_one, Cond.instanceMethod yX8_one, Cond.selects RX8 yX8_one yX8_one, Cond.code yX8_one cX8_one 2 (some (.array .int)), Cond.methodLink RX10 136 yX10_nilOf, Cond.instanceMethod yX10_nilOf, Cond.selects RX10 yX10_nilOf yX10_nilOf, Cond.code yX10_nilOf cX10_nilOf 4 (some .int), Cond.methodLink RX10 184 yX10_isSame, Cond.static yX10_isSame, Cond.code yX10_isSame cX10_isSame 3 (some .boolean), Cond.methodLink RX10 163 yX10_isVector, Cond.instanceMethod yX10_isVector, Cond.selects RX10 yX10_isVector yX10_isVector, Cond.code yX10_isVector cX10_isVector 4 (some .boolean), Cond.methodLink RX10 157 yX10_grade, Cond.methodLink RX10 166 yX10_squareOf, Cond.instanceMethod yX10_squareOf, Cond.selects RX10 yX10_squareOf yX10_squareOf, Cond.code yX10_squareOf cX10_squareOf 2 (some .int)]
def wsX10_digest_r8 : List Cond := [Cond.methodLink RX10 146 yX10_columns, Cond.instanceMethod yX10_columns, Cond.selects RX10 yX10_columns yX10_columns, Cond.code yX10_columns cX10_columns 7 (some (.array (.array .int))), Cond.methodLink RX10 150 yX10_free, Cond.instanceMethod yX10_free, Cond.selects RX10 yX10_free yX10_free, Cond.code yX10_free cX10_free 10 (some .int), Cond.methodLink RX10 129 yX10_inverse, Cond.instanceMethod yX10_inverse, Cond.selects RX10 yX10_inverse yX10_inverse, Cond.code yX10_inverse cX10_inverse 3 (some .int), Cond.methodLink RX10 140 yX10_less, Cond.instanceMethod yX10_less, Cond.selects RX10 yX10_less yX10_less, Cond.code yX10_less cX10_less 5 none, Cond.methodLink RX10 213 yX10_textNow, Cond.instanceMethod yX10_textNow, Cond.selects RX10 yX10_textNow yX10_textNow, Cond.code yX10_textNow cX10_textNow 4 (some (.object "java/lang/String")), Cond.classLink RX10 192 RJ4, Cond.instantiable RJ4 4, Cond.initialized RJ4, Cond.methodLink RX10 194 yJ4_init_da8c8]
def wsX10_digest_r9 : List Cond := [Cond.instanceMethod yJ4_init_da8c8, Cond.code yJ4_init_da8c8 cJ4_init_da8c8 1 none, Cond.methodLink RJ4 1 yJ5_init_d00df, Cond.instanceMethod yJ5_init_d00df, Cond.initialized RJ5, Cond.code yJ5_init_d00df cJ5_init_d00df 2 none, Cond.methodLink RJ5 3 objectInit, Cond.instanceMethod objectInit, Cond.code objectInit ⟨#[0xb1]⟩ 1 none, Cond.fieldLink RJ5 18 "java/lang/String" "COMPACT_STRINGS" "Z", Cond.arrayClass .byte, Cond.fieldLink RJ5 15 "java/lang/AbstractStringBuilder" "value" "[B", Cond.fieldLink RJ5 22 "java/lang/AbstractStringBuilder" "coder" "B", Cond.methodLink RJ5 26 yJ2_newBytesFor_77867, Cond.static yJ2_newBytesFor_77867, Cond.initialized RJ2, Cond.code yJ2_newBytesFor_77867 cJ2_newBytesFor_77867 1 (some (.array .byte)), Cond.methodLink RJ2 11 yJ2_newBytesLength_0f7a4, Cond.static yJ2_newBytesLength_0f7a4, Cond.code yJ2_newBytesLength_0f7a4 cJ2_newBytesLength_0f7a4 1 (some .int), Cond.constant RJ2 20 (1073741823), Cond.methodLink RX10 195 yJ4_length_8abf5, Cond.instanceMethod yJ4_length_8abf5, Cond.selects RJ4 yJ4_length_8abf5 yJ4_length_8abf5]
def wsX10_digest_r10 : List Cond := [Cond.code yJ4_length_8abf5 cJ4_length_8abf5 1 (some .int), Cond.methodLink RJ4 343 yJ5_length_8abf5, Cond.sameMethod "java/lang/AbstractStringBuilder" "java/lang/AbstractStringBuilder" "length" "()I", Cond.superclass RJ4 RJ5, Cond.instanceMethod yJ5_length_8abf5, Cond.code yJ5_length_8abf5 cJ5_length_8abf5 1 (some .int), Cond.fieldLink RJ5 79 "java/lang/AbstractStringBuilder" "count" "I", Cond.methodLink RX10 198 yJ4_append_cf468, Cond.instanceMethod yJ4_append_cf468, Cond.selects RJ4 yJ4_append_cf468 yJ4_append_cf468, Cond.code yJ4_append_cf468 cJ4_append_cf468 2 (some (.object "java/lang/StringBuilder")), Cond.methodLink RJ4 50 yJ5_append_3fe6f, Cond.sameMethod "java/lang/AbstractStringBuilder" "java/lang/AbstractStringBuilder" "append" "(C)Ljava/lang/AbstractStringBuilder;", Cond.instanceMethod yJ5_append_3fe6f, Cond.code yJ5_append_3fe6f cJ5_append_3fe6f 2 (some (.object "java/lang/AbstractStringBuilder")), Cond.methodLink RJ5 100 ⟨"java/lang/AbstractStringBuilder", "ensureCapacityInternal", "(I)V"⟩, Cond.sameMethod "java/lang/AbstractStringBuilder" "java/lang/AbstractStringBuilder" "ensureCapacityInternal" "(I)V", Cond.selects RJ4 ⟨"java/lang/AbstractStringBuilder", "ensureCapacityInternal", "(I)V"⟩ yJ5_ensureCapacityInternal_d00df, Cond.instanceMethod yJ5_ensureCapacityInternal_d00df, Cond.code yJ5_ensureCapacityInternal_d00df cJ5_ensureCapacityInternal_d00df 3 none, Cond.methodLink RJ5 104 ⟨"java/lang/AbstractStringBuilder", "newCapacity", "(I)I"⟩, Cond.sameMethod "java/lang/AbstractStringBuilder" "java/lang/AbstractStringBuilder" "newCapacity" "(I)I", Cond.selects RJ4 ⟨"java/lang/AbstractStringBuilder", "newCapacity", "(I)I"⟩ yJ5_newCapacity_0f7a4, Cond.instanceMethod yJ5_newCapacity_0f7a4]
def wsX10_digest_r11 : List Cond := [Cond.code yJ5_newCapacity_0f7a4 cJ5_newCapacity_0f7a4 6 (some .int), Cond.constant RJ5 39 (2147483647), Cond.methodLink RJ5 114 yJ8_newLength_cabcc, Cond.static yJ8_newLength_cabcc, Cond.initialized RJ8, Cond.code yJ8_newLength_cabcc cJ8_newLength_cabcc 4 (some .int), Cond.methodLink RJ8 194 Lib.Math.max.name, Cond.static Lib.Math.max.name, Cond.initialized "java/lang/Math", Cond.code Lib.Math.max.name Lib.Math.max.code 2 (some .int), Cond.constant RJ8 200 (2147483639), Cond.methodLink RJ8 201 yJ8_hugeLength_7cf53, Cond.static yJ8_hugeLength_7cf53, Cond.code yJ8_hugeLength_7cf53 cJ8_hugeLength_7cf53 3 (some .int), Cond.methodLink RJ5 108 yJ7_copyOf_9075b, Cond.static yJ7_copyOf_9075b, Cond.initialized RJ7, Cond.code yJ7_copyOf_9075b cJ7_copyOf_9075b 3 (some (.array .byte)), Cond.methodLink RJ7 310 ⟨"[B", "clone", "()Ljava/lang/Object;"⟩, Cond.sameMethod "[B" "java/lang/Object" "clone" "()Ljava/lang/Object;", Cond.native ⟨"java/lang/Object", "clone", "()Ljava/lang/Object;"⟩, Cond.instanceMethod ⟨"java/lang/Object", "clone", "()Ljava/lang/Object;"⟩, Cond.selects "[B" ⟨"[B", "clone", "()Ljava/lang/Object;"⟩ ⟨"java/lang/Object", "clone", "()Ljava/lang/Object;"⟩, Cond.classLink RJ7 311 "[B"]
def wsX10_digest_r12 : List Cond := [Cond.methodLink RJ7 304 Lib.Math.min.name, Cond.static Lib.Math.min.name, Cond.code Lib.Math.min.name Lib.Math.min.code 2 (some .int), Cond.methodLink RJ7 150 arraycopyName, Cond.native arraycopyName, Cond.static arraycopyName, Cond.initialized "java/lang/System", Cond.methodLink RJ5 83 ⟨"java/lang/AbstractStringBuilder", "isLatin1", "()Z"⟩, Cond.sameMethod "java/lang/AbstractStringBuilder" "java/lang/AbstractStringBuilder" "isLatin1" "()Z", Cond.selects RJ4 ⟨"java/lang/AbstractStringBuilder", "isLatin1", "()Z"⟩ yJ5_isLatin1_aae02, Cond.instanceMethod yJ5_isLatin1_aae02, Cond.code yJ5_isLatin1_aae02 cJ5_isLatin1_aae02 1 (some .boolean), Cond.methodLink RJ5 191 yJ1_canEncode_fc78d, Cond.static yJ1_canEncode_fc78d, Cond.initialized RJ1, Cond.code yJ1_canEncode_fc78d cJ1_canEncode_fc78d 1 (some .boolean), Cond.methodLink RJ5 195 ⟨"java/lang/AbstractStringBuilder", "inflate", "()V"⟩, Cond.sameMethod "java/lang/AbstractStringBuilder" "java/lang/AbstractStringBuilder" "inflate" "()V", Cond.selects RJ4 ⟨"java/lang/AbstractStringBuilder", "inflate", "()V"⟩ yJ5_inflate_da8c8, Cond.instanceMethod yJ5_inflate_da8c8, Cond.code yJ5_inflate_da8c8 cJ5_inflate_da8c8 2 none, Cond.methodLink RJ5 125 yJ1_inflate_0e8fd, Cond.static yJ1_inflate_0e8fd, Cond.code yJ1_inflate_0e8fd cJ1_inflate_0e8fd 5 none]
def wsX10_digest_r13 : List Cond := [Cond.methodLink RJ1 240 yJ2_inflate_0e8fd, Cond.static yJ2_inflate_0e8fd, Cond.code yJ2_inflate_0e8fd cJ2_inflate_0e8fd 6 none, Cond.methodLink RJ2 173 yJ2_checkBoundsOffCount_d044e, Cond.static yJ2_checkBoundsOffCount_d044e, Cond.code yJ2_checkBoundsOffCount_d044e cJ2_checkBoundsOffCount_d044e 3 none, Cond.methodLink RJ2 48 yJ2_length_9d52b, Cond.static yJ2_length_9d52b, Cond.code yJ2_length_9d52b cJ2_length_9d52b 1 (some .int), Cond.methodLink RJ2 419 yJ0_checkBoundsOffCount_cabcc, Cond.static yJ0_checkBoundsOffCount_cabcc, Cond.initialized RJ0, Cond.code yJ0_checkBoundsOffCount_cabcc cJ0_checkBoundsOffCount_cabcc 3 (some .int), Cond.fieldLink RJ0 1053 "jdk/internal/util/Preconditions" "SIOOBE_FORMATTER" "Ljava/util/function/BiFunction;", Cond.methodLink RJ0 1065 yJ3_checkFromIndexSize_8c36e, Cond.static yJ3_checkFromIndexSize_8c36e, Cond.code yJ3_checkFromIndexSize_8c36e cJ3_checkFromIndexSize_8c36e 4 (some .int), Cond.methodLink RJ2 111 yJ2_putChar_b72d1, Cond.static yJ2_putChar_b72d1, Cond.code yJ2_putChar_b72d1 cJ2_putChar_b72d1 3 none, Cond.fieldLink RJ2 44 "java/lang/StringUTF16" "$assertionsDisabled" "Z", Cond.fieldLink RJ2 59 "java/lang/StringUTF16" "HI_BYTE_SHIFT" "I", Cond.fieldLink RJ2 63 "java/lang/StringUTF16" "LO_BYTE_SHIFT" "I", Cond.methodLink RJ5 197 yJ2_putCharSB_b72d1]
def wsX10_digest_r14 : List Cond := [Cond.static yJ2_putCharSB_b72d1, Cond.code yJ2_putCharSB_b72d1 cJ2_putCharSB_b72d1 3 none, Cond.methodLink RJ2 67 yJ2_checkIndex_2214a, Cond.static yJ2_checkIndex_2214a, Cond.code yJ2_checkIndex_2214a cJ2_checkIndex_2214a 2 none, Cond.methodLink RJ2 414 yJ0_checkIndex_df160, Cond.static yJ0_checkIndex_df160, Cond.code yJ0_checkIndex_df160 cJ0_checkIndex_df160 2 none, Cond.methodLink RJ0 1059 yJ3_checkIndex_8e157, Cond.methodLink RX10 202 yJ4_append_bf812, Cond.instanceMethod yJ4_append_bf812, Cond.selects RJ4 yJ4_append_bf812 yJ4_append_bf812, Cond.code yJ4_append_bf812 cJ4_append_bf812 2 (some (.object "java/lang/StringBuilder")), Cond.methodLink RJ4 53 yJ5_append_c97b9, Cond.sameMethod "java/lang/AbstractStringBuilder" "java/lang/AbstractStringBuilder" "append" "(I)Ljava/lang/AbstractStringBuilder;", Cond.instanceMethod yJ5_append_c97b9, Cond.code yJ5_append_c97b9 cJ5_append_c97b9 4 (some (.object "java/lang/AbstractStringBuilder")), Cond.methodLink RJ5 245 yJ6_stringSize_0f7a4, Cond.static yJ6_stringSize_0f7a4, Cond.initialized RJ6, Cond.code yJ6_stringSize_0f7a4 cJ6_stringSize_0f7a4 4 (some .int), Cond.methodLink RJ5 248 yJ6_getChars_ba4f3, Cond.static yJ6_getChars_ba4f3, Cond.code yJ6_getChars_ba4f3 cJ6_getChars_ba4f3 7 (some .int)]
def wsX10_digest_r15 : List Cond := [Cond.fieldLink RJ6 83 "java/lang/Integer" "DigitOnes" "[B", Cond.fieldLink RJ6 87 "java/lang/Integer" "DigitTens" "[B", Cond.methodLink RJ5 251 yJ2_getChars_46870, Cond.static yJ2_getChars_46870, Cond.code yJ2_getChars_46870 cJ2_getChars_46870 5 (some .int), Cond.methodLink RJ2 96 yJ2_checkBoundsBeginEnd_d044e, Cond.static yJ2_checkBoundsBeginEnd_d044e, Cond.code yJ2_checkBoundsBeginEnd_d044e cJ2_checkBoundsBeginEnd_d044e 3 none, Cond.methodLink RJ2 241 yJ0_checkBoundsBeginEnd_23922, Cond.static yJ0_checkBoundsBeginEnd_23922, Cond.code yJ0_checkBoundsBeginEnd_23922 cJ0_checkBoundsBeginEnd_23922 3 none, Cond.methodLink RJ0 1062 yJ3_checkFromToIndex_8c36e, Cond.static yJ3_checkFromToIndex_8c36e, Cond.code yJ3_checkFromToIndex_8c36e cJ3_checkFromToIndex_8c36e 4 (some .int), Cond.methodLink RJ2 393 yJ2_getChars_ba4f3, Cond.static yJ2_getChars_ba4f3, Cond.code yJ2_getChars_ba4f3 cJ2_getChars_ba4f3 7 (some .int), Cond.fieldLink RJ2 403 "java/lang/Integer" "DigitOnes" "[B", Cond.fieldLink RJ2 407 "java/lang/Integer" "DigitTens" "[B", Cond.methodLink RX10 207 yJ4_toString_0e30d, Cond.instanceMethod yJ4_toString_0e30d, Cond.selects RJ4 yJ4_toString_0e30d yJ4_toString_0e30d, Cond.code yJ4_toString_0e30d cJ4_toString_0e30d 1 (some (.object "java/lang/String")), Cond.classLink RJ4 18 RJ0]
def wsX10_digest_r16 : List Cond := [Cond.instantiable RJ0 4, Cond.methodLink RJ4 137 yJ0_init_81219, Cond.instanceMethod yJ0_init_81219, Cond.code yJ0_init_81219 cJ0_init_81219 2 none, Cond.methodLink RJ0 489 yJ0_init_db425, Cond.instanceMethod yJ0_init_db425, Cond.code yJ0_init_db425 cJ0_init_db425 5 none, Cond.methodLink RJ0 1 objectInit, Cond.fieldLink RJ0 15 "java/lang/String" "coder" "B", Cond.fieldLink RJ0 9 "java/lang/String" "value" "[B", Cond.fieldLink RJ0 38 "java/lang/String" "COMPACT_STRINGS" "Z", Cond.fieldLink RJ0 1048 "java/lang/AbstractStringBuilder" "maybeLatin1" "Z", Cond.methodLink RJ0 552 ⟨"java/lang/AbstractStringBuilder", "getValue", "()[B"⟩, Cond.sameMethod "java/lang/AbstractStringBuilder" "java/lang/AbstractStringBuilder" "getValue" "()[B", Cond.selects RJ4 ⟨"java/lang/AbstractStringBuilder", "getValue", "()[B"⟩ yJ5_getValue_6d5f1, Cond.instanceMethod yJ5_getValue_6d5f1, Cond.code yJ5_getValue_6d5f1 cJ5_getValue_6d5f1 1 (some (.array .byte)), Cond.methodLink RJ0 549 ⟨"java/lang/AbstractStringBuilder", "length", "()I"⟩, Cond.instanceMethod ⟨"java/lang/AbstractStringBuilder", "length", "()I"⟩, Cond.selects RJ4 ⟨"java/lang/AbstractStringBuilder", "length", "()I"⟩ yJ4_length_8abf5, Cond.methodLink RJ0 1047 ⟨"java/lang/AbstractStringBuilder", "isLatin1", "()Z"⟩, Cond.methodLink RJ0 54 yJ7_copyOfRange_39247, Cond.static yJ7_copyOfRange_39247, Cond.code yJ7_copyOfRange_39247 cJ7_copyOfRange_39247 3 (some (.array .byte))]
def wsX10_digest_r17 : List Cond := [Cond.methodLink RJ7 339 yJ7_copyOfRangeByte_39247, Cond.static yJ7_copyOfRangeByte_39247, Cond.code yJ7_copyOfRangeByte_39247 cJ7_copyOfRangeByte_39247 5 (some (.array .byte)), Cond.methodLink RJ7 343 yJ7_checkLength_df160, Cond.static yJ7_checkLength_df160, Cond.code yJ7_checkLength_df160 cJ7_checkLength_df160 2 none, Cond.classLink RJ7 45 RJ4, Cond.methodLink RJ0 1051 yJ2_compress_39247, Cond.static yJ2_compress_39247, Cond.code yJ2_compress_39247 cJ2_compress_39247 6 (some (.array .byte)), Cond.methodLink RJ2 123 yJ2_compress_5af95, Cond.static yJ2_compress_5af95, Cond.code yJ2_compress_5af95 cJ2_compress_5af95 7 (some .int), Cond.methodLink RJ2 71 yJ2_getChar_3b067, Cond.static yJ2_getChar_3b067, Cond.code yJ2_getChar_3b067 cJ2_getChar_3b067 2 (some .char), Cond.methodLink RJ2 126 yJ7_copyOfRange_39247, Cond.methodLink RJ0 47 yJ2_coderFromArrayLen_85cad, Cond.static yJ2_coderFromArrayLen_85cad, Cond.code yJ2_coderFromArrayLen_85cad cJ2_coderFromArrayLen_85cad 2 (some .byte), Cond.methodLink RX10 270 yJ0_length_8abf5, Cond.instanceMethod yJ0_length_8abf5, Cond.selects RJ0 yJ0_length_8abf5 yJ0_length_8abf5, Cond.code yJ0_length_8abf5 cJ0_length_8abf5 1 (some .int)]
def wsX10_digest_r18 : List Cond := [Cond.methodLink RJ0 335 yJ0_coder_7d493, Cond.instanceMethod yJ0_coder_7d493, Cond.selects RJ0 yJ0_coder_7d493 yJ0_coder_7d493, Cond.code yJ0_coder_7d493 cJ0_coder_7d493 1 (some .byte)]
def wsX10_digest : List Cond := .code yX10_digest cX10_digest 8 (some .long) :: ((wsX10_digest_r1 ++ (wsX10_digest_r2 ++ (wsX10_digest_r3 ++ (wsX10_digest_r4 ++ (wsX10_digest_r5 ++ (wsX10_digest_r6 ++ (wsX10_digest_r7 ++ (wsX10_digest_r8 ++ (wsX10_digest_r9 ++ (wsX10_digest_r10 ++ (wsX10_digest_r11 ++ (wsX10_digest_r12 ++ (wsX10_digest_r13 ++ (wsX10_digest_r14 ++ (wsX10_digest_r15 ++ (wsX10_digest_r16 ++ (wsX10_digest_r17 ++ wsX10_digest_r18))))))))))))))))) ++ wsX100 ++ wsJx4a65c0 ++ wsX80 ++ wsX90 ++ wsJ40 ++ wsJ00)
theorem dX10_digest_0 : decode cX10_digest 0 = .ok (.aload_n 0, 1) := by decide +kernel
theorem dX10_digest_1 : decode cX10_digest 1 = .ok (.iconst 0, 1) := by decide +kernel
theorem dX10_digest_2 : decode cX10_digest 2 = .ok (.putfield 23, 3) := by decide +kernel
theorem dX10_digest_5 : decode cX10_digest 5 = .ok (.ldc2_w 266, 3) := by decide +kernel
theorem dX10_digest_8 : decode cX10_digest 8 = .ok (.lstore_n 1, 1) := by decide +kernel
theorem dX10_digest_9 : decode cX10_digest 9 = .ok (.iconst 0, 1) := by decide +kernel
theorem dX10_digest_10 : decode cX10_digest 10 = .ok (.istore_n 3, 1) := by decide +kernel
theorem dX10_digest_11 : decode cX10_digest 11 = .ok (.iload_n 3, 1) := by decide +kernel
theorem dX10_digest_12 : decode cX10_digest 12 = .ok (.bipush 7, 2) := by decide +kernel
theorem dX10_digest_14 : decode cX10_digest 14 = .ok (.if_icmp .gt 22, 3) := by decide +kernel
theorem dX10_digest_17 : decode cX10_digest 17 = .ok (.lload_n 1, 1) := by decide +kernel
theorem dX10_digest_18 : decode cX10_digest 18 = .ok (.ldc2_w 268, 3) := by decide +kernel
theorem dX10_digest_21 : decode cX10_digest 21 = .ok (.lmul, 1) := by decide +kernel
theorem dX10_digest_22 : decode cX10_digest 22 = .ok (.aload_n 0, 1) := by decide +kernel
theorem dX10_digest_23 : decode cX10_digest 23 = .ok (.iload_n 3, 1) := by decide +kernel
set_option maxRecDepth 20000 in
theorem ggX10_digest_X10_manyNow : GoodIn wsX10_digest wsX10_manyNow := goodIn_r _ [11, 4, 5, 6, 12, 13, 14, 15, 16, 17, 18, 19, 20, 21, 22, 23, 24, 25, 26, 27, 28, 29, 30, 31, 32, 33, 34, 35, 36, 37, 38, 39, 40, 41, 42, 43, 44, 45, 46, 10, 47, 48, 49, 50, 51, 52, 53, 54, 55, 56, 57, 58, 59, 60, 61, 62, 63, 64, 65, 66, 67, 68, 69, 70, 71, 72, 73, 74, 75, 76, 77, 78, 79, 80, 81, 82, 83, 84, 85, 86, 87, 88, 89, 90, 91, 92, 93, 413, 414, 415, 416, 417, 418, 419, 420, 421, 422, 423, 424, 425, 426, 427, 428] (by decide +kernel) (by decide +kernel)
set_option maxRecDepth 20000 in
theorem gX10_digest_X10_manyNow : GoodIn wsX10_digest (wsV RX10 244 RX10 yX10_manyNow wsX10_manyNow) := goodIn_app (goodIn_of _ (by decide +kernel)) ggX10_digest_X10_manyNow
theorem dX10_digest_24 : decode cX10_digest 24 = .ok (.invokevirtual 244, 3) := by decide +kernel
theorem dX10_digest_27 : decode cX10_digest 27 = .ok (.i2l, 1) := by decide +kernel
theorem dX10_digest_28 : decode cX10_digest 28 = .ok (.ladd, 1) := by decide +kernel
theorem dX10_digest_29 : decode cX10_digest 29 = .ok (.lstore_n 1, 1) := by decide +kernel
theorem dX10_digest_30 : decode cX10_digest 30 = .ok (.iinc 3 1, 3) := by decide +kernel
theorem dX10_digest_33 : decode cX10_digest 33 = .ok (.goto (-22), 3) := by decide +kernel
theorem dX10_digest_36 : decode cX10_digest 36 = .ok (.iconst 0, 1) := by decide +kernel
theorem dX10_digest_37 : decode cX10_digest 37 = .ok (.istore_n 3, 1) := by decide +kernel
theorem dX10_digest_38 : decode cX10_digest 38 = .ok (.iload_n 3, 1) := by decide +kernel
theorem dX10_digest_39 : decode cX10_digest 39 = .ok (.aload_n 0, 1) := by decide +kernel
theorem dX10_digest_40 : decode cX10_digest 40 = .ok (.getfield 16, 3) := by decide +kernel
set_option maxRecDepth 20000 in
theorem ggX10_digest_Jx4a65c_size_8abf5 : GoodIn wsX10_digest wsJx4a65c_size_8abf5 := goodIn_r _ [19, 20, 418, 419, 420] (by decide +kernel) (by decide +kernel)
set_option maxRecDepth 20000 in
theorem gX10_digest_Jx4a65c_size_8abf5_f30Jx4a65c : GoodIn wsX10_digest (va_wsF RX10 30 RJx4a65c ⟨"java/util/List", "size", "()I"⟩ yJx4a65c_size_8abf5 wsJx4a65c_size_8abf5) := goodIn_app (goodIn_of _ (by decide +kernel)) ggX10_digest_Jx4a65c_size_8abf5
theorem dX10_digest_43 : decode cX10_digest 43 = .ok (.invokeinterface 30 1, 5) := by decide +kernel
theorem dX10_digest_48 : decode cX10_digest 48 = .ok (.if_icmp .ge 161, 3) := by decide +kernel
theorem dX10_digest_209 : decode cX10_digest 209 = .ok (.iconst 0, 1) := by decide +kernel
theorem dX10_digest_210 : decode cX10_digest 210 = .ok (.istore_n 3, 1) := by decide +kernel
theorem dX10_digest_211 : decode cX10_digest 211 = .ok (.iload_n 3, 1) := by decide +kernel
theorem dX10_digest_212 : decode cX10_digest 212 = .ok (.aload_n 0, 1) := by decide +kernel
theorem dX10_digest_213 : decode cX10_digest 213 = .ok (.getfield 20, 3) := by decide +kernel
theorem dX10_digest_216 : decode cX10_digest 216 = .ok (.invokeinterface 30 1, 5) := by decide +kernel
theorem dX10_digest_221 : decode cX10_digest 221 = .ok (.if_icmp .ge 101, 3) := by decide +kernel
theorem dX10_digest_322 : decode cX10_digest 322 = .ok (.lload_n 1, 1) := by decide +kernel
theorem dX10_digest_323 : decode cX10_digest 323 = .ok (.lreturn, 1) := by decide +kernel
set_option maxHeartbeats 4000000 in
set_option maxRecDepth 100000 in
/-- c_M_allQuarters -/
theorem c_M_allQuarters (l : Launch) (dC : Nat → ClassId) (dI : Nat → Nat → Nat) (dE : Nat) (h0 : Nat) (l1 : Nat) (l2 : Nat) (sz : Nat) : Met l yX10_allQuarters wsX10_allQuarters ({ frames := 1, cells := 0, slots := 0, locals := 20 }) (va_Pc [.ref h0] (PB dC dI dE [] [(h0, .inr (13, [.int 0, .int 7, .int 0, .ref l1, .ref l2])), (l1, .inr (2, [.int 0, .ref dE, .int 0])), (l2, .inr (2, [.int 0, .ref dE, .int 0]))] sz)) (va_Qi (fun (r : Int32) (_ : Unit) => r = 0) (fun (_ : Unit) (t : State) => PE dC dI [] [(h0, .inr (13, [.int 0, .int 7, .int 0, .ref l1, .ref l2])), (l1, .inr (2, [.int 0, .ref dE, .int 0])), (l2, .inr (2, [.int 0, .ref dE, .int 0]))] (va_A [(h0, .inr (13, [.int 0, .int 7, .int 0, .ref l1, .ref l2])), (l1, .inr (2, [.int 0, .ref dE, .int 0])), (l2, .inr (2, [.int 0, .ref dE, .int 0]))] sz) t) (va_A [(h0, .inr (13, [.int 0, .int 7, .int 0, .ref l1, .ref l2])), (l1, .inr (2, [.int 0, .ref dE, .int 0])), (l2, .inr (2, [.int 0, .ref dE, .int 0]))] sz)) 0 0 (va_A [(h0, .inr (13, [.int 0, .int 7, .int 0, .ref l1, .ref l2])), (l1, .inr (2, [.int 0, .ref dE, .int 0])), (l2, .inr (2, [.int 0, .ref dE, .int 0]))] sz) := by
  refine Met.ofW (cc := cX10_allQuarters) (maxL := 3) (ret := (some .int)) (by decide) rfl ?_
  intro p e s m args below meth c s₁ B hml hv
  obtain ⟨rfl, hsz, hP, hK, hD0, hTb, hZ⟩ := hv
  have hx := B.exec
  have hb := B.bytes
  have hr := B.returns
  have hts := atoms_spec (ws := wsX10_allQuarters) B.pre
  have hown : s.vm.findClass RX10 = some m.cls := findClass_of_methodNamed B.named
  have hlocks := B.notSynchronized
  subst hsz
  have hD := hD0.self (sz := s.heap.size)
  generalize hAe : va_A [(h0, .inr (13, [.int 0, .int 7, .int 0, .ref l1, .ref l2])), (l1, .inr (2, [.int 0, .ref dE, .int 0])), (l2, .inr (2, [.int 0, .ref dE, .int 0]))] s.heap.size = A at hD hZ ⊢
  have hA : ∀ q : Nat, s.heap.size ≤ q → A q := fun q h => by rw [← hAe]; exact Or.inr h
  have hS : va_S A s.heap s.heap [] := va_S.rf
  have hP : va_P (dC, dI) vwCl [(h0, .inr (13, [.int 0, .int 7, .int 0, .ref l1, .ref l2])), (l1, .inr (2, [.int 0, .ref dE, .int 0])), (l2, .inr (2, [.int 0, .ref dE, .int 0]))] s.heap := hP
  have hl := lv_entry ([.ref h0]) (n := 3) (Nat.le_of_ble_eq_true rfl)
  rw [lg_entry_eq]
  generalize (lg_sl ([.ref h0]) ++ List.replicate (3 - (lg_sl ([.ref h0])).length) Slot.unset).toArray = ls at hl ⊢
  have hl : lv_has ls 3 [(0, .ref h0)] := hl
  obtain ⟨H, eH⟩ : ∃ z, z = s.heap := ⟨_, rfl⟩
  rw [← eH] at hP ⊢
  have hS : va_S A s.heap H [] := by rw [eH]; exact va_S.rf
  refine lv_iconst (v := 0) hx hb dX10_allQuarters_0 (by decide) ?_
  refine lv_istore_n (lv' := [(1, .int 0), (0, .ref h0)]) hx hb dX10_allQuarters_1 rfl hl (by decide) rfl (fun ls hl => ?_)
  refine lv_iconst (v := 0) hx hb dX10_allQuarters_2 (by decide) ?_
  refine lv_istore_n (lv' := [(2, .int 0), (1, .int 0), (0, .ref h0)]) hx hb dX10_allQuarters_3 rfl hl (by decide) rfl (fun ls hl => ?_)
  refine lv_iload_n hx hb dX10_allQuarters_4 rfl (lv_at hl 0 rfl) ?_
  refine lv_aload_n hx hb dX10_allQuarters_5 rfl (lv_at hl 2 rfl) ?_
  refine va_get (D := (dC, dI)) (ci := 13) (v := .ref l2) (C := RX10) (T := TX10) (N := 5) hx hb hts (by decide +kernel) hown hK hP 0 rfl rfl 4 (by decide) (hts (.fieldLink RX10 20 "VersorhallModel" "elements" "Ljava/util/List;") (by decide +kernel)) (fun _ h9 => h9) rfl dX10_allQuarters_6 ?_
  have hPc := hP.sub (ws' := [(l2, .inr (2, [.int 0, .ref dE, .int 0]))]) [2] rfl
  have hDc := hD.sub (ws' := [(l2, .inr (2, [.int 0, .ref dE, .int 0]))]) [2] (by decide) rfl
  have hKc := hK.sub (tys' := []) [] rfl
  have hFc := va_free (wc := [(l2, .inr (2, [.int 0, .ref dE, .int 0]))]) hD hS hA [2] rfl
  refine va_callFi (va_runF ((hK.1 2 _ rfl).2) (As := []) (rest := [.int 0]) ⟨hx, hb, hml, hown, hts⟩ (c_List_size l dC dI dE l2 0 dE 0 H.size) (va_cwF 0 hts gX10_allQuarters_Jx4a65c_size_8abf5_f30Jx4a65c rfl rfl rfl (Tb_w1 hTb) (by decide +kernel) ⟨Nat.le_of_ble_eq_true rfl, Nat.le_of_ble_eq_true rfl⟩) ⟨fun a U g mk q => ⟨q.1, PB.blind q.2⟩, va_recv hKc hPc (ci := 2) (q0 := 0) rfl rfl, fun U hU hW => ⟨rfl, PB.call hPc hKc hDc hTb hZ hS hFc hU hW⟩⟩ rfl rfl hl.1 rfl (lv_room (Nat.le_of_ble_eq_true rfl)) dX10_allQuarters_9 ⟨Nat.le_of_ble_eq_true rfl, Nat.le_of_ble_eq_true rfl⟩) hS (fun q _ h => hFc q h) hFc (fun r u t H locs ht hvm hw hB hz1 hk1 hS => ?_)
  obtain ⟨hP, hD, hK⟩ := PE.join (wc := [(l2, .inr (2, [.int 0, .ref dE, .int 0]))]) (wr := [(h0, .inr (13, [.int 0, .int 7, .int 0, .ref l1, .ref l2])), (l1, .inr (2, [.int 0, .ref dE, .int 0]))]) (w1 := [(l2, .inr (2, [.int 0, .ref dE, .int 0]))]) (tr := []) (t1 := []) hP hD hK [2] [0, 1] [] rfl rfl rfl (by decide) (by decide) hk1 hFc ht hvm hB
  have hP : va_P (dC, dI) vwCl [(h0, .inr (13, [.int 0, .int 7, .int 0, .ref l1, .ref l2])), (l1, .inr (2, [.int 0, .ref dE, .int 0])), (l2, .inr (2, [.int 0, .ref dE, .int 0]))] H := hP
  have hD : va_D A [(h0, .inr (13, [.int 0, .int 7, .int 0, .ref l1, .ref l2])), (l1, .inr (2, [.int 0, .ref dE, .int 0])), (l2, .inr (2, [.int 0, .ref dE, .int 0]))] := hD
  have hK : va_K (dC, dI) vwCl [] s := hK
  subst hw
  refine lv_icmp_ge (tgt := 31) hx hb dX10_allQuarters_14 (by decide) (fun _ => ?_) (fun c9 => absurd (by decide) c9)
  refine lv_iload_n hx hb dX10_allQuarters_31 rfl (lv_at hl 1 rfl) ?_
  have hP9 := hP.sub (ws' := [(h0, .inr (13, [.int 0, .int 7, .int 0, .ref l1, .ref l2])), (l1, .inr (2, [.int 0, .ref dE, .int 0])), (l2, .inr (2, [.int 0, .ref dE, .int 0]))]) [0, 1, 2] rfl
  have hD9 := hD.sub (ws' := [(h0, .inr (13, [.int 0, .int 7, .int 0, .ref l1, .ref l2])), (l1, .inr (2, [.int 0, .ref dE, .int 0])), (l2, .inr (2, [.int 0, .ref dE, .int 0]))]) [0, 1, 2] (by decide) rfl
  have hK9 := hK.sub (tys' := []) [] rfl
  refine W.widen (k := 0) (n := 0) (Nat.le_of_ble_eq_true rfl) (Nat.le_of_ble_eq_true rfl) ?_
  exact W.iret (v := 0) hx hb hr (fun t ht hW => ⟨⟨_, (), rfl, rfl, PE.mk hP9 hK9 hD9 ht hW⟩, hS.F ht⟩) hS.2.2 dX10_allQuarters_32

set_option maxHeartbeats 4000000 in
set_option maxRecDepth 100000 in
/-- c_M_manyNow_0 -/
theorem c_M_manyNow_0 (l : Launch) (dC : Nat → ClassId) (dI : Nat → Nat → Nat) (dE : Nat) (h0 : Nat) (l1 : Nat) (l2 : Nat) (sz : Nat) : Met l yX10_manyNow wsX10_manyNow ({ frames := 2, cells := 1, slots := 8, locals := 42 }) (va_Pc [.ref h0, .int 0] (PB dC dI dE [] [(h0, .inr (13, [.int 0, .int 7, .int 0, .ref l1, .ref l2])), (l1, .inr (2, [.int 0, .ref dE, .int 0])), (l2, .inr (2, [.int 0, .ref dE, .int 0]))] sz)) (va_Qi (fun (r : Int32) (_ : Unit) => r = 7) (fun (_ : Unit) (t : State) => PE dC dI [] [(h0, .inr (13, [.int 0, .int 7, .int 0, .ref l1, .ref l2])), (l1, .inr (2, [.int 0, .ref dE, .int 0])), (l2, .inr (2, [.int 0, .ref dE, .int 0]))] (va_A [(h0, .inr (13, [.int 0, .int 7, .int 0, .ref l1, .ref l2])), (l1, .inr (2, [.int 0, .ref dE, .int 0])), (l2, .inr (2, [.int 0, .ref dE, .int 0]))] sz) t) (va_A [(h0, .inr (13, [.int 0, .int 7, .int 0, .ref l1, .ref l2])), (l1, .inr (2, [.int 0, .ref dE, .int 0])), (l2, .inr (2, [.int 0, .ref dE, .int 0]))] sz)) 1 8 (va_A [(h0, .inr (13, [.int 0, .int 7, .int 0, .ref l1, .ref l2])), (l1, .inr (2, [.int 0, .ref dE, .int 0])), (l2, .inr (2, [.int 0, .ref dE, .int 0]))] sz) := by
  refine Met.ofW (cc := cX10_manyNow) (maxL := 6) (ret := (some .int)) (by decide) rfl ?_
  intro p e s m args below meth c s₁ B hml hv
  obtain ⟨rfl, hsz, hP, hK, hD0, hTb, hZ⟩ := hv
  have hx := B.exec
  have hb := B.bytes
  have hr := B.returns
  have hts := atoms_spec (ws := wsX10_manyNow) B.pre
  have hown : s.vm.findClass RX10 = some m.cls := findClass_of_methodNamed B.named
  have hlocks := B.notSynchronized
  subst hsz
  have hD := hD0.self (sz := s.heap.size)
  generalize hAe : va_A [(h0, .inr (13, [.int 0, .int 7, .int 0, .ref l1, .ref l2])), (l1, .inr (2, [.int 0, .ref dE, .int 0])), (l2, .inr (2, [.int 0, .ref dE, .int 0]))] s.heap.size = A at hD hZ ⊢
  have hA : ∀ q : Nat, s.heap.size ≤ q → A q := fun q h => by rw [← hAe]; exact Or.inr h
  have hS : va_S A s.heap s.heap [] := va_S.rf
  have hP : va_P (dC, dI) vwCl [(h0, .inr (13, [.int 0, .int 7, .int 0, .ref l1, .ref l2])), (l1, .inr (2, [.int 0, .ref dE, .int 0])), (l2, .inr (2, [.int 0, .ref dE, .int 0]))] s.heap := hP
  have hl := lv_entry ([.ref h0, .int 0]) (n := 6) (Nat.le_of_ble_eq_true rfl)
  rw [lg_entry_eq]
  generalize (lg_sl ([.ref h0, .int 0]) ++ List.replicate (6 - (lg_sl ([.ref h0, .int 0])).length) Slot.unset).toArray = ls at hl ⊢
  have hl : lv_has ls 6 [(0, .ref h0), (1, .int 0)] := hl
  obtain ⟨H, eH⟩ : ∃ z, z = s.heap := ⟨_, rfl⟩
  rw [← eH] at hP ⊢
  have hS : va_S A s.heap H [] := by rw [eH]; exact va_S.rf
  refine lv_iconst (v := 0) hx hb dX10_manyNow_0 (by decide) ?_
  refine lv_istore_n (lv' := [(2, .int 0), (0, .ref h0), (1, .int 0)]) hx hb dX10_manyNow_1 rfl hl (by decide) rfl (fun ls hl => ?_)
  refine lv_iconst (v := 0) hx hb dX10_manyNow_2 (by decide) ?_
  refine lv_istore_n (lv' := [(3, .int 0), (2, .int 0), (0, .ref h0), (1, .int 0)]) hx hb dX10_manyNow_3 rfl hl (by decide) rfl (fun ls hl => ?_)
  refine lv_iconst (v := 0) hx hb dX10_manyNow_4 (by decide) ?_
  refine lv_istore (lv' := [(4, .int 0), (3, .int 0), (2, .int 0), (0, .ref h0), (1, .int 0)]) hx hb dX10_manyNow_5 hl (by decide) rfl (fun ls hl => ?_)
  refine lv_iconst (v := 0) hx hb dX10_manyNow_7 (by decide) ?_
  refine lv_istore (lv' := [(5, .int 0), (4, .int 0), (3, .int 0), (2, .int 0), (0, .ref h0), (1, .int 0)]) hx hb dX10_manyNow_8 hl (by decide) rfl (fun ls hl => ?_)
  refine lv_iload hx hb dX10_manyNow_10 (lv_at hl 0 rfl) ?_
  refine lv_aload_n hx hb dX10_manyNow_12 rfl (lv_at hl 4 rfl) ?_
  refine va_get (D := (dC, dI)) (ci := 13) (v := .ref l1) (C := RX10) (T := TX10) (N := 5) hx hb hts (by decide +kernel) hown hK hP 0 rfl rfl 3 (by decide) (hts (.fieldLink RX10 16 "VersorhallModel" "algebras" "Ljava/util/List;") (by decide +kernel)) (fun _ h9 => h9) rfl dX10_manyNow_13 ?_
  have hPc := hP.sub (ws' := [(l1, .inr (2, [.int 0, .ref dE, .int 0]))]) [1] rfl
  have hDc := hD.sub (ws' := [(l1, .inr (2, [.int 0, .ref dE, .int 0]))]) [1] (by decide) rfl
  have hKc := hK.sub (tys' := []) [] rfl
  have hFc := va_free (wc := [(l1, .inr (2, [.int 0, .ref dE, .int 0]))]) hD hS hA [1] rfl
  refine va_callFi (va_runF ((hK.1 2 _ rfl).2) (As := []) (rest := [.int 0]) ⟨hx, hb, hml, hown, hts⟩ (c_List_size l dC dI dE l1 0 dE 0 H.size) (va_cwF 0 hts gX10_manyNow_Jx4a65c_size_8abf5_f30Jx4a65c rfl rfl rfl (Tb_w1 hTb) (by decide +kernel) ⟨Nat.le_of_ble_eq_true rfl, Nat.le_of_ble_eq_true rfl⟩) ⟨fun a U g mk q => ⟨q.1, PB.blind q.2⟩, va_recv hKc hPc (ci := 2) (q0 := 0) rfl rfl, fun U hU hW => ⟨rfl, PB.call hPc hKc hDc hTb hZ hS hFc hU hW⟩⟩ rfl rfl hl.1 rfl (lv_room (Nat.le_of_ble_eq_true rfl)) dX10_manyNow_16 ⟨Nat.le_of_ble_eq_true rfl, Nat.le_of_ble_eq_true rfl⟩) hS (fun q _ h => hFc q h) hFc (fun r u t H locs ht hvm hw hB hz1 hk1 hS => ?_)
  obtain ⟨hP, hD, hK⟩ := PE.join (wc := [(l1, .inr (2, [.int 0, .ref dE, .int 0]))]) (wr := [(h0, .inr (13, [.int 0, .int 7, .int 0, .ref l1, .ref l2])), (l2, .inr (2, [.int 0, .ref dE, .int 0]))]) (w1 := [(l1, .inr (2, [.int 0, .ref dE, .int 0]))]) (tr := []) (t1 := []) hP hD hK [1] [0, 2] [] rfl rfl rfl (by decide) (by decide) hk1 hFc ht hvm hB
  have hP : va_P (dC, dI) vwCl [(h0, .inr (13, [.int 0, .int 7, .int 0, .ref l1, .ref l2])), (l2, .inr (2, [.int 0, .ref dE, .int 0])), (l1, .inr (2, [.int 0, .ref dE, .int 0]))] H := hP
  have hD : va_D A [(h0, .inr (13, [.int 0, .int 7, .int 0, .ref l1, .ref l2])), (l2, .inr (2, [.int 0, .ref dE, .int 0])), (l1, .inr (2, [.int 0, .ref dE, .int 0]))] := hD
  have hK : va_K (dC, dI) vwCl [] s := hK
  subst hw
  refine lv_icmp_ge (tgt := 50) hx hb dX10_manyNow_21 (by decide) (fun _ => ?_) (fun c9 => absurd (by decide) c9)
  refine lv_iconst (v := 0) hx hb dX10_manyNow_50 (by decide) ?_
  refine lv_istore (lv' := [(5, .int 0), (4, .int 0), (3, .int 0), (2, .int 0), (0, .ref h0), (1, .int 0)]) hx hb dX10_manyNow_51 hl (by decide) rfl (fun ls hl => ?_)
  refine lv_iload hx hb dX10_manyNow_53 (lv_at hl 0 rfl) ?_
  refine lv_aload_n hx hb dX10_manyNow_55 rfl (lv_at hl 4 rfl) ?_
  refine va_get (D := (dC, dI)) (ci := 13) (v := .ref l2) (C := RX10) (T := TX10) (N := 5) hx hb hts (by decide +kernel) hown hK hP 0 rfl rfl 4 (by decide) (hts (.fieldLink RX10 20 "VersorhallModel" "elements" "Ljava/util/List;") (by decide +kernel)) (fun _ h9 => h9) rfl dX10_manyNow_56 ?_
  have hPc := hP.sub (ws' := [(l2, .inr (2, [.int 0, .ref dE, .int 0]))]) [1] rfl
  have hDc := hD.sub (ws' := [(l2, .inr (2, [.int 0, .ref dE, .int 0]))]) [1] (by decide) rfl
  have hKc := hK.sub (tys' := []) [] rfl
  have hFc := va_free (wc := [(l2, .inr (2, [.int 0, .ref dE, .int 0]))]) hD hS hA [1] rfl
  refine va_callFi (va_runF ((hK.1 2 _ rfl).2) (As := []) (rest := [.int 0]) ⟨hx, hb, hml, hown, hts⟩ (c_List_size l dC dI dE l2 0 dE 0 H.size) (va_cwF 0 hts gX10_manyNow_Jx4a65c_size_8abf5_f30Jx4a65c rfl rfl rfl (Tb_w1 hTb) (by decide +kernel) ⟨Nat.le_of_ble_eq_true rfl, Nat.le_of_ble_eq_true rfl⟩) ⟨fun a U g mk q => ⟨q.1, PB.blind q.2⟩, va_recv hKc hPc (ci := 2) (q0 := 0) rfl rfl, fun U hU hW => ⟨rfl, PB.call hPc hKc hDc hTb hZ hS hFc hU hW⟩⟩ rfl rfl hl.1 rfl (lv_room (Nat.le_of_ble_eq_true rfl)) dX10_manyNow_59 ⟨Nat.le_of_ble_eq_true rfl, Nat.le_of_ble_eq_true rfl⟩) hS (fun q _ h => hFc q h) hFc (fun r u t H locs ht hvm hw hB hz1 hk1 hS => ?_)
  obtain ⟨hP, hD, hK⟩ := PE.join (wc := [(l2, .inr (2, [.int 0, .ref dE, .int 0]))]) (wr := [(h0, .inr (13, [.int 0, .int 7, .int 0, .ref l1, .ref l2])), (l1, .inr (2, [.int 0, .ref dE, .int 0]))]) (w1 := [(l2, .inr (2, [.int 0, .ref dE, .int 0]))]) (tr := []) (t1 := []) hP hD hK [1] [0, 2] [] rfl rfl rfl (by decide) (by decide) hk1 hFc ht hvm hB
  have hP : va_P (dC, dI) vwCl [(h0, .inr (13, [.int 0, .int 7, .int 0, .ref l1, .ref l2])), (l1, .inr (2, [.int 0, .ref dE, .int 0])), (l2, .inr (2, [.int 0, .ref dE, .int 0]))] H := hP
  have hD : va_D A [(h0, .inr (13, [.int 0, .int 7, .int 0, .ref l1, .ref l2])), (l1, .inr (2, [.int 0, .ref dE, .int 0])), (l2, .inr (2, [.int 0, .ref dE, .int 0]))] := hD
  have hK : va_K (dC, dI) vwCl [] s := hK
  subst hw
  refine lv_icmp_ge (tgt := 112) hx hb dX10_manyNow_64 (by decide) (fun _ => ?_) (fun c9 => absurd (by decide) c9)
  refine lv_bipush (v := 8) hx hb dX10_manyNow_112 (by decide) ?_
  refine va_newa (atype := .int) (ty := .int) (a0 := (8, .inl (fun _ => 0))) (n := 8) (N' := 8) hx hb (hts (.arrayClass .int) (by decide +kernel)) rfl hK hP hD hS hA (fun _ => rfl) (by decide) (by decide) (Nat.le_of_ble_eq_true rfl) (Nat.le_of_ble_eq_true rfl) (Nat.le_of_ble_eq_true rfl) dX10_manyNow_114 (fun q1 cAq1 H hK hP hD hS => ?_)
  have hP : va_P (dC, dI) vwCl [(h0, .inr (13, [.int 0, .int 7, .int 0, .ref l1, .ref l2])), (l1, .inr (2, [.int 0, .ref dE, .int 0])), (l2, .inr (2, [.int 0, .ref dE, .int 0])), (q1, .inl (cAq1, 8, .inl (fun _ => 0)))] H := hP
  have hD : va_D A [(h0, .inr (13, [.int 0, .int 7, .int 0, .ref l1, .ref l2])), (l1, .inr (2, [.int 0, .ref dE, .int 0])), (l2, .inr (2, [.int 0, .ref dE, .int 0])), (q1, .inl (cAq1, 8, .inl (fun _ => 0)))] := hD
  have hK : va_K (dC, dI) vwCl [(cAq1, .int)] s := hK
  refine W.widen (k := 1) (n := 8) (by omega) (by omega) ?_
  refine lv_dup hx hb dX10_manyNow_116 rfl ?_
  refine lv_iconst (v := 0) hx hb dX10_manyNow_117 (by decide) ?_
  refine lv_aload_n hx hb dX10_manyNow_118 rfl (lv_at hl 4 rfl) ?_
  refine va_get (D := (dC, dI)) (ci := 13) (v := .int 7) (C := RX10) (T := TX10) (N := 5) hx hb hts (by decide +kernel) hown hK hP 0 rfl rfl 1 (by decide) (hts (.fieldLink RX10 7 "VersorhallModel" "p" "I") (by decide +kernel)) (fun _ h9 => h9) rfl dX10_manyNow_119 ?_
  refine va_iast hx hb hK hP hD hS 3 0 rfl rfl (by unfold vp_in; decide) dX10_manyNow_122 (fun H locs hP hD hS => ?_)
  have hP : va_P (dC, dI) vwCl [(h0, .inr (13, [.int 0, .int 7, .int 0, .ref l1, .ref l2])), (l1, .inr (2, [.int 0, .ref dE, .int 0])), (l2, .inr (2, [.int 0, .ref dE, .int 0])), (q1, .inl (cAq1, 8, .inl (upd (fun _ => 0) (Int32.toNatClampNeg 0) 7)))] H := hP
  have hD : va_D A [(h0, .inr (13, [.int 0, .int 7, .int 0, .ref l1, .ref l2])), (l1, .inr (2, [.int 0, .ref dE, .int 0])), (l2, .inr (2, [.int 0, .ref dE, .int 0])), (q1, .inl (cAq1, 8, .inl (upd (fun _ => 0) (Int32.toNatClampNeg 0) 7)))] := hD
  refine lv_dup hx hb dX10_manyNow_123 rfl ?_
  refine lv_iconst (v := 1) hx hb dX10_manyNow_124 (by decide) ?_
  refine lv_aload_n hx hb dX10_manyNow_125 rfl (lv_at hl 4 rfl) ?_
  refine va_get (D := (dC, dI)) (ci := 13) (v := .ref l1) (C := RX10) (T := TX10) (N := 5) hx hb hts (by decide +kernel) hown hK hP 0 rfl rfl 3 (by decide) (hts (.fieldLink RX10 16 "VersorhallModel" "algebras" "Ljava/util/List;") (by decide +kernel)) (fun _ h9 => h9) rfl dX10_manyNow_126 ?_
  have hPc := hP.sub (ws' := [(l1, .inr (2, [.int 0, .ref dE, .int 0]))]) [1] rfl
  have hDc := hD.sub (ws' := [(l1, .inr (2, [.int 0, .ref dE, .int 0]))]) [1] (by decide) rfl
  have hKc := hK.sub (tys' := []) [] rfl
  have hFc := va_free (wc := [(l1, .inr (2, [.int 0, .ref dE, .int 0]))]) hD hS hA [1] rfl
  refine va_callFi (va_runF ((hK.1 2 _ rfl).2) (As := []) (rest := [.int 1, .ref q1, .ref q1]) ⟨hx, hb, hml, hown, hts⟩ (c_List_size l dC dI dE l1 0 dE 0 H.size) (va_cwF 0 hts gX10_manyNow_Jx4a65c_size_8abf5_f30Jx4a65c rfl rfl rfl (Tb_w1 hTb) (by decide +kernel) ⟨Nat.le_of_ble_eq_true rfl, Nat.le_of_ble_eq_true rfl⟩) ⟨fun a U g mk q => ⟨q.1, PB.blind q.2⟩, va_recv hKc hPc (ci := 2) (q0 := 0) rfl rfl, fun U hU hW => ⟨rfl, PB.call hPc hKc hDc hTb hZ hS hFc hU hW⟩⟩ rfl rfl hl.1 rfl (lv_room (Nat.le_of_ble_eq_true rfl)) dX10_manyNow_129 ⟨Nat.le_of_ble_eq_true rfl, Nat.le_of_ble_eq_true rfl⟩) hS (fun q _ h => hFc q h) hFc (fun r u t H locs ht hvm hw hB hz1 hk1 hS => ?_)
  obtain ⟨hP, hD, hK⟩ := PE.join (wc := [(l1, .inr (2, [.int 0, .ref dE, .int 0]))]) (wr := [(h0, .inr (13, [.int 0, .int 7, .int 0, .ref l1, .ref l2])), (l2, .inr (2, [.int 0, .ref dE, .int 0])), (q1, .inl (cAq1, 8, .inl (upd (fun _ => 0) (Int32.toNatClampNeg 0) 7)))]) (w1 := [(l1, .inr (2, [.int 0, .ref dE, .int 0]))]) (tr := [(cAq1, .int)]) (t1 := []) hP hD hK [1] [0, 2, 3] [0] rfl rfl rfl (by decide) (by decide) hk1 hFc ht hvm hB
  have hP : va_P (dC, dI) vwCl [(h0, .inr (13, [.int 0, .int 7, .int 0, .ref l1, .ref l2])), (l2, .inr (2, [.int 0, .ref dE, .int 0])), (q1, .inl (cAq1, 8, .inl (upd (fun _ => 0) (Int32.toNatClampNeg 0) 7))), (l1, .inr (2, [.int 0, .ref dE, .int 0]))] H := hP
  have hD : va_D A [(h0, .inr (13, [.int 0, .int 7, .int 0, .ref l1, .ref l2])), (l2, .inr (2, [.int 0, .ref dE, .int 0])), (q1, .inl (cAq1, 8, .inl (upd (fun _ => 0) (Int32.toNatClampNeg 0) 7))), (l1, .inr (2, [.int 0, .ref dE, .int 0]))] := hD
  have hK : va_K (dC, dI) vwCl [(cAq1, .int)] s := hK
  subst hw
  refine va_iast hx hb hK hP hD hS 2 0 rfl rfl (by unfold vp_in; decide) dX10_manyNow_134 (fun H locs hP hD hS => ?_)
  have hP : va_P (dC, dI) vwCl [(h0, .inr (13, [.int 0, .int 7, .int 0, .ref l1, .ref l2])), (l2, .inr (2, [.int 0, .ref dE, .int 0])), (q1, .inl (cAq1, 8, .inl (upd (upd (fun _ => 0) (Int32.toNatClampNeg 0) 7) (Int32.toNatClampNeg 1) 0))), (l1, .inr (2, [.int 0, .ref dE, .int 0]))] H := hP
  have hD : va_D A [(h0, .inr (13, [.int 0, .int 7, .int 0, .ref l1, .ref l2])), (l2, .inr (2, [.int 0, .ref dE, .int 0])), (q1, .inl (cAq1, 8, .inl (upd (upd (fun _ => 0) (Int32.toNatClampNeg 0) 7) (Int32.toNatClampNeg 1) 0))), (l1, .inr (2, [.int 0, .ref dE, .int 0]))] := hD
  refine lv_dup hx hb dX10_manyNow_135 rfl ?_
  refine lv_iconst (v := 2) hx hb dX10_manyNow_136 (by decide) ?_
  refine lv_aload_n hx hb dX10_manyNow_137 rfl (lv_at hl 4 rfl) ?_
  refine va_get (D := (dC, dI)) (ci := 13) (v := .ref l2) (C := RX10) (T := TX10) (N := 5) hx hb hts (by decide +kernel) hown hK hP 0 rfl rfl 4 (by decide) (hts (.fieldLink RX10 20 "VersorhallModel" "elements" "Ljava/util/List;") (by decide +kernel)) (fun _ h9 => h9) rfl dX10_manyNow_138 ?_
  have hPc := hP.sub (ws' := [(l2, .inr (2, [.int 0, .ref dE, .int 0]))]) [1] rfl
  have hDc := hD.sub (ws' := [(l2, .inr (2, [.int 0, .ref dE, .int 0]))]) [1] (by decide) rfl
  have hKc := hK.sub (tys' := []) [] rfl
  have hFc := va_free (wc := [(l2, .inr (2, [.int 0, .ref dE, .int 0]))]) hD hS hA [1] rfl
  refine va_callFi (va_runF ((hK.1 2 _ rfl).2) (As := []) (rest := [.int 2, .ref q1, .ref q1]) ⟨hx, hb, hml, hown, hts⟩ (c_List_size l dC dI dE l2 0 dE 0 H.size) (va_cwF 0 hts gX10_manyNow_Jx4a65c_size_8abf5_f30Jx4a65c rfl rfl rfl (Tb_w1 hTb) (by decide +kernel) ⟨Nat.le_of_ble_eq_true rfl, Nat.le_of_ble_eq_true rfl⟩) ⟨fun a U g mk q => ⟨q.1, PB.blind q.2⟩, va_recv hKc hPc (ci := 2) (q0 := 0) rfl rfl, fun U hU hW => ⟨rfl, PB.call hPc hKc hDc hTb hZ hS hFc hU hW⟩⟩ rfl rfl hl.1 rfl (lv_room (Nat.le_of_ble_eq_true rfl)) dX10_manyNow_141 ⟨Nat.le_of_ble_eq_true rfl, Nat.le_of_ble_eq_true rfl⟩) hS (fun q _ h => hFc q h) hFc (fun r u t H locs ht hvm hw hB hz1 hk1 hS => ?_)
  obtain ⟨hP, hD, hK⟩ := PE.join (wc := [(l2, .inr (2, [.int 0, .ref dE, .int 0]))]) (wr := [(h0, .inr (13, [.int 0, .int 7, .int 0, .ref l1, .ref l2])), (q1, .inl (cAq1, 8, .inl (upd (upd (fun _ => 0) (Int32.toNatClampNeg 0) 7) (Int32.toNatClampNeg 1) 0))), (l1, .inr (2, [.int 0, .ref dE, .int 0]))]) (w1 := [(l2, .inr (2, [.int 0, .ref dE, .int 0]))]) (tr := [(cAq1, .int)]) (t1 := []) hP hD hK [1] [0, 2, 3] [0] rfl rfl rfl (by decide) (by decide) hk1 hFc ht hvm hB
  have hP : va_P (dC, dI) vwCl [(h0, .inr (13, [.int 0, .int 7, .int 0, .ref l1, .ref l2])), (q1, .inl (cAq1, 8, .inl (upd (upd (fun _ => 0) (Int32.toNatClampNeg 0) 7) (Int32.toNatClampNeg 1) 0))), (l1, .inr (2, [.int 0, .ref dE, .int 0])), (l2, .inr (2, [.int 0, .ref dE, .int 0]))] H := hP
  have hD : va_D A [(h0, .inr (13, [.int 0, .int 7, .int 0, .ref l1, .ref l2])), (q1, .inl (cAq1, 8, .inl (upd (upd (fun _ => 0) (Int32.toNatClampNeg 0) 7) (Int32.toNatClampNeg 1) 0))), (l1, .inr (2, [.int 0, .ref dE, .int 0])), (l2, .inr (2, [.int 0, .ref dE, .int 0]))] := hD
  have hK : va_K (dC, dI) vwCl [(cAq1, .int)] s := hK
  subst hw
  refine va_iast hx hb hK hP hD hS 1 0 rfl rfl (by unfold vp_in; decide) dX10_manyNow_146 (fun H locs hP hD hS => ?_)
  have hP : va_P (dC, dI) vwCl [(h0, .inr (13, [.int 0, .int 7, .int 0, .ref l1, .ref l2])), (q1, .inl (cAq1, 8, .inl (upd (upd (upd (fun _ => 0) (Int32.toNatClampNeg 0) 7) (Int32.toNatClampNeg 1) 0) (Int32.toNatClampNeg 2) 0))), (l1, .inr (2, [.int 0, .ref dE, .int 0])), (l2, .inr (2, [.int 0, .ref dE, .int 0]))] H := hP
  have hD : va_D A [(h0, .inr (13, [.int 0, .int 7, .int 0, .ref l1, .ref l2])), (q1, .inl (cAq1, 8, .inl (upd (upd (upd (fun _ => 0) (Int32.toNatClampNeg 0) 7) (Int32.toNatClampNeg 1) 0) (Int32.toNatClampNeg 2) 0))), (l1, .inr (2, [.int 0, .ref dE, .int 0])), (l2, .inr (2, [.int 0, .ref dE, .int 0]))] := hD
  refine lv_dup hx hb dX10_manyNow_147 rfl ?_
  refine lv_iconst (v := 3) hx hb dX10_manyNow_148 (by decide) ?_
  refine lv_iload_n hx hb dX10_manyNow_149 rfl (lv_at hl 3 rfl) ?_
  refine va_iast hx hb hK hP hD hS 1 0 rfl rfl (by unfold vp_in; decide) dX10_manyNow_150 (fun H locs hP hD hS => ?_)
  have hP : va_P (dC, dI) vwCl [(h0, .inr (13, [.int 0, .int 7, .int 0, .ref l1, .ref l2])), (q1, .inl (cAq1, 8, .inl (upd (upd (upd (upd (fun _ => 0) (Int32.toNatClampNeg 0) 7) (Int32.toNatClampNeg 1) 0) (Int32.toNatClampNeg 2) 0) (Int32.toNatClampNeg 3) 0))), (l1, .inr (2, [.int 0, .ref dE, .int 0])), (l2, .inr (2, [.int 0, .ref dE, .int 0]))] H := hP
  have hD : va_D A [(h0, .inr (13, [.int 0, .int 7, .int 0, .ref l1, .ref l2])), (q1, .inl (cAq1, 8, .inl (upd (upd (upd (upd (fun _ => 0) (Int32.toNatClampNeg 0) 7) (Int32.toNatClampNeg 1) 0) (Int32.toNatClampNeg 2) 0) (Int32.toNatClampNeg 3) 0))), (l1, .inr (2, [.int 0, .ref dE, .int 0])), (l2, .inr (2, [.int 0, .ref dE, .int 0]))] := hD
  refine lv_dup hx hb dX10_manyNow_151 rfl ?_
  refine lv_iconst (v := 4) hx hb dX10_manyNow_152 (by decide) ?_
  refine lv_iload_n hx hb dX10_manyNow_153 rfl (lv_at hl 2 rfl) ?_
  refine va_iast hx hb hK hP hD hS 1 0 rfl rfl (by unfold vp_in; decide) dX10_manyNow_154 (fun H locs hP hD hS => ?_)
  have hP : va_P (dC, dI) vwCl [(h0, .inr (13, [.int 0, .int 7, .int 0, .ref l1, .ref l2])), (q1, .inl (cAq1, 8, .inl (upd (upd (upd (upd (upd (fun _ => 0) (Int32.toNatClampNeg 0) 7) (Int32.toNatClampNeg 1) 0) (Int32.toNatClampNeg 2) 0) (Int32.toNatClampNeg 3) 0) (Int32.toNatClampNeg 4) 0))), (l1, .inr (2, [.int 0, .ref dE, .int 0])), (l2, .inr (2, [.int 0, .ref dE, .int 0]))] H := hP
  have hD : va_D A [(h0, .inr (13, [.int 0, .int 7, .int 0, .ref l1, .ref l2])), (q1, .inl (cAq1, 8, .inl (upd (upd (upd (upd (upd (fun _ => 0) (Int32.toNatClampNeg 0) 7) (Int32.toNatClampNeg 1) 0) (Int32.toNatClampNeg 2) 0) (Int32.toNatClampNeg 3) 0) (Int32.toNatClampNeg 4) 0))), (l1, .inr (2, [.int 0, .ref dE, .int 0])), (l2, .inr (2, [.int 0, .ref dE, .int 0]))] := hD
  refine lv_dup hx hb dX10_manyNow_155 rfl ?_
  refine lv_iconst (v := 5) hx hb dX10_manyNow_156 (by decide) ?_
  refine lv_iload hx hb dX10_manyNow_157 (lv_at hl 1 rfl) ?_
  refine va_iast hx hb hK hP hD hS 1 0 rfl rfl (by unfold vp_in; decide) dX10_manyNow_159 (fun H locs hP hD hS => ?_)
  have hP : va_P (dC, dI) vwCl [(h0, .inr (13, [.int 0, .int 7, .int 0, .ref l1, .ref l2])), (q1, .inl (cAq1, 8, .inl (upd (upd (upd (upd (upd (upd (fun _ => 0) (Int32.toNatClampNeg 0) 7) (Int32.toNatClampNeg 1) 0) (Int32.toNatClampNeg 2) 0) (Int32.toNatClampNeg 3) 0) (Int32.toNatClampNeg 4) 0) (Int32.toNatClampNeg 5) 0))), (l1, .inr (2, [.int 0, .ref dE, .int 0])), (l2, .inr (2, [.int 0, .ref dE, .int 0]))] H := hP
  have hD : va_D A [(h0, .inr (13, [.int 0, .int 7, .int 0, .ref l1, .ref l2])), (q1, .inl (cAq1, 8, .inl (upd (upd (upd (upd (upd (upd (fun _ => 0) (Int32.toNatClampNeg 0) 7) (Int32.toNatClampNeg 1) 0) (Int32.toNatClampNeg 2) 0) (Int32.toNatClampNeg 3) 0) (Int32.toNatClampNeg 4) 0) (Int32.toNatClampNeg 5) 0))), (l1, .inr (2, [.int 0, .ref dE, .int 0])), (l2, .inr (2, [.int 0, .ref dE, .int 0]))] := hD
  refine lv_dup hx hb dX10_manyNow_160 rfl ?_
  refine lv_bipush (v := 6) hx hb dX10_manyNow_161 (by decide) ?_
  refine lv_aload_n hx hb dX10_manyNow_163 rfl (lv_at hl 4 rfl) ?_
  refine va_get (D := (dC, dI)) (ci := 13) (v := .int 0) (C := RX10) (T := TX10) (N := 5) hx hb hts (by decide +kernel) hown hK hP 0 rfl rfl 2 (by decide) (hts (.fieldLink RX10 169 "VersorhallModel" "knocks" "I") (by decide +kernel)) (fun _ h9 => h9) rfl dX10_manyNow_164 ?_
  refine va_iast hx hb hK hP hD hS 1 0 rfl rfl (by unfold vp_in; decide) dX10_manyNow_167 (fun H locs hP hD hS => ?_)
  have hP : va_P (dC, dI) vwCl [(h0, .inr (13, [.int 0, .int 7, .int 0, .ref l1, .ref l2])), (q1, .inl (cAq1, 8, .inl (upd (upd (upd (upd (upd (upd (upd (fun _ => 0) (Int32.toNatClampNeg 0) 7) (Int32.toNatClampNeg 1) 0) (Int32.toNatClampNeg 2) 0) (Int32.toNatClampNeg 3) 0) (Int32.toNatClampNeg 4) 0) (Int32.toNatClampNeg 5) 0) (Int32.toNatClampNeg 6) 0))), (l1, .inr (2, [.int 0, .ref dE, .int 0])), (l2, .inr (2, [.int 0, .ref dE, .int 0]))] H := hP
  have hD : va_D A [(h0, .inr (13, [.int 0, .int 7, .int 0, .ref l1, .ref l2])), (q1, .inl (cAq1, 8, .inl (upd (upd (upd (upd (upd (upd (upd (fun _ => 0) (Int32.toNatClampNeg 0) 7) (Int32.toNatClampNeg 1) 0) (Int32.toNatClampNeg 2) 0) (Int32.toNatClampNeg 3) 0) (Int32.toNatClampNeg 4) 0) (Int32.toNatClampNeg 5) 0) (Int32.toNatClampNeg 6) 0))), (l1, .inr (2, [.int 0, .ref dE, .int 0])), (l2, .inr (2, [.int 0, .ref dE, .int 0]))] := hD
  refine lv_dup hx hb dX10_manyNow_168 rfl ?_
  refine lv_bipush (v := 7) hx hb dX10_manyNow_169 (by decide) ?_
  refine lv_aload_n hx hb dX10_manyNow_171 rfl (lv_at hl 4 rfl) ?_
  have hPc := hP.sub (ws' := [(h0, .inr (13, [.int 0, .int 7, .int 0, .ref l1, .ref l2])), (l1, .inr (2, [.int 0, .ref dE, .int 0])), (l2, .inr (2, [.int 0, .ref dE, .int 0]))]) [0, 2, 3] rfl
  have hDc := hD.sub (ws' := [(h0, .inr (13, [.int 0, .int 7, .int 0, .ref l1, .ref l2])), (l1, .inr (2, [.int 0, .ref dE, .int 0])), (l2, .inr (2, [.int 0, .ref dE, .int 0]))]) [0, 2, 3] (by decide) rfl
  have hKc := hK.sub (tys' := []) [] rfl
  have hFc := va_free (wc := [(h0, .inr (13, [.int 0, .int 7, .int 0, .ref l1, .ref l2])), (l1, .inr (2, [.int 0, .ref dE, .int 0])), (l2, .inr (2, [.int 0, .ref dE, .int 0]))]) hD hS hA [0, 2, 3] rfl
  refine va_calli (va_runV (As := []) (rest := [.int 7, .ref q1, .ref q1]) ⟨hx, hb, hml, hown, hts⟩ (c_M_allQuarters l dC dI dE h0 l1 l2 H.size) (cwV 0 hts gX10_manyNow_X10_allQuarters rfl rfl rfl (by decide +kernel) ⟨Nat.le_of_ble_eq_true rfl, Nat.le_of_ble_eq_true rfl⟩) ⟨fun a U g mk q => ⟨q.1, PB.blind q.2⟩, va_recv hKc hPc (ci := 13) (q0 := 0) rfl rfl, fun U hU hW => ⟨rfl, PB.call hPc hKc hDc hTb hZ hS hFc hU hW⟩⟩ rfl rfl hl.1 rfl (lv_room (Nat.le_of_ble_eq_true rfl)) dX10_manyNow_172 ⟨Nat.le_of_ble_eq_true rfl, Nat.le_of_ble_eq_true rfl⟩) hS (fun q _ h => hFc q h) hFc (fun r u t H locs ht hvm hw hB hz1 hk1 hS => ?_)
  obtain ⟨hP, hD, hK⟩ := PE.join (wc := [(h0, .inr (13, [.int 0, .int 7, .int 0, .ref l1, .ref l2])), (l1, .inr (2, [.int 0, .ref dE, .int 0])), (l2, .inr (2, [.int 0, .ref dE, .int 0]))]) (wr := [(q1, .inl (cAq1, 8, .inl (upd (upd (upd (upd (upd (upd (upd (fun _ => 0) (Int32.toNatClampNeg 0) 7) (Int32.toNatClampNeg 1) 0) (Int32.toNatClampNeg 2) 0) (Int32.toNatClampNeg 3) 0) (Int32.toNatClampNeg 4) 0) (Int32.toNatClampNeg 5) 0) (Int32.toNatClampNeg 6) 0)))]) (w1 := [(h0, .inr (13, [.int 0, .int 7, .int 0, .ref l1, .ref l2])), (l1, .inr (2, [.int 0, .ref dE, .int 0])), (l2, .inr (2, [.int 0, .ref dE, .int 0]))]) (tr := [(cAq1, .int)]) (t1 := []) hP hD hK [0, 2, 3] [1] [0] rfl rfl rfl (by decide) (by decide) hk1 hFc ht hvm hB
  have hP : va_P (dC, dI) vwCl [(q1, .inl (cAq1, 8, .inl (upd (upd (upd (upd (upd (upd (upd (fun _ => 0) (Int32.toNatClampNeg 0) 7) (Int32.toNatClampNeg 1) 0) (Int32.toNatClampNeg 2) 0) (Int32.toNatClampNeg 3) 0) (Int32.toNatClampNeg 4) 0) (Int32.toNatClampNeg 5) 0) (Int32.toNatClampNeg 6) 0))), (h0, .inr (13, [.int 0, .int 7, .int 0, .ref l1, .ref l2])), (l1, .inr (2, [.int 0, .ref dE, .int 0])), (l2, .inr (2, [.int 0, .ref dE, .int 0]))] H := hP
  have hD : va_D A [(q1, .inl (cAq1, 8, .inl (upd (upd (upd (upd (upd (upd (upd (fun _ => 0) (Int32.toNatClampNeg 0) 7) (Int32.toNatClampNeg 1) 0) (Int32.toNatClampNeg 2) 0) (Int32.toNatClampNeg 3) 0) (Int32.toNatClampNeg 4) 0) (Int32.toNatClampNeg 5) 0) (Int32.toNatClampNeg 6) 0))), (h0, .inr (13, [.int 0, .int 7, .int 0, .ref l1, .ref l2])), (l1, .inr (2, [.int 0, .ref dE, .int 0])), (l2, .inr (2, [.int 0, .ref dE, .int 0]))] := hD
  have hK : va_K (dC, dI) vwCl [(cAq1, .int)] s := hK
  subst hw
  refine lv_iconst (v := 4) hx hb dX10_manyNow_175 (by decide) ?_
  refine lv_idiv hx hb dX10_manyNow_176 (by decide) ?_
  refine lv_topi (fun f2 ef2 => ?_)
  obtain rfl : f2 = 0 := ef2.trans (by decide)
  refine va_iast hx hb hK hP hD hS 0 0 rfl rfl (by unfold vp_in; decide) dX10_manyNow_177 (fun H locs hP hD hS => ?_)
  have hP : va_P (dC, dI) vwCl [(q1, .inl (cAq1, 8, .inl (upd (upd (upd (upd (upd (upd (upd (upd (fun _ => 0) (Int32.toNatClampNeg 0) 7) (Int32.toNatClampNeg 1) 0) (Int32.toNatClampNeg 2) 0) (Int32.toNatClampNeg 3) 0) (Int32.toNatClampNeg 4) 0) (Int32.toNatClampNeg 5) 0) (Int32.toNatClampNeg 6) 0) (Int32.toNatClampNeg 7) 0))), (h0, .inr (13, [.int 0, .int 7, .int 0, .ref l1, .ref l2])), (l1, .inr (2, [.int 0, .ref dE, .int 0])), (l2, .inr (2, [.int 0, .ref dE, .int 0]))] H := hP
  have hD : va_D A [(q1, .inl (cAq1, 8, .inl (upd (upd (upd (upd (upd (upd (upd (upd (fun _ => 0) (Int32.toNatClampNeg 0) 7) (Int32.toNatClampNeg 1) 0) (Int32.toNatClampNeg 2) 0) (Int32.toNatClampNeg 3) 0) (Int32.toNatClampNeg 4) 0) (Int32.toNatClampNeg 5) 0) (Int32.toNatClampNeg 6) 0) (Int32.toNatClampNeg 7) 0))), (h0, .inr (13, [.int 0, .int 7, .int 0, .ref l1, .ref l2])), (l1, .inr (2, [.int 0, .ref dE, .int 0])), (l2, .inr (2, [.int 0, .ref dE, .int 0]))] := hD
  refine lv_astore (lv' := [(5, .ref q1), (4, .int 0), (3, .int 0), (2, .int 0), (0, .ref h0), (1, .int 0)]) hx hb dX10_manyNow_178 hl (by decide) rfl (fun ls hl => ?_)
  refine lv_aload hx hb dX10_manyNow_180 (lv_at hl 0 rfl) ?_
  refine lv_iload_n hx hb dX10_manyNow_182 rfl (lv_at hl 5 rfl) ?_
  refine va_iald hx hb hK hP 0 0 rfl rfl (by unfold vp_in; decide) dX10_manyNow_183 ?_
  refine lv_topi (fun f3 ef3 => ?_)
  obtain rfl : f3 = 7 := ef3.trans (by decide)
  have hP9 := hP.sub (ws' := [(h0, .inr (13, [.int 0, .int 7, .int 0, .ref l1, .ref l2])), (l1, .inr (2, [.int 0, .ref dE, .int 0])), (l2, .inr (2, [.int 0, .ref dE, .int 0]))]) [1, 2, 3] rfl
  have hD9 := hD.sub (ws' := [(h0, .inr (13, [.int 0, .int 7, .int 0, .ref l1, .ref l2])), (l1, .inr (2, [.int 0, .ref dE, .int 0])), (l2, .inr (2, [.int 0, .ref dE, .int 0]))]) [1, 2, 3] (by decide) rfl
  have hK9 := hK.sub (tys' := []) [] rfl
  refine W.widen (k := 1) (n := 8) (Nat.le_of_ble_eq_true rfl) (Nat.le_of_ble_eq_true rfl) ?_
  exact W.iret (v := 7) hx hb hr (fun t ht hW => ⟨⟨_, (), rfl, rfl, PE.mk hP9 hK9 hD9 ht hW⟩, hS.F ht⟩) hS.2.2 dX10_manyNow_184

set_option maxHeartbeats 4000000 in
set_option maxRecDepth 100000 in
/-- c_M_manyNow_1 -/
theorem c_M_manyNow_1 (l : Launch) (dC : Nat → ClassId) (dI : Nat → Nat → Nat) (dE : Nat) (h0 : Nat) (l1 : Nat) (l2 : Nat) (sz : Nat) : Met l yX10_manyNow wsX10_manyNow ({ frames := 2, cells := 1, slots := 8, locals := 42 }) (va_Pc [.ref h0, .int 1] (PB dC dI dE [] [(h0, .inr (13, [.int 0, .int 7, .int 0, .ref l1, .ref l2])), (l1, .inr (2, [.int 0, .ref dE, .int 0])), (l2, .inr (2, [.int 0, .ref dE, .int 0]))] sz)) (va_Qi (fun (r : Int32) (_ : Unit) => r = 0) (fun (_ : Unit) (t : State) => PE dC dI [] [(h0, .inr (13, [.int 0, .int 7, .int 0, .ref l1, .ref l2])), (l1, .inr (2, [.int 0, .ref dE, .int 0])), (l2, .inr (2, [.int 0, .ref dE, .int 0]))] (va_A [(h0, .inr (13, [.int 0, .int 7, .int 0, .ref l1, .ref l2])), (l1, .inr (2, [.int 0, .ref dE, .int 0])), (l2, .inr (2, [.int 0, .ref dE, .int 0]))] sz) t) (va_A [(h0, .inr (13, [.int 0, .int 7, .int 0, .ref l1, .ref l2])), (l1, .inr (2, [.int 0, .ref dE, .int 0])), (l2, .inr (2, [.int 0, .ref dE, .int 0]))] sz)) 1 8 (va_A [(h0, .inr (13, [.int 0, .int 7, .int 0, .ref l1, .ref l2])), (l1, .inr (2, [.int 0, .ref dE, .int 0])), (l2, .inr (2, [.int 0, .ref dE, .int 0]))] sz) := by
  refine Met.ofW (cc := cX10_manyNow) (maxL := 6) (ret := (some .int)) (by decide) rfl ?_
  intro p e s m args below meth c s₁ B hml hv
  obtain ⟨rfl, hsz, hP, hK, hD0, hTb, hZ⟩ := hv
  have hx := B.exec
  have hb := B.bytes
  have hr := B.returns
  have hts := atoms_spec (ws := wsX10_manyNow) B.pre
  have hown : s.vm.findClass RX10 = some m.cls := findClass_of_methodNamed B.named
  have hlocks := B.notSynchronized
  subst hsz
  have hD := hD0.self (sz := s.heap.size)
  generalize hAe : va_A [(h0, .inr (13, [.int 0, .int 7, .int 0, .ref l1, .ref l2])), (l1, .inr (2, [.int 0, .ref dE, .int 0])), (l2, .inr (2, [.int 0, .ref dE, .int 0]))] s.heap.size = A at hD hZ ⊢
  have hA : ∀ q : Nat, s.heap.size ≤ q → A q := fun q h => by rw [← hAe]; exact Or.inr h
  have hS : va_S A s.heap s.heap [] := va_S.rf
  have hP : va_P (dC, dI) vwCl [(h0, .inr (13, [.int 0, .int 7, .int 0, .ref l1, .ref l2])), (l1, .inr (2, [.int 0, .ref dE, .int 0])), (l2, .inr (2, [.int 0, .ref dE, .int 0]))] s.heap := hP
  have hl := lv_entry ([.ref h0, .int 1]) (n := 6) (Nat.le_of_ble_eq_true rfl)
  rw [lg_entry_eq]
  generalize (lg_sl ([.ref h0, .int 1]) ++ List.replicate (6 - (lg_sl ([.ref h0, .int 1])).length) Slot.unset).toArray = ls at hl ⊢
  have hl : lv_has ls 6 [(0, .ref h0), (1, .int 1)] := hl
  obtain ⟨H, eH⟩ : ∃ z, z = s.heap := ⟨_, rfl⟩
  rw [← eH] at hP ⊢
  have hS : va_S A s.heap H [] := by rw [eH]; exact va_S.rf
  refine lv_iconst (v := 0) hx hb dX10_manyNow_0 (by decide) ?_
  refine lv_istore_n (lv' := [(2, .int 0), (0, .ref h0), (1, .int 1)]) hx hb dX10_manyNow_1 rfl hl (by decide) rfl (fun ls hl => ?_)
  refine lv_iconst (v := 0) hx hb dX10_manyNow_2 (by decide) ?_
  refine lv_istore_n (lv' := [(3, .int 0), (2, .int 0), (0, .ref h0), (1, .int 1)]) hx hb dX10_manyNow_3 rfl hl (by decide) rfl (fun ls hl => ?_)
  refine lv_iconst (v := 0) hx hb dX10_manyNow_4 (by decide) ?_
  refine lv_istore (lv' := [(4, .int 0), (3, .int 0), (2, .int 0), (0, .ref h0), (1, .int 1)]) hx hb dX10_manyNow_5 hl (by decide) rfl (fun ls hl => ?_)
  refine lv_iconst (v := 0) hx hb dX10_manyNow_7 (by decide) ?_
  refine lv_istore (lv' := [(5, .int 0), (4, .int 0), (3, .int 0), (2, .int 0), (0, .ref h0), (1, .int 1)]) hx hb dX10_manyNow_8 hl (by decide) rfl (fun ls hl => ?_)
  refine lv_iload hx hb dX10_manyNow_10 (lv_at hl 0 rfl) ?_
  refine lv_aload_n hx hb dX10_manyNow_12 rfl (lv_at hl 4 rfl) ?_
  refine va_get (D := (dC, dI)) (ci := 13) (v := .ref l1) (C := RX10) (T := TX10) (N := 5) hx hb hts (by decide +kernel) hown hK hP 0 rfl rfl 3 (by decide) (hts (.fieldLink RX10 16 "VersorhallModel" "algebras" "Ljava/util/List;") (by decide +kernel)) (fun _ h9 => h9) rfl dX10_manyNow_13 ?_
  have hPc := hP.sub (ws' := [(l1, .inr (2, [.int 0, .ref dE, .int 0]))]) [1] rfl
  have hDc := hD.sub (ws' := [(l1, .inr (2, [.int 0, .ref dE, .int 0]))]) [1] (by decide) rfl
  have hKc := hK.sub (tys' := []) [] rfl
  have hFc := va_free (wc := [(l1, .inr (2, [.int 0, .ref dE, .int 0]))]) hD hS hA [1] rfl
  refine va_callFi (va_runF ((hK.1 2 _ rfl).2) (As := []) (rest := [.int 0]) ⟨hx, hb, hml, hown, hts⟩ (c_List_size l dC dI dE l1 0 dE 0 H.size) (va_cwF 0 hts gX10_manyNow_Jx4a65c_size_8abf5_f30Jx4a65c rfl rfl rfl (Tb_w1 hTb) (by decide +kernel) ⟨Nat.le_of_ble_eq_true rfl, Nat.le_of_ble_eq_true rfl⟩) ⟨fun a U g mk q => ⟨q.1, PB.blind q.2⟩, va_recv hKc hPc (ci := 2) (q0 := 0) rfl rfl, fun U hU hW => ⟨rfl, PB.call hPc hKc hDc hTb hZ hS hFc hU hW⟩⟩ rfl rfl hl.1 rfl (lv_room (Nat.le_of_ble_eq_true rfl)) dX10_manyNow_16 ⟨Nat.le_of_ble_eq_true rfl, Nat.le_of_ble_eq_true rfl⟩) hS (fun q _ h => hFc q h) hFc (fun r u t H locs ht hvm hw hB hz1 hk1 hS => ?_)
  obtain ⟨hP, hD, hK⟩ := PE.join (wc := [(l1, .inr (2, [.int 0, .ref dE, .int 0]))]) (wr := [(h0, .inr (13, [.int 0, .int 7, .int 0, .ref l1, .ref l2])), (l2, .inr (2, [.int 0, .ref dE, .int 0]))]) (w1 := [(l1, .inr (2, [.int 0, .ref dE, .int 0]))]) (tr := []) (t1 := []) hP hD hK [1] [0, 2] [] rfl rfl rfl (by decide) (by decide) hk1 hFc ht hvm hB
  have hP : va_P (dC, dI) vwCl [(h0, .inr (13, [.int 0, .int 7, .int 0, .ref l1, .ref l2])), (l2, .inr (2, [.int 0, .ref dE, .int 0])), (l1, .inr (2, [.int 0, .ref dE, .int 0]))] H := hP
  have hD : va_D A [(h0, .inr (13, [.int 0, .int 7, .int 0, .ref l1, .ref l2])), (l2, .inr (2, [.int 0, .ref dE, .int 0])), (l1, .inr (2, [.int 0, .ref dE, .int 0]))] := hD
  have hK : va_K (dC, dI) vwCl [] s := hK
  subst hw
  refine lv_icmp_ge (tgt := 50) hx hb dX10_manyNow_21 (by decide) (fun _ => ?_) (fun c9 => absurd (by decide) c9)
  refine lv_iconst (v := 0) hx hb dX10_manyNow_50 (by decide) ?_
  refine lv_istore (lv' := [(5, .int 0), (4, .int 0), (3, .int 0), (2, .int 0), (0, .ref h0), (1, .int 1)]) hx hb dX10_manyNow_51 hl (by decide) rfl (fun ls hl => ?_)
  refine lv_iload hx hb dX10_manyNow_53 (lv_at hl 0 rfl) ?_
  refine lv_aload_n hx hb dX10_manyNow_55 rfl (lv_at hl 4 rfl) ?_
  refine va_get (D := (dC, dI)) (ci := 13) (v := .ref l2) (C := RX10) (T := TX10) (N := 5) hx hb hts (by decide +kernel) hown hK hP 0 rfl rfl 4 (by decide) (hts (.fieldLink RX10 20 "VersorhallModel" "elements" "Ljava/util/List;") (by decide +kernel)) (fun _ h9 => h9) rfl dX10_manyNow_56 ?_
  have hPc := hP.sub (ws' := [(l2, .inr (2, [.int 0, .ref dE, .int 0]))]) [1] rfl
  have hDc := hD.sub (ws' := [(l2, .inr (2, [.int 0, .ref dE, .int 0]))]) [1] (by decide) rfl
  have hKc := hK.sub (tys' := []) [] rfl
  have hFc := va_free (wc := [(l2, .inr (2, [.int 0, .ref dE, .int 0]))]) hD hS hA [1] rfl
  refine va_callFi (va_runF ((hK.1 2 _ rfl).2) (As := []) (rest := [.int 0]) ⟨hx, hb, hml, hown, hts⟩ (c_List_size l dC dI dE l2 0 dE 0 H.size) (va_cwF 0 hts gX10_manyNow_Jx4a65c_size_8abf5_f30Jx4a65c rfl rfl rfl (Tb_w1 hTb) (by decide +kernel) ⟨Nat.le_of_ble_eq_true rfl, Nat.le_of_ble_eq_true rfl⟩) ⟨fun a U g mk q => ⟨q.1, PB.blind q.2⟩, va_recv hKc hPc (ci := 2) (q0 := 0) rfl rfl, fun U hU hW => ⟨rfl, PB.call hPc hKc hDc hTb hZ hS hFc hU hW⟩⟩ rfl rfl hl.1 rfl (lv_room (Nat.le_of_ble_eq_true rfl)) dX10_manyNow_59 ⟨Nat.le_of_ble_eq_true rfl, Nat.le_of_ble_eq_true rfl⟩) hS (fun q _ h => hFc q h) hFc (fun r u t H locs ht hvm hw hB hz1 hk1 hS => ?_)
  obtain ⟨hP, hD, hK⟩ := PE.join (wc := [(l2, .inr (2, [.int 0, .ref dE, .int 0]))]) (wr := [(h0, .inr (13, [.int 0, .int 7, .int 0, .ref l1, .ref l2])), (l1, .inr (2, [.int 0, .ref dE, .int 0]))]) (w1 := [(l2, .inr (2, [.int 0, .ref dE, .int 0]))]) (tr := []) (t1 := []) hP hD hK [1] [0, 2] [] rfl rfl rfl (by decide) (by decide) hk1 hFc ht hvm hB
  have hP : va_P (dC, dI) vwCl [(h0, .inr (13, [.int 0, .int 7, .int 0, .ref l1, .ref l2])), (l1, .inr (2, [.int 0, .ref dE, .int 0])), (l2, .inr (2, [.int 0, .ref dE, .int 0]))] H := hP
  have hD : va_D A [(h0, .inr (13, [.int 0, .int 7, .int 0, .ref l1, .ref l2])), (l1, .inr (2, [.int 0, .ref dE, .int 0])), (l2, .inr (2, [.int 0, .ref dE, .int 0]))] := hD
  have hK : va_K (dC, dI) vwCl [] s := hK
  subst hw
  refine lv_icmp_ge (tgt := 112) hx hb dX10_manyNow_64 (by decide) (fun _ => ?_) (fun c9 => absurd (by decide) c9)
  refine lv_bipush (v := 8) hx hb dX10_manyNow_112 (by decide) ?_
  refine va_newa (atype := .int) (ty := .int) (a0 := (8, .inl (fun _ => 0))) (n := 8) (N' := 8) hx hb (hts (.arrayClass .int) (by decide +kernel)) rfl hK hP hD hS hA (fun _ => rfl) (by decide) (by decide) (Nat.le_of_ble_eq_true rfl) (Nat.le_of_ble_eq_true rfl) (Nat.le_of_ble_eq_true rfl) dX10_manyNow_114 (fun q1 cAq1 H hK hP hD hS => ?_)
  have hP : va_P (dC, dI) vwCl [(h0, .inr (13, [.int 0, .int 7, .int 0, .ref l1, .ref l2])), (l1, .inr (2, [.int 0, .ref dE, .int 0])), (l2, .inr (2, [.int 0, .ref dE, .int 0])), (q1, .inl (cAq1, 8, .inl (fun _ => 0)))] H := hP
  have hD : va_D A [(h0, .inr (13, [.int 0, .int 7, .int 0, .ref l1, .ref l2])), (l1, .inr (2, [.int 0, .ref dE, .int 0])), (l2, .inr (2, [.int 0, .ref dE, .int 0])), (q1, .inl (cAq1, 8, .inl (fun _ => 0)))] := hD
  have hK : va_K (dC, dI) vwCl [(cAq1, .int)] s := hK
  refine W.widen (k := 1) (n := 8) (by omega) (by omega) ?_
  refine lv_dup hx hb dX10_manyNow_116 rfl ?_
  refine lv_iconst (v := 0) hx hb dX10_manyNow_117 (by decide) ?_
  refine lv_aload_n hx hb dX10_manyNow_118 rfl (lv_at hl 4 rfl) ?_
  refine va_get (D := (dC, dI)) (ci := 13) (v := .int 7) (C := RX10) (T := TX10) (N := 5) hx hb hts (by decide +kernel) hown hK hP 0 rfl rfl 1 (by decide) (hts (.fieldLink RX10 7 "VersorhallModel" "p" "I") (by decide +kernel)) (fun _ h9 => h9) rfl dX10_manyNow_119 ?_
  refine va_iast hx hb hK hP hD hS 3 0 rfl rfl (by unfold vp_in; decide) dX10_manyNow_122 (fun H locs hP hD hS => ?_)
  have hP : va_P (dC, dI) vwCl [(h0, .inr (13, [.int 0, .int 7, .int 0, .ref l1, .ref l2])), (l1, .inr (2, [.int 0, .ref dE, .int 0])), (l2, .inr (2, [.int 0, .ref dE, .int 0])), (q1, .inl (cAq1, 8, .inl (upd (fun _ => 0) (Int32.toNatClampNeg 0) 7)))] H := hP
  have hD : va_D A [(h0, .inr (13, [.int 0, .int 7, .int 0, .ref l1, .ref l2])), (l1, .inr (2, [.int 0, .ref dE, .int 0])), (l2, .inr (2, [.int 0, .ref dE, .int 0])), (q1, .inl (cAq1, 8, .inl (upd (fun _ => 0) (Int32.toNatClampNeg 0) 7)))] := hD
  refine lv_dup hx hb dX10_manyNow_123 rfl ?_
  refine lv_iconst (v := 1) hx hb dX10_manyNow_124 (by decide) ?_
  refine lv_aload_n hx hb dX10_manyNow_125 rfl (lv_at hl 4 rfl) ?_
  refine va_get (D := (dC, dI)) (ci := 13) (v := .ref l1) (C := RX10) (T := TX10) (N := 5) hx hb hts (by decide +kernel) hown hK hP 0 rfl rfl 3 (by decide) (hts (.fieldLink RX10 16 "VersorhallModel" "algebras" "Ljava/util/List;") (by decide +kernel)) (fun _ h9 => h9) rfl dX10_manyNow_126 ?_
  have hPc := hP.sub (ws' := [(l1, .inr (2, [.int 0, .ref dE, .int 0]))]) [1] rfl
  have hDc := hD.sub (ws' := [(l1, .inr (2, [.int 0, .ref dE, .int 0]))]) [1] (by decide) rfl
  have hKc := hK.sub (tys' := []) [] rfl
  have hFc := va_free (wc := [(l1, .inr (2, [.int 0, .ref dE, .int 0]))]) hD hS hA [1] rfl
  refine va_callFi (va_runF ((hK.1 2 _ rfl).2) (As := []) (rest := [.int 1, .ref q1, .ref q1]) ⟨hx, hb, hml, hown, hts⟩ (c_List_size l dC dI dE l1 0 dE 0 H.size) (va_cwF 0 hts gX10_manyNow_Jx4a65c_size_8abf5_f30Jx4a65c rfl rfl rfl (Tb_w1 hTb) (by decide +kernel) ⟨Nat.le_of_ble_eq_true rfl, Nat.le_of_ble_eq_true rfl⟩) ⟨fun a U g mk q => ⟨q.1, PB.blind q.2⟩, va_recv hKc hPc (ci := 2) (q0 := 0) rfl rfl, fun U hU hW => ⟨rfl, PB.call hPc hKc hDc hTb hZ hS hFc hU hW⟩⟩ rfl rfl hl.1 rfl (lv_room (Nat.le_of_ble_eq_true rfl)) dX10_manyNow_129 ⟨Nat.le_of_ble_eq_true rfl, Nat.le_of_ble_eq_true rfl⟩) hS (fun q _ h => hFc q h) hFc (fun r u t H locs ht hvm hw hB hz1 hk1 hS => ?_)
  obtain ⟨hP, hD, hK⟩ := PE.join (wc := [(l1, .inr (2, [.int 0, .ref dE, .int 0]))]) (wr := [(h0, .inr (13, [.int 0, .int 7, .int 0, .ref l1, .ref l2])), (l2, .inr (2, [.int 0, .ref dE, .int 0])), (q1, .inl (cAq1, 8, .inl (upd (fun _ => 0) (Int32.toNatClampNeg 0) 7)))]) (w1 := [(l1, .inr (2, [.int 0, .ref dE, .int 0]))]) (tr := [(cAq1, .int)]) (t1 := []) hP hD hK [1] [0, 2, 3] [0] rfl rfl rfl (by decide) (by decide) hk1 hFc ht hvm hB
  have hP : va_P (dC, dI) vwCl [(h0, .inr (13, [.int 0, .int 7, .int 0, .ref l1, .ref l2])), (l2, .inr (2, [.int 0, .ref dE, .int 0])), (q1, .inl (cAq1, 8, .inl (upd (fun _ => 0) (Int32.toNatClampNeg 0) 7))), (l1, .inr (2, [.int 0, .ref dE, .int 0]))] H := hP
  have hD : va_D A [(h0, .inr (13, [.int 0, .int 7, .int 0, .ref l1, .ref l2])), (l2, .inr (2, [.int 0, .ref dE, .int 0])), (q1, .inl (cAq1, 8, .inl (upd (fun _ => 0) (Int32.toNatClampNeg 0) 7))), (l1, .inr (2, [.int 0, .ref dE, .int 0]))] := hD
  have hK : va_K (dC, dI) vwCl [(cAq1, .int)] s := hK
  subst hw
  refine va_iast hx hb hK hP hD hS 2 0 rfl rfl (by unfold vp_in; decide) dX10_manyNow_134 (fun H locs hP hD hS => ?_)
  have hP : va_P (dC, dI) vwCl [(h0, .inr (13, [.int 0, .int 7, .int 0, .ref l1, .ref l2])), (l2, .inr (2, [.int 0, .ref dE, .int 0])), (q1, .inl (cAq1, 8, .inl (upd (upd (fun _ => 0) (Int32.toNatClampNeg 0) 7) (Int32.toNatClampNeg 1) 0))), (l1, .inr (2, [.int 0, .ref dE, .int 0]))] H := hP
  have hD : va_D A [(h0, .inr (13, [.int 0, .int 7, .int 0, .ref l1, .ref l2])), (l2, .inr (2, [.int 0, .ref dE, .int 0])), (q1, .inl (cAq1, 8, .inl (upd (upd (fun _ => 0) (Int32.toNatClampNeg 0) 7) (Int32.toNatClampNeg 1) 0))), (l1, .inr (2, [.int 0, .ref dE, .int 0]))] := hD
  refine lv_dup hx hb dX10_manyNow_135 rfl ?_
  refine lv_iconst (v := 2) hx hb dX10_manyNow_136 (by decide) ?_
  refine lv_aload_n hx hb dX10_manyNow_137 rfl (lv_at hl 4 rfl) ?_
  refine va_get (D := (dC, dI)) (ci := 13) (v := .ref l2) (C := RX10) (T := TX10) (N := 5) hx hb hts (by decide +kernel) hown hK hP 0 rfl rfl 4 (by decide) (hts (.fieldLink RX10 20 "VersorhallModel" "elements" "Ljava/util/List;") (by decide +kernel)) (fun _ h9 => h9) rfl dX10_manyNow_138 ?_
  have hPc := hP.sub (ws' := [(l2, .inr (2, [.int 0, .ref dE, .int 0]))]) [1] rfl
  have hDc := hD.sub (ws' := [(l2, .inr (2, [.int 0, .ref dE, .int 0]))]) [1] (by decide) rfl
  have hKc := hK.sub (tys' := []) [] rfl
  have hFc := va_free (wc := [(l2, .inr (2, [.int 0, .ref dE, .int 0]))]) hD hS hA [1] rfl
  refine va_callFi (va_runF ((hK.1 2 _ rfl).2) (As := []) (rest := [.int 2, .ref q1, .ref q1]) ⟨hx, hb, hml, hown, hts⟩ (c_List_size l dC dI dE l2 0 dE 0 H.size) (va_cwF 0 hts gX10_manyNow_Jx4a65c_size_8abf5_f30Jx4a65c rfl rfl rfl (Tb_w1 hTb) (by decide +kernel) ⟨Nat.le_of_ble_eq_true rfl, Nat.le_of_ble_eq_true rfl⟩) ⟨fun a U g mk q => ⟨q.1, PB.blind q.2⟩, va_recv hKc hPc (ci := 2) (q0 := 0) rfl rfl, fun U hU hW => ⟨rfl, PB.call hPc hKc hDc hTb hZ hS hFc hU hW⟩⟩ rfl rfl hl.1 rfl (lv_room (Nat.le_of_ble_eq_true rfl)) dX10_manyNow_141 ⟨Nat.le_of_ble_eq_true rfl, Nat.le_of_ble_eq_true rfl⟩) hS (fun q _ h => hFc q h) hFc (fun r u t H locs ht hvm hw hB hz1 hk1 hS => ?_)
  obtain ⟨hP, hD, hK⟩ := PE.join (wc := [(l2, .inr (2, [.int 0, .ref dE, .int 0]))]) (wr := [(h0, .inr (13, [.int 0, .int 7, .int 0, .ref l1, .ref l2])), (q1, .inl (cAq1, 8, .inl (upd (upd (fun _ => 0) (Int32.toNatClampNeg 0) 7) (Int32.toNatClampNeg 1) 0))), (l1, .inr (2, [.int 0, .ref dE, .int 0]))]) (w1 := [(l2, .inr (2, [.int 0, .ref dE, .int 0]))]) (tr := [(cAq1, .int)]) (t1 := []) hP hD hK [1] [0, 2, 3] [0] rfl rfl rfl (by decide) (by decide) hk1 hFc ht hvm hB
  have hP : va_P (dC, dI) vwCl [(h0, .inr (13, [.int 0, .int 7, .int 0, .ref l1, .ref l2])), (q1, .inl (cAq1, 8, .inl (upd (upd (fun _ => 0) (Int32.toNatClampNeg 0) 7) (Int32.toNatClampNeg 1) 0))), (l1, .inr (2, [.int 0, .ref dE, .int 0])), (l2, .inr (2, [.int 0, .ref dE, .int 0]))] H := hP
  have hD : va_D A [(h0, .inr (13, [.int 0, .int 7, .int 0, .ref l1, .ref l2])), (q1, .inl (cAq1, 8, .inl (upd (upd (fun _ => 0) (Int32.toNatClampNeg 0) 7) (Int32.toNatClampNeg 1) 0))), (l1, .inr (2, [.int 0, .ref dE, .int 0])), (l2, .inr (2, [.int 0, .ref dE, .int 0]))] := hD
  have hK : va_K (dC, dI) vwCl [(cAq1, .int)] s := hK
  subst hw
  refine va_iast hx hb hK hP hD hS 1 0 rfl rfl (by unfold vp_in; decide) dX10_manyNow_146 (fun H locs hP hD hS => ?_)
  have hP : va_P (dC, dI) vwCl [(h0, .inr (13, [.int 0, .int 7, .int 0, .ref l1, .ref l2])), (q1, .inl (cAq1, 8, .inl (upd (upd (upd (fun _ => 0) (Int32.toNatClampNeg 0) 7) (Int32.toNatClampNeg 1) 0) (Int32.toNatClampNeg 2) 0))), (l1, .inr (2, [.int 0, .ref dE, .int 0])), (l2, .inr (2, [.int 0, .ref dE, .int 0]))] H := hP
  have hD : va_D A [(h0, .inr (13, [.int 0, .int 7, .int 0, .ref l1, .ref l2])), (q1, .inl (cAq1, 8, .inl (upd (upd (upd (fun _ => 0) (Int32.toNatClampNeg 0) 7) (Int32.toNatClampNeg 1) 0) (Int32.toNatClampNeg 2) 0))), (l1, .inr (2, [.int 0, .ref dE, .int 0])), (l2, .inr (2, [.int 0, .ref dE, .int 0]))] := hD
  refine lv_dup hx hb dX10_manyNow_147 rfl ?_
  refine lv_iconst (v := 3) hx hb dX10_manyNow_148 (by decide) ?_
  refine lv_iload_n hx hb dX10_manyNow_149 rfl (lv_at hl 3 rfl) ?_
  refine va_iast hx hb hK hP hD hS 1 0 rfl rfl (by unfold vp_in; decide) dX10_manyNow_150 (fun H locs hP hD hS => ?_)
  have hP : va_P (dC, dI) vwCl [(h0, .inr (13, [.int 0, .int 7, .int 0, .ref l1, .ref l2])), (q1, .inl (cAq1, 8, .inl (upd (upd (upd (upd (fun _ => 0) (Int32.toNatClampNeg 0) 7) (Int32.toNatClampNeg 1) 0) (Int32.toNatClampNeg 2) 0) (Int32.toNatClampNeg 3) 0))), (l1, .inr (2, [.int 0, .ref dE, .int 0])), (l2, .inr (2, [.int 0, .ref dE, .int 0]))] H := hP
  have hD : va_D A [(h0, .inr (13, [.int 0, .int 7, .int 0, .ref l1, .ref l2])), (q1, .inl (cAq1, 8, .inl (upd (upd (upd (upd (fun _ => 0) (Int32.toNatClampNeg 0) 7) (Int32.toNatClampNeg 1) 0) (Int32.toNatClampNeg 2) 0) (Int32.toNatClampNeg 3) 0))), (l1, .inr (2, [.int 0, .ref dE, .int 0])), (l2, .inr (2, [.int 0, .ref dE, .int 0]))] := hD
  refine lv_dup hx hb dX10_manyNow_151 rfl ?_
  refine lv_iconst (v := 4) hx hb dX10_manyNow_152 (by decide) ?_
  refine lv_iload_n hx hb dX10_manyNow_153 rfl (lv_at hl 2 rfl) ?_
  refine va_iast hx hb hK hP hD hS 1 0 rfl rfl (by unfold vp_in; decide) dX10_manyNow_154 (fun H locs hP hD hS => ?_)
  have hP : va_P (dC, dI) vwCl [(h0, .inr (13, [.int 0, .int 7, .int 0, .ref l1, .ref l2])), (q1, .inl (cAq1, 8, .inl (upd (upd (upd (upd (upd (fun _ => 0) (Int32.toNatClampNeg 0) 7) (Int32.toNatClampNeg 1) 0) (Int32.toNatClampNeg 2) 0) (Int32.toNatClampNeg 3) 0) (Int32.toNatClampNeg 4) 0))), (l1, .inr (2, [.int 0, .ref dE, .int 0])), (l2, .inr (2, [.int 0, .ref dE, .int 0]))] H := hP
  have hD : va_D A [(h0, .inr (13, [.int 0, .int 7, .int 0, .ref l1, .ref l2])), (q1, .inl (cAq1, 8, .inl (upd (upd (upd (upd (upd (fun _ => 0) (Int32.toNatClampNeg 0) 7) (Int32.toNatClampNeg 1) 0) (Int32.toNatClampNeg 2) 0) (Int32.toNatClampNeg 3) 0) (Int32.toNatClampNeg 4) 0))), (l1, .inr (2, [.int 0, .ref dE, .int 0])), (l2, .inr (2, [.int 0, .ref dE, .int 0]))] := hD
  refine lv_dup hx hb dX10_manyNow_155 rfl ?_
  refine lv_iconst (v := 5) hx hb dX10_manyNow_156 (by decide) ?_
  refine lv_iload hx hb dX10_manyNow_157 (lv_at hl 1 rfl) ?_
  refine va_iast hx hb hK hP hD hS 1 0 rfl rfl (by unfold vp_in; decide) dX10_manyNow_159 (fun H locs hP hD hS => ?_)
  have hP : va_P (dC, dI) vwCl [(h0, .inr (13, [.int 0, .int 7, .int 0, .ref l1, .ref l2])), (q1, .inl (cAq1, 8, .inl (upd (upd (upd (upd (upd (upd (fun _ => 0) (Int32.toNatClampNeg 0) 7) (Int32.toNatClampNeg 1) 0) (Int32.toNatClampNeg 2) 0) (Int32.toNatClampNeg 3) 0) (Int32.toNatClampNeg 4) 0) (Int32.toNatClampNeg 5) 0))), (l1, .inr (2, [.int 0, .ref dE, .int 0])), (l2, .inr (2, [.int 0, .ref dE, .int 0]))] H := hP
  have hD : va_D A [(h0, .inr (13, [.int 0, .int 7, .int 0, .ref l1, .ref l2])), (q1, .inl (cAq1, 8, .inl (upd (upd (upd (upd (upd (upd (fun _ => 0) (Int32.toNatClampNeg 0) 7) (Int32.toNatClampNeg 1) 0) (Int32.toNatClampNeg 2) 0) (Int32.toNatClampNeg 3) 0) (Int32.toNatClampNeg 4) 0) (Int32.toNatClampNeg 5) 0))), (l1, .inr (2, [.int 0, .ref dE, .int 0])), (l2, .inr (2, [.int 0, .ref dE, .int 0]))] := hD
  refine lv_dup hx hb dX10_manyNow_160 rfl ?_
  refine lv_bipush (v := 6) hx hb dX10_manyNow_161 (by decide) ?_
  refine lv_aload_n hx hb dX10_manyNow_163 rfl (lv_at hl 4 rfl) ?_
  refine va_get (D := (dC, dI)) (ci := 13) (v := .int 0) (C := RX10) (T := TX10) (N := 5) hx hb hts (by decide +kernel) hown hK hP 0 rfl rfl 2 (by decide) (hts (.fieldLink RX10 169 "VersorhallModel" "knocks" "I") (by decide +kernel)) (fun _ h9 => h9) rfl dX10_manyNow_164 ?_
  refine va_iast hx hb hK hP hD hS 1 0 rfl rfl (by unfold vp_in; decide) dX10_manyNow_167 (fun H locs hP hD hS => ?_)
  have hP : va_P (dC, dI) vwCl [(h0, .inr (13, [.int 0, .int 7, .int 0, .ref l1, .ref l2])), (q1, .inl (cAq1, 8, .inl (upd (upd (upd (upd (upd (upd (upd (fun _ => 0) (Int32.toNatClampNeg 0) 7) (Int32.toNatClampNeg 1) 0) (Int32.toNatClampNeg 2) 0) (Int32.toNatClampNeg 3) 0) (Int32.toNatClampNeg 4) 0) (Int32.toNatClampNeg 5) 0) (Int32.toNatClampNeg 6) 0))), (l1, .inr (2, [.int 0, .ref dE, .int 0])), (l2, .inr (2, [.int 0, .ref dE, .int 0]))] H := hP
  have hD : va_D A [(h0, .inr (13, [.int 0, .int 7, .int 0, .ref l1, .ref l2])), (q1, .inl (cAq1, 8, .inl (upd (upd (upd (upd (upd (upd (upd (fun _ => 0) (Int32.toNatClampNeg 0) 7) (Int32.toNatClampNeg 1) 0) (Int32.toNatClampNeg 2) 0) (Int32.toNatClampNeg 3) 0) (Int32.toNatClampNeg 4) 0) (Int32.toNatClampNeg 5) 0) (Int32.toNatClampNeg 6) 0))), (l1, .inr (2, [.int 0, .ref dE, .int 0])), (l2, .inr (2, [.int 0, .ref dE, .int 0]))] := hD
  refine lv_dup hx hb dX10_manyNow_168 rfl ?_
  refine lv_bipush (v := 7) hx hb dX10_manyNow_169 (by decide) ?_
  refine lv_aload_n hx hb dX10_manyNow_171 rfl (lv_at hl 4 rfl) ?_
  have hPc := hP.sub (ws' := [(h0, .inr (13, [.int 0, .int 7, .int 0, .ref l1, .ref l2])), (l1, .inr (2, [.int 0, .ref dE, .int 0])), (l2, .inr (2, [.int 0, .ref dE, .int 0]))]) [0, 2, 3] rfl
  have hDc := hD.sub (ws' := [(h0, .inr (13, [.int 0, .int 7, .int 0, .ref l1, .ref l2])), (l1, .inr (2, [.int 0, .ref dE, .int 0])), (l2, .inr (2, [.int 0, .ref dE, .int 0]))]) [0, 2, 3] (by decide) rfl
  have hKc := hK.sub (tys' := []) [] rfl
  have hFc := va_free (wc := [(h0, .inr (13, [.int 0, .int 7, .int 0, .ref l1, .ref l2])), (l1, .inr (2, [.int 0, .ref dE, .int 0])), (l2, .inr (2, [.int 0, .ref dE, .int 0]))]) hD hS hA [0, 2, 3] rfl
  refine va_calli (va_runV (As := []) (rest := [.int 7, .ref q1, .ref q1]) ⟨hx, hb, hml, hown, hts⟩ (c_M_allQuarters l dC dI dE h0 l1 l2 H.size) (cwV 0 hts gX10_manyNow_X10_allQuarters rfl rfl rfl (by decide +kernel) ⟨Nat.le_of_ble_eq_true rfl, Nat.le_of_ble_eq_true rfl⟩) ⟨fun a U g mk q => ⟨q.1, PB.blind q.2⟩, va_recv hKc hPc (ci := 13) (q0 := 0) rfl rfl, fun U hU hW => ⟨rfl, PB.call hPc hKc hDc hTb hZ hS hFc hU hW⟩⟩ rfl rfl hl.1 rfl (lv_room (Nat.le_of_ble_eq_true rfl)) dX10_manyNow_172 ⟨Nat.le_of_ble_eq_true rfl, Nat.le_of_ble_eq_true rfl⟩) hS (fun q _ h => hFc q h) hFc (fun r u t H locs ht hvm hw hB hz1 hk1 hS => ?_)
  obtain ⟨hP, hD, hK⟩ := PE.join (wc := [(h0, .inr (13, [.int 0, .int 7, .int 0, .ref l1, .ref l2])), (l1, .inr (2, [.int 0, .ref dE, .int 0])), (l2, .inr (2, [.int 0, .ref dE, .int 0]))]) (wr := [(q1, .inl (cAq1, 8, .inl (upd (upd (upd (upd (upd (upd (upd (fun _ => 0) (Int32.toNatClampNeg 0) 7) (Int32.toNatClampNeg 1) 0) (Int32.toNatClampNeg 2) 0) (Int32.toNatClampNeg 3) 0) (Int32.toNatClampNeg 4) 0) (Int32.toNatClampNeg 5) 0) (Int32.toNatClampNeg 6) 0)))]) (w1 := [(h0, .inr (13, [.int 0, .int 7, .int 0, .ref l1, .ref l2])), (l1, .inr (2, [.int 0, .ref dE, .int 0])), (l2, .inr (2, [.int 0, .ref dE, .int 0]))]) (tr := [(cAq1, .int)]) (t1 := []) hP hD hK [0, 2, 3] [1] [0] rfl rfl rfl (by decide) (by decide) hk1 hFc ht hvm hB
  have hP : va_P (dC, dI) vwCl [(q1, .inl (cAq1, 8, .inl (upd (upd (upd (upd (upd (upd (upd (fun _ => 0) (Int32.toNatClampNeg 0) 7) (Int32.toNatClampNeg 1) 0) (Int32.toNatClampNeg 2) 0) (Int32.toNatClampNeg 3) 0) (Int32.toNatClampNeg 4) 0) (Int32.toNatClampNeg 5) 0) (Int32.toNatClampNeg 6) 0))), (h0, .inr (13, [.int 0, .int 7, .int 0, .ref l1, .ref l2])), (l1, .inr (2, [.int 0, .ref dE, .int 0])), (l2, .inr (2, [.int 0, .ref dE, .int 0]))] H := hP
  have hD : va_D A [(q1, .inl (cAq1, 8, .inl (upd (upd (upd (upd (upd (upd (upd (fun _ => 0) (Int32.toNatClampNeg 0) 7) (Int32.toNatClampNeg 1) 0) (Int32.toNatClampNeg 2) 0) (Int32.toNatClampNeg 3) 0) (Int32.toNatClampNeg 4) 0) (Int32.toNatClampNeg 5) 0) (Int32.toNatClampNeg 6) 0))), (h0, .inr (13, [.int 0, .int 7, .int 0, .ref l1, .ref l2])), (l1, .inr (2, [.int 0, .ref dE, .int 0])), (l2, .inr (2, [.int 0, .ref dE, .int 0]))] := hD
  have hK : va_K (dC, dI) vwCl [(cAq1, .int)] s := hK
  subst hw
  refine lv_iconst (v := 4) hx hb dX10_manyNow_175 (by decide) ?_
  refine lv_idiv hx hb dX10_manyNow_176 (by decide) ?_
  refine lv_topi (fun f2 ef2 => ?_)
  obtain rfl : f2 = 0 := ef2.trans (by decide)
  refine va_iast hx hb hK hP hD hS 0 0 rfl rfl (by unfold vp_in; decide) dX10_manyNow_177 (fun H locs hP hD hS => ?_)
  have hP : va_P (dC, dI) vwCl [(q1, .inl (cAq1, 8, .inl (upd (upd (upd (upd (upd (upd (upd (upd (fun _ => 0) (Int32.toNatClampNeg 0) 7) (Int32.toNatClampNeg 1) 0) (Int32.toNatClampNeg 2) 0) (Int32.toNatClampNeg 3) 0) (Int32.toNatClampNeg 4) 0) (Int32.toNatClampNeg 5) 0) (Int32.toNatClampNeg 6) 0) (Int32.toNatClampNeg 7) 0))), (h0, .inr (13, [.int 0, .int 7, .int 0, .ref l1, .ref l2])), (l1, .inr (2, [.int 0, .ref dE, .int 0])), (l2, .inr (2, [.int 0, .ref dE, .int 0]))] H := hP
  have hD : va_D A [(q1, .inl (cAq1, 8, .inl (upd (upd (upd (upd (upd (upd (upd (upd (fun _ => 0) (Int32.toNatClampNeg 0) 7) (Int32.toNatClampNeg 1) 0) (Int32.toNatClampNeg 2) 0) (Int32.toNatClampNeg 3) 0) (Int32.toNatClampNeg 4) 0) (Int32.toNatClampNeg 5) 0) (Int32.toNatClampNeg 6) 0) (Int32.toNatClampNeg 7) 0))), (h0, .inr (13, [.int 0, .int 7, .int 0, .ref l1, .ref l2])), (l1, .inr (2, [.int 0, .ref dE, .int 0])), (l2, .inr (2, [.int 0, .ref dE, .int 0]))] := hD
  refine lv_astore (lv' := [(5, .ref q1), (4, .int 0), (3, .int 0), (2, .int 0), (0, .ref h0), (1, .int 1)]) hx hb dX10_manyNow_178 hl (by decide) rfl (fun ls hl => ?_)
  refine lv_aload hx hb dX10_manyNow_180 (lv_at hl 0 rfl) ?_
  refine lv_iload_n hx hb dX10_manyNow_182 rfl (lv_at hl 5 rfl) ?_
  refine va_iald hx hb hK hP 0 0 rfl rfl (by unfold vp_in; decide) dX10_manyNow_183 ?_
  refine lv_topi (fun f3 ef3 => ?_)
  obtain rfl : f3 = 0 := ef3.trans (by decide)
  have hP9 := hP.sub (ws' := [(h0, .inr (13, [.int 0, .int 7, .int 0, .ref l1, .ref l2])), (l1, .inr (2, [.int 0, .ref dE, .int 0])), (l2, .inr (2, [.int 0, .ref dE, .int 0]))]) [1, 2, 3] rfl
  have hD9 := hD.sub (ws' := [(h0, .inr (13, [.int 0, .int 7, .int 0, .ref l1, .ref l2])), (l1, .inr (2, [.int 0, .ref dE, .int 0])), (l2, .inr (2, [.int 0, .ref dE, .int 0]))]) [1, 2, 3] (by decide) rfl
  have hK9 := hK.sub (tys' := []) [] rfl
  refine W.widen (k := 1) (n := 8) (Nat.le_of_ble_eq_true rfl) (Nat.le_of_ble_eq_true rfl) ?_
  exact W.iret (v := 0) hx hb hr (fun t ht hW => ⟨⟨_, (), rfl, rfl, PE.mk hP9 hK9 hD9 ht hW⟩, hS.F ht⟩) hS.2.2 dX10_manyNow_184

set_option maxHeartbeats 4000000 in
set_option maxRecDepth 100000 in
/-- c_M_manyNow_2 -/
theorem c_M_manyNow_2 (l : Launch) (dC : Nat → ClassId) (dI : Nat → Nat → Nat) (dE : Nat) (h0 : Nat) (l1 : Nat) (l2 : Nat) (sz : Nat) : Met l yX10_manyNow wsX10_manyNow ({ frames := 2, cells := 1, slots := 8, locals := 42 }) (va_Pc [.ref h0, .int 2] (PB dC dI dE [] [(h0, .inr (13, [.int 0, .int 7, .int 0, .ref l1, .ref l2])), (l1, .inr (2, [.int 0, .ref dE, .int 0])), (l2, .inr (2, [.int 0, .ref dE, .int 0]))] sz)) (va_Qi (fun (r : Int32) (_ : Unit) => r = 0) (fun (_ : Unit) (t : State) => PE dC dI [] [(h0, .inr (13, [.int 0, .int 7, .int 0, .ref l1, .ref l2])), (l1, .inr (2, [.int 0, .ref dE, .int 0])), (l2, .inr (2, [.int 0, .ref dE, .int 0]))] (va_A [(h0, .inr (13, [.int 0, .int 7, .int 0, .ref l1, .ref l2])), (l1, .inr (2, [.int 0, .ref dE, .int 0])), (l2, .inr (2, [.int 0, .ref dE, .int 0]))] sz) t) (va_A [(h0, .inr (13, [.int 0, .int 7, .int 0, .ref l1, .ref l2])), (l1, .inr (2, [.int 0, .ref dE, .int 0])), (l2, .inr (2, [.int 0, .ref dE, .int 0]))] sz)) 1 8 (va_A [(h0, .inr (13, [.int 0, .int 7, .int 0, .ref l1, .ref l2])), (l1, .inr (2, [.int 0, .ref dE, .int 0])), (l2, .inr (2, [.int 0, .ref dE, .int 0]))] sz) := by
  refine Met.ofW (cc := cX10_manyNow) (maxL := 6) (ret := (some .int)) (by decide) rfl ?_
  intro p e s m args below meth c s₁ B hml hv
  obtain ⟨rfl, hsz, hP, hK, hD0, hTb, hZ⟩ := hv
  have hx := B.exec
  have hb := B.bytes
  have hr := B.returns
  have hts := atoms_spec (ws := wsX10_manyNow) B.pre
  have hown : s.vm.findClass RX10 = some m.cls := findClass_of_methodNamed B.named
  have hlocks := B.notSynchronized
  subst hsz
  have hD := hD0.self (sz := s.heap.size)
  generalize hAe : va_A [(h0, .inr (13, [.int 0, .int 7, .int 0, .ref l1, .ref l2])), (l1, .inr (2, [.int 0, .ref dE, .int 0])), (l2, .inr (2, [.int 0, .ref dE, .int 0]))] s.heap.size = A at hD hZ ⊢
  have hA : ∀ q : Nat, s.heap.size ≤ q → A q := fun q h => by rw [← hAe]; exact Or.inr h
  have hS : va_S A s.heap s.heap [] := va_S.rf
  have hP : va_P (dC, dI) vwCl [(h0, .inr (13, [.int 0, .int 7, .int 0, .ref l1, .ref l2])), (l1, .inr (2, [.int 0, .ref dE, .int 0])), (l2, .inr (2, [.int 0, .ref dE, .int 0]))] s.heap := hP
  have hl := lv_entry ([.ref h0, .int 2]) (n := 6) (Nat.le_of_ble_eq_true rfl)
  rw [lg_entry_eq]
  generalize (lg_sl ([.ref h0, .int 2]) ++ List.replicate (6 - (lg_sl ([.ref h0, .int 2])).length) Slot.unset).toArray = ls at hl ⊢
  have hl : lv_has ls 6 [(0, .ref h0), (1, .int 2)] := hl
  obtain ⟨H, eH⟩ : ∃ z, z = s.heap := ⟨_, rfl⟩
  rw [← eH] at hP ⊢
  have hS : va_S A s.heap H [] := by rw [eH]; exact va_S.rf
  refine lv_iconst (v := 0) hx hb dX10_manyNow_0 (by decide) ?_
  refine lv_istore_n (lv' := [(2, .int 0), (0, .ref h0), (1, .int 2)]) hx hb dX10_manyNow_1 rfl hl (by decide) rfl (fun ls hl => ?_)
  refine lv_iconst (v := 0) hx hb dX10_manyNow_2 (by decide) ?_
  refine lv_istore_n (lv' := [(3, .int 0), (2, .int 0), (0, .ref h0), (1, .int 2)]) hx hb dX10_manyNow_3 rfl hl (by decide) rfl (fun ls hl => ?_)
  refine lv_iconst (v := 0) hx hb dX10_manyNow_4 (by decide) ?_
  refine lv_istore (lv' := [(4, .int 0), (3, .int 0), (2, .int 0), (0, .ref h0), (1, .int 2)]) hx hb dX10_manyNow_5 hl (by decide) rfl (fun ls hl => ?_)
  refine lv_iconst (v := 0) hx hb dX10_manyNow_7 (by decide) ?_
  refine lv_istore (lv' := [(5, .int 0), (4, .int 0), (3, .int 0), (2, .int 0), (0, .ref h0), (1, .int 2)]) hx hb dX10_manyNow_8 hl (by decide) rfl (fun ls hl => ?_)
  refine lv_iload hx hb dX10_manyNow_10 (lv_at hl 0 rfl) ?_
  refine lv_aload_n hx hb dX10_manyNow_12 rfl (lv_at hl 4 rfl) ?_
  refine va_get (D := (dC, dI)) (ci := 13) (v := .ref l1) (C := RX10) (T := TX10) (N := 5) hx hb hts (by decide +kernel) hown hK hP 0 rfl rfl 3 (by decide) (hts (.fieldLink RX10 16 "VersorhallModel" "algebras" "Ljava/util/List;") (by decide +kernel)) (fun _ h9 => h9) rfl dX10_manyNow_13 ?_
  have hPc := hP.sub (ws' := [(l1, .inr (2, [.int 0, .ref dE, .int 0]))]) [1] rfl
  have hDc := hD.sub (ws' := [(l1, .inr (2, [.int 0, .ref dE, .int 0]))]) [1] (by decide) rfl
  have hKc := hK.sub (tys' := []) [] rfl
  have hFc := va_free (wc := [(l1, .inr (2, [.int 0, .ref dE, .int 0]))]) hD hS hA [1] rfl
  refine va_callFi (va_runF ((hK.1 2 _ rfl).2) (As := []) (rest := [.int 0]) ⟨hx, hb, hml, hown, hts⟩ (c_List_size l dC dI dE l1 0 dE 0 H.size) (va_cwF 0 hts gX10_manyNow_Jx4a65c_size_8abf5_f30Jx4a65c rfl rfl rfl (Tb_w1 hTb) (by decide +kernel) ⟨Nat.le_of_ble_eq_true rfl, Nat.le_of_ble_eq_true rfl⟩) ⟨fun a U g mk q => ⟨q.1, PB.blind q.2⟩, va_recv hKc hPc (ci := 2) (q0 := 0) rfl rfl, fun U hU hW => ⟨rfl, PB.call hPc hKc hDc hTb hZ hS hFc hU hW⟩⟩ rfl rfl hl.1 rfl (lv_room (Nat.le_of_ble_eq_true rfl)) dX10_manyNow_16 ⟨Nat.le_of_ble_eq_true rfl, Nat.le_of_ble_eq_true rfl⟩) hS (fun q _ h => hFc q h) hFc (fun r u t H locs ht hvm hw hB hz1 hk1 hS => ?_)
  obtain ⟨hP, hD, hK⟩ := PE.join (wc := [(l1, .inr (2, [.int 0, .ref dE, .int 0]))]) (wr := [(h0, .inr (13, [.int 0, .int 7, .int 0, .ref l1, .ref l2])), (l2, .inr (2, [.int 0, .ref dE, .int 0]))]) (w1 := [(l1, .inr (2, [.int 0, .ref dE, .int 0]))]) (tr := []) (t1 := []) hP hD hK [1] [0, 2] [] rfl rfl rfl (by decide) (by decide) hk1 hFc ht hvm hB
  have hP : va_P (dC, dI) vwCl [(h0, .inr (13, [.int 0, .int 7, .int 0, .ref l1, .ref l2])), (l2, .inr (2, [.int 0, .ref dE, .int 0])), (l1, .inr (2, [.int 0, .ref dE, .int 0]))] H := hP
  have hD : va_D A [(h0, .inr (13, [.int 0, .int 7, .int 0, .ref l1, .ref l2])), (l2, .inr (2, [.int 0, .ref dE, .int 0])), (l1, .inr (2, [.int 0, .ref dE, .int 0]))] := hD
  have hK : va_K (dC, dI) vwCl [] s := hK
  subst hw
  refine lv_icmp_ge (tgt := 50) hx hb dX10_manyNow_21 (by decide) (fun _ => ?_) (fun c9 => absurd (by decide) c9)
  refine lv_iconst (v := 0) hx hb dX10_manyNow_50 (by decide) ?_
  refine lv_istore (lv' := [(5, .int 0), (4, .int 0), (3, .int 0), (2, .int 0), (0, .ref h0), (1, .int 2)]) hx hb dX10_manyNow_51 hl (by decide) rfl (fun ls hl => ?_)
  refine lv_iload hx hb dX10_manyNow_53 (lv_at hl 0 rfl) ?_
  refine lv_aload_n hx hb dX10_manyNow_55 rfl (lv_at hl 4 rfl) ?_
  refine va_get (D := (dC, dI)) (ci := 13) (v := .ref l2) (C := RX10) (T := TX10) (N := 5) hx hb hts (by decide +kernel) hown hK hP 0 rfl rfl 4 (by decide) (hts (.fieldLink RX10 20 "VersorhallModel" "elements" "Ljava/util/List;") (by decide +kernel)) (fun _ h9 => h9) rfl dX10_manyNow_56 ?_
  have hPc := hP.sub (ws' := [(l2, .inr (2, [.int 0, .ref dE, .int 0]))]) [1] rfl
  have hDc := hD.sub (ws' := [(l2, .inr (2, [.int 0, .ref dE, .int 0]))]) [1] (by decide) rfl
  have hKc := hK.sub (tys' := []) [] rfl
  have hFc := va_free (wc := [(l2, .inr (2, [.int 0, .ref dE, .int 0]))]) hD hS hA [1] rfl
  refine va_callFi (va_runF ((hK.1 2 _ rfl).2) (As := []) (rest := [.int 0]) ⟨hx, hb, hml, hown, hts⟩ (c_List_size l dC dI dE l2 0 dE 0 H.size) (va_cwF 0 hts gX10_manyNow_Jx4a65c_size_8abf5_f30Jx4a65c rfl rfl rfl (Tb_w1 hTb) (by decide +kernel) ⟨Nat.le_of_ble_eq_true rfl, Nat.le_of_ble_eq_true rfl⟩) ⟨fun a U g mk q => ⟨q.1, PB.blind q.2⟩, va_recv hKc hPc (ci := 2) (q0 := 0) rfl rfl, fun U hU hW => ⟨rfl, PB.call hPc hKc hDc hTb hZ hS hFc hU hW⟩⟩ rfl rfl hl.1 rfl (lv_room (Nat.le_of_ble_eq_true rfl)) dX10_manyNow_59 ⟨Nat.le_of_ble_eq_true rfl, Nat.le_of_ble_eq_true rfl⟩) hS (fun q _ h => hFc q h) hFc (fun r u t H locs ht hvm hw hB hz1 hk1 hS => ?_)
  obtain ⟨hP, hD, hK⟩ := PE.join (wc := [(l2, .inr (2, [.int 0, .ref dE, .int 0]))]) (wr := [(h0, .inr (13, [.int 0, .int 7, .int 0, .ref l1, .ref l2])), (l1, .inr (2, [.int 0, .ref dE, .int 0]))]) (w1 := [(l2, .inr (2, [.int 0, .ref dE, .int 0]))]) (tr := []) (t1 := []) hP hD hK [1] [0, 2] [] rfl rfl rfl (by decide) (by decide) hk1 hFc ht hvm hB
  have hP : va_P (dC, dI) vwCl [(h0, .inr (13, [.int 0, .int 7, .int 0, .ref l1, .ref l2])), (l1, .inr (2, [.int 0, .ref dE, .int 0])), (l2, .inr (2, [.int 0, .ref dE, .int 0]))] H := hP
  have hD : va_D A [(h0, .inr (13, [.int 0, .int 7, .int 0, .ref l1, .ref l2])), (l1, .inr (2, [.int 0, .ref dE, .int 0])), (l2, .inr (2, [.int 0, .ref dE, .int 0]))] := hD
  have hK : va_K (dC, dI) vwCl [] s := hK
  subst hw
  refine lv_icmp_ge (tgt := 112) hx hb dX10_manyNow_64 (by decide) (fun _ => ?_) (fun c9 => absurd (by decide) c9)
  refine lv_bipush (v := 8) hx hb dX10_manyNow_112 (by decide) ?_
  refine va_newa (atype := .int) (ty := .int) (a0 := (8, .inl (fun _ => 0))) (n := 8) (N' := 8) hx hb (hts (.arrayClass .int) (by decide +kernel)) rfl hK hP hD hS hA (fun _ => rfl) (by decide) (by decide) (Nat.le_of_ble_eq_true rfl) (Nat.le_of_ble_eq_true rfl) (Nat.le_of_ble_eq_true rfl) dX10_manyNow_114 (fun q1 cAq1 H hK hP hD hS => ?_)
  have hP : va_P (dC, dI) vwCl [(h0, .inr (13, [.int 0, .int 7, .int 0, .ref l1, .ref l2])), (l1, .inr (2, [.int 0, .ref dE, .int 0])), (l2, .inr (2, [.int 0, .ref dE, .int 0])), (q1, .inl (cAq1, 8, .inl (fun _ => 0)))] H := hP
  have hD : va_D A [(h0, .inr (13, [.int 0, .int 7, .int 0, .ref l1, .ref l2])), (l1, .inr (2, [.int 0, .ref dE, .int 0])), (l2, .inr (2, [.int 0, .ref dE, .int 0])), (q1, .inl (cAq1, 8, .inl (fun _ => 0)))] := hD
  have hK : va_K (dC, dI) vwCl [(cAq1, .int)] s := hK
  refine W.widen (k := 1) (n := 8) (by omega) (by omega) ?_
  refine lv_dup hx hb dX10_manyNow_116 rfl ?_
  refine lv_iconst (v := 0) hx hb dX10_manyNow_117 (by decide) ?_
  refine lv_aload_n hx hb dX10_manyNow_118 rfl (lv_at hl 4 rfl) ?_
  refine va_get (D := (dC, dI)) (ci := 13) (v := .int 7) (C := RX10) (T := TX10) (N := 5) hx hb hts (by decide +kernel) hown hK hP 0 rfl rfl 1 (by decide) (hts (.fieldLink RX10 7 "VersorhallModel" "p" "I") (by decide +kernel)) (fun _ h9 => h9) rfl dX10_manyNow_119 ?_
  refine va_iast hx hb hK hP hD hS 3 0 rfl rfl (by unfold vp_in; decide) dX10_manyNow_122 (fun H locs hP hD hS => ?_)
  have hP : va_P (dC, dI) vwCl [(h0, .inr (13, [.int 0, .int 7, .int 0, .ref l1, .ref l2])), (l1, .inr (2, [.int 0, .ref dE, .int 0])), (l2, .inr (2, [.int 0, .ref dE, .int 0])), (q1, .inl (cAq1, 8, .inl (upd (fun _ => 0) (Int32.toNatClampNeg 0) 7)))] H := hP
  have hD : va_D A [(h0, .inr (13, [.int 0, .int 7, .int 0, .ref l1, .ref l2])), (l1, .inr (2, [.int 0, .ref dE, .int 0])), (l2, .inr (2, [.int 0, .ref dE, .int 0])), (q1, .inl (cAq1, 8, .inl (upd (fun _ => 0) (Int32.toNatClampNeg 0) 7)))] := hD
  refine lv_dup hx hb dX10_manyNow_123 rfl ?_
  refine lv_iconst (v := 1) hx hb dX10_manyNow_124 (by decide) ?_
  refine lv_aload_n hx hb dX10_manyNow_125 rfl (lv_at hl 4 rfl) ?_
  refine va_get (D := (dC, dI)) (ci := 13) (v := .ref l1) (C := RX10) (T := TX10) (N := 5) hx hb hts (by decide +kernel) hown hK hP 0 rfl rfl 3 (by decide) (hts (.fieldLink RX10 16 "VersorhallModel" "algebras" "Ljava/util/List;") (by decide +kernel)) (fun _ h9 => h9) rfl dX10_manyNow_126 ?_
  have hPc := hP.sub (ws' := [(l1, .inr (2, [.int 0, .ref dE, .int 0]))]) [1] rfl
  have hDc := hD.sub (ws' := [(l1, .inr (2, [.int 0, .ref dE, .int 0]))]) [1] (by decide) rfl
  have hKc := hK.sub (tys' := []) [] rfl
  have hFc := va_free (wc := [(l1, .inr (2, [.int 0, .ref dE, .int 0]))]) hD hS hA [1] rfl
  refine va_callFi (va_runF ((hK.1 2 _ rfl).2) (As := []) (rest := [.int 1, .ref q1, .ref q1]) ⟨hx, hb, hml, hown, hts⟩ (c_List_size l dC dI dE l1 0 dE 0 H.size) (va_cwF 0 hts gX10_manyNow_Jx4a65c_size_8abf5_f30Jx4a65c rfl rfl rfl (Tb_w1 hTb) (by decide +kernel) ⟨Nat.le_of_ble_eq_true rfl, Nat.le_of_ble_eq_true rfl⟩) ⟨fun a U g mk q => ⟨q.1, PB.blind q.2⟩, va_recv hKc hPc (ci := 2) (q0 := 0) rfl rfl, fun U hU hW => ⟨rfl, PB.call hPc hKc hDc hTb hZ hS hFc hU hW⟩⟩ rfl rfl hl.1 rfl (lv_room (Nat.le_of_ble_eq_true rfl)) dX10_manyNow_129 ⟨Nat.le_of_ble_eq_true rfl, Nat.le_of_ble_eq_true rfl⟩) hS (fun q _ h => hFc q h) hFc (fun r u t H locs ht hvm hw hB hz1 hk1 hS => ?_)
  obtain ⟨hP, hD, hK⟩ := PE.join (wc := [(l1, .inr (2, [.int 0, .ref dE, .int 0]))]) (wr := [(h0, .inr (13, [.int 0, .int 7, .int 0, .ref l1, .ref l2])), (l2, .inr (2, [.int 0, .ref dE, .int 0])), (q1, .inl (cAq1, 8, .inl (upd (fun _ => 0) (Int32.toNatClampNeg 0) 7)))]) (w1 := [(l1, .inr (2, [.int 0, .ref dE, .int 0]))]) (tr := [(cAq1, .int)]) (t1 := []) hP hD hK [1] [0, 2, 3] [0] rfl rfl rfl (by decide) (by decide) hk1 hFc ht hvm hB
  have hP : va_P (dC, dI) vwCl [(h0, .inr (13, [.int 0, .int 7, .int 0, .ref l1, .ref l2])), (l2, .inr (2, [.int 0, .ref dE, .int 0])), (q1, .inl (cAq1, 8, .inl (upd (fun _ => 0) (Int32.toNatClampNeg 0) 7))), (l1, .inr (2, [.int 0, .ref dE, .int 0]))] H := hP
  have hD : va_D A [(h0, .inr (13, [.int 0, .int 7, .int 0, .ref l1, .ref l2])), (l2, .inr (2, [.int 0, .ref dE, .int 0])), (q1, .inl (cAq1, 8, .inl (upd (fun _ => 0) (Int32.toNatClampNeg 0) 7))), (l1, .inr (2, [.int 0, .ref dE, .int 0]))] := hD
  have hK : va_K (dC, dI) vwCl [(cAq1, .int)] s := hK
  subst hw
  refine va_iast hx hb hK hP hD hS 2 0 rfl rfl (by unfold vp_in; decide) dX10_manyNow_134 (fun H locs hP hD hS => ?_)
  have hP : va_P (dC, dI) vwCl [(h0, .inr (13, [.int 0, .int 7, .int 0, .ref l1, .ref l2])), (l2, .inr (2, [.int 0, .ref dE, .int 0])), (q1, .inl (cAq1, 8, .inl (upd (upd (fun _ => 0) (Int32.toNatClampNeg 0) 7) (Int32.toNatClampNeg 1) 0))), (l1, .inr (2, [.int 0, .ref dE, .int 0]))] H := hP
  have hD : va_D A [(h0, .inr (13, [.int 0, .int 7, .int 0, .ref l1, .ref l2])), (l2, .inr (2, [.int 0, .ref dE, .int 0])), (q1, .inl (cAq1, 8, .inl (upd (upd (fun _ => 0) (Int32.toNatClampNeg 0) 7) (Int32.toNatClampNeg 1) 0))), (l1, .inr (2, [.int 0, .ref dE, .int 0]))] := hD
  refine lv_dup hx hb dX10_manyNow_135 rfl ?_
  refine lv_iconst (v := 2) hx hb dX10_manyNow_136 (by decide) ?_
  refine lv_aload_n hx hb dX10_manyNow_137 rfl (lv_at hl 4 rfl) ?_
  refine va_get (D := (dC, dI)) (ci := 13) (v := .ref l2) (C := RX10) (T := TX10) (N := 5) hx hb hts (by decide +kernel) hown hK hP 0 rfl rfl 4 (by decide) (hts (.fieldLink RX10 20 "VersorhallModel" "elements" "Ljava/util/List;") (by decide +kernel)) (fun _ h9 => h9) rfl dX10_manyNow_138 ?_
  have hPc := hP.sub (ws' := [(l2, .inr (2, [.int 0, .ref dE, .int 0]))]) [1] rfl
  have hDc := hD.sub (ws' := [(l2, .inr (2, [.int 0, .ref dE, .int 0]))]) [1] (by decide) rfl
  have hKc := hK.sub (tys' := []) [] rfl
  have hFc := va_free (wc := [(l2, .inr (2, [.int 0, .ref dE, .int 0]))]) hD hS hA [1] rfl
  refine va_callFi (va_runF ((hK.1 2 _ rfl).2) (As := []) (rest := [.int 2, .ref q1, .ref q1]) ⟨hx, hb, hml, hown, hts⟩ (c_List_size l dC dI dE l2 0 dE 0 H.size) (va_cwF 0 hts gX10_manyNow_Jx4a65c_size_8abf5_f30Jx4a65c rfl rfl rfl (Tb_w1 hTb) (by decide +kernel) ⟨Nat.le_of_ble_eq_true rfl, Nat.le_of_ble_eq_true rfl⟩) ⟨fun a U g mk q => ⟨q.1, PB.blind q.2⟩, va_recv hKc hPc (ci := 2) (q0 := 0) rfl rfl, fun U hU hW => ⟨rfl, PB.call hPc hKc hDc hTb hZ hS hFc hU hW⟩⟩ rfl rfl hl.1 rfl (lv_room (Nat.le_of_ble_eq_true rfl)) dX10_manyNow_141 ⟨Nat.le_of_ble_eq_true rfl, Nat.le_of_ble_eq_true rfl⟩) hS (fun q _ h => hFc q h) hFc (fun r u t H locs ht hvm hw hB hz1 hk1 hS => ?_)
  obtain ⟨hP, hD, hK⟩ := PE.join (wc := [(l2, .inr (2, [.int 0, .ref dE, .int 0]))]) (wr := [(h0, .inr (13, [.int 0, .int 7, .int 0, .ref l1, .ref l2])), (q1, .inl (cAq1, 8, .inl (upd (upd (fun _ => 0) (Int32.toNatClampNeg 0) 7) (Int32.toNatClampNeg 1) 0))), (l1, .inr (2, [.int 0, .ref dE, .int 0]))]) (w1 := [(l2, .inr (2, [.int 0, .ref dE, .int 0]))]) (tr := [(cAq1, .int)]) (t1 := []) hP hD hK [1] [0, 2, 3] [0] rfl rfl rfl (by decide) (by decide) hk1 hFc ht hvm hB
  have hP : va_P (dC, dI) vwCl [(h0, .inr (13, [.int 0, .int 7, .int 0, .ref l1, .ref l2])), (q1, .inl (cAq1, 8, .inl (upd (upd (fun _ => 0) (Int32.toNatClampNeg 0) 7) (Int32.toNatClampNeg 1) 0))), (l1, .inr (2, [.int 0, .ref dE, .int 0])), (l2, .inr (2, [.int 0, .ref dE, .int 0]))] H := hP
  have hD : va_D A [(h0, .inr (13, [.int 0, .int 7, .int 0, .ref l1, .ref l2])), (q1, .inl (cAq1, 8, .inl (upd (upd (fun _ => 0) (Int32.toNatClampNeg 0) 7) (Int32.toNatClampNeg 1) 0))), (l1, .inr (2, [.int 0, .ref dE, .int 0])), (l2, .inr (2, [.int 0, .ref dE, .int 0]))] := hD
  have hK : va_K (dC, dI) vwCl [(cAq1, .int)] s := hK
  subst hw
  refine va_iast hx hb hK hP hD hS 1 0 rfl rfl (by unfold vp_in; decide) dX10_manyNow_146 (fun H locs hP hD hS => ?_)
  have hP : va_P (dC, dI) vwCl [(h0, .inr (13, [.int 0, .int 7, .int 0, .ref l1, .ref l2])), (q1, .inl (cAq1, 8, .inl (upd (upd (upd (fun _ => 0) (Int32.toNatClampNeg 0) 7) (Int32.toNatClampNeg 1) 0) (Int32.toNatClampNeg 2) 0))), (l1, .inr (2, [.int 0, .ref dE, .int 0])), (l2, .inr (2, [.int 0, .ref dE, .int 0]))] H := hP
  have hD : va_D A [(h0, .inr (13, [.int 0, .int 7, .int 0, .ref l1, .ref l2])), (q1, .inl (cAq1, 8, .inl (upd (upd (upd (fun _ => 0) (Int32.toNatClampNeg 0) 7) (Int32.toNatClampNeg 1) 0) (Int32.toNatClampNeg 2) 0))), (l1, .inr (2, [.int 0, .ref dE, .int 0])), (l2, .inr (2, [.int 0, .ref dE, .int 0]))] := hD
  refine lv_dup hx hb dX10_manyNow_147 rfl ?_
  refine lv_iconst (v := 3) hx hb dX10_manyNow_148 (by decide) ?_
  refine lv_iload_n hx hb dX10_manyNow_149 rfl (lv_at hl 3 rfl) ?_
  refine va_iast hx hb hK hP hD hS 1 0 rfl rfl (by unfold vp_in; decide) dX10_manyNow_150 (fun H locs hP hD hS => ?_)
  have hP : va_P (dC, dI) vwCl [(h0, .inr (13, [.int 0, .int 7, .int 0, .ref l1, .ref l2])), (q1, .inl (cAq1, 8, .inl (upd (upd (upd (upd (fun _ => 0) (Int32.toNatClampNeg 0) 7) (Int32.toNatClampNeg 1) 0) (Int32.toNatClampNeg 2) 0) (Int32.toNatClampNeg 3) 0))), (l1, .inr (2, [.int 0, .ref dE, .int 0])), (l2, .inr (2, [.int 0, .ref dE, .int 0]))] H := hP
  have hD : va_D A [(h0, .inr (13, [.int 0, .int 7, .int 0, .ref l1, .ref l2])), (q1, .inl (cAq1, 8, .inl (upd (upd (upd (upd (fun _ => 0) (Int32.toNatClampNeg 0) 7) (Int32.toNatClampNeg 1) 0) (Int32.toNatClampNeg 2) 0) (Int32.toNatClampNeg 3) 0))), (l1, .inr (2, [.int 0, .ref dE, .int 0])), (l2, .inr (2, [.int 0, .ref dE, .int 0]))] := hD
  refine lv_dup hx hb dX10_manyNow_151 rfl ?_
  refine lv_iconst (v := 4) hx hb dX10_manyNow_152 (by decide) ?_
  refine lv_iload_n hx hb dX10_manyNow_153 rfl (lv_at hl 2 rfl) ?_
  refine va_iast hx hb hK hP hD hS 1 0 rfl rfl (by unfold vp_in; decide) dX10_manyNow_154 (fun H locs hP hD hS => ?_)
  have hP : va_P (dC, dI) vwCl [(h0, .inr (13, [.int 0, .int 7, .int 0, .ref l1, .ref l2])), (q1, .inl (cAq1, 8, .inl (upd (upd (upd (upd (upd (fun _ => 0) (Int32.toNatClampNeg 0) 7) (Int32.toNatClampNeg 1) 0) (Int32.toNatClampNeg 2) 0) (Int32.toNatClampNeg 3) 0) (Int32.toNatClampNeg 4) 0))), (l1, .inr (2, [.int 0, .ref dE, .int 0])), (l2, .inr (2, [.int 0, .ref dE, .int 0]))] H := hP
  have hD : va_D A [(h0, .inr (13, [.int 0, .int 7, .int 0, .ref l1, .ref l2])), (q1, .inl (cAq1, 8, .inl (upd (upd (upd (upd (upd (fun _ => 0) (Int32.toNatClampNeg 0) 7) (Int32.toNatClampNeg 1) 0) (Int32.toNatClampNeg 2) 0) (Int32.toNatClampNeg 3) 0) (Int32.toNatClampNeg 4) 0))), (l1, .inr (2, [.int 0, .ref dE, .int 0])), (l2, .inr (2, [.int 0, .ref dE, .int 0]))] := hD
  refine lv_dup hx hb dX10_manyNow_155 rfl ?_
  refine lv_iconst (v := 5) hx hb dX10_manyNow_156 (by decide) ?_
  refine lv_iload hx hb dX10_manyNow_157 (lv_at hl 1 rfl) ?_
  refine va_iast hx hb hK hP hD hS 1 0 rfl rfl (by unfold vp_in; decide) dX10_manyNow_159 (fun H locs hP hD hS => ?_)
  have hP : va_P (dC, dI) vwCl [(h0, .inr (13, [.int 0, .int 7, .int 0, .ref l1, .ref l2])), (q1, .inl (cAq1, 8, .inl (upd (upd (upd (upd (upd (upd (fun _ => 0) (Int32.toNatClampNeg 0) 7) (Int32.toNatClampNeg 1) 0) (Int32.toNatClampNeg 2) 0) (Int32.toNatClampNeg 3) 0) (Int32.toNatClampNeg 4) 0) (Int32.toNatClampNeg 5) 0))), (l1, .inr (2, [.int 0, .ref dE, .int 0])), (l2, .inr (2, [.int 0, .ref dE, .int 0]))] H := hP
  have hD : va_D A [(h0, .inr (13, [.int 0, .int 7, .int 0, .ref l1, .ref l2])), (q1, .inl (cAq1, 8, .inl (upd (upd (upd (upd (upd (upd (fun _ => 0) (Int32.toNatClampNeg 0) 7) (Int32.toNatClampNeg 1) 0) (Int32.toNatClampNeg 2) 0) (Int32.toNatClampNeg 3) 0) (Int32.toNatClampNeg 4) 0) (Int32.toNatClampNeg 5) 0))), (l1, .inr (2, [.int 0, .ref dE, .int 0])), (l2, .inr (2, [.int 0, .ref dE, .int 0]))] := hD
  refine lv_dup hx hb dX10_manyNow_160 rfl ?_
  refine lv_bipush (v := 6) hx hb dX10_manyNow_161 (by decide) ?_
  refine lv_aload_n hx hb dX10_manyNow_163 rfl (lv_at hl 4 rfl) ?_
  refine va_get (D := (dC, dI)) (ci := 13) (v := .int 0) (C := RX10) (T := TX10) (N := 5) hx hb hts (by decide +kernel) hown hK hP 0 rfl rfl 2 (by decide) (hts (.fieldLink RX10 169 "VersorhallModel" "knocks" "I") (by decide +kernel)) (fun _ h9 => h9) rfl dX10_manyNow_164 ?_
  refine va_iast hx hb hK hP hD hS 1 0 rfl rfl (by unfold vp_in; decide) dX10_manyNow_167 (fun H locs hP hD hS => ?_)
  have hP : va_P (dC, dI) vwCl [(h0, .inr (13, [.int 0, .int 7, .int 0, .ref l1, .ref l2])), (q1, .inl (cAq1, 8, .inl (upd (upd (upd (upd (upd (upd (upd (fun _ => 0) (Int32.toNatClampNeg 0) 7) (Int32.toNatClampNeg 1) 0) (Int32.toNatClampNeg 2) 0) (Int32.toNatClampNeg 3) 0) (Int32.toNatClampNeg 4) 0) (Int32.toNatClampNeg 5) 0) (Int32.toNatClampNeg 6) 0))), (l1, .inr (2, [.int 0, .ref dE, .int 0])), (l2, .inr (2, [.int 0, .ref dE, .int 0]))] H := hP
  have hD : va_D A [(h0, .inr (13, [.int 0, .int 7, .int 0, .ref l1, .ref l2])), (q1, .inl (cAq1, 8, .inl (upd (upd (upd (upd (upd (upd (upd (fun _ => 0) (Int32.toNatClampNeg 0) 7) (Int32.toNatClampNeg 1) 0) (Int32.toNatClampNeg 2) 0) (Int32.toNatClampNeg 3) 0) (Int32.toNatClampNeg 4) 0) (Int32.toNatClampNeg 5) 0) (Int32.toNatClampNeg 6) 0))), (l1, .inr (2, [.int 0, .ref dE, .int 0])), (l2, .inr (2, [.int 0, .ref dE, .int 0]))] := hD
  refine lv_dup hx hb dX10_manyNow_168 rfl ?_
  refine lv_bipush (v := 7) hx hb dX10_manyNow_169 (by decide) ?_
  refine lv_aload_n hx hb dX10_manyNow_171 rfl (lv_at hl 4 rfl) ?_
  have hPc := hP.sub (ws' := [(h0, .inr (13, [.int 0, .int 7, .int 0, .ref l1, .ref l2])), (l1, .inr (2, [.int 0, .ref dE, .int 0])), (l2, .inr (2, [.int 0, .ref dE, .int 0]))]) [0, 2, 3] rfl
  have hDc := hD.sub (ws' := [(h0, .inr (13, [.int 0, .int 7, .int 0, .ref l1, .ref l2])), (l1, .inr (2, [.int 0, .ref dE, .int 0])), (l2, .inr (2, [.int 0, .ref dE, .int 0]))]) [0, 2, 3] (by decide) rfl
  have hKc := hK.sub (tys' := []) [] rfl
  have hFc := va_free (wc := [(h0, .inr (13, [.int 0, .int 7, .int 0, .ref l1, .ref l2])), (l1, .inr (2, [.int 0, .ref dE, .int 0])), (l2, .inr (2, [.int 0, .ref dE, .int 0]))]) hD hS hA [0, 2, 3] rfl
  refine va_calli (va_runV (As := []) (rest := [.int 7, .ref q1, .ref q1]) ⟨hx, hb, hml, hown, hts⟩ (c_M_allQuarters l dC dI dE h0 l1 l2 H.size) (cwV 0 hts gX10_manyNow_X10_allQuarters rfl rfl rfl (by decide +kernel) ⟨Nat.le_of_ble_eq_true rfl, Nat.le_of_ble_eq_true rfl⟩) ⟨fun a U g mk q => ⟨q.1, PB.blind q.2⟩, va_recv hKc hPc (ci := 13) (q0 := 0) rfl rfl, fun U hU hW => ⟨rfl, PB.call hPc hKc hDc hTb hZ hS hFc hU hW⟩⟩ rfl rfl hl.1 rfl (lv_room (Nat.le_of_ble_eq_true rfl)) dX10_manyNow_172 ⟨Nat.le_of_ble_eq_true rfl, Nat.le_of_ble_eq_true rfl⟩) hS (fun q _ h => hFc q h) hFc (fun r u t H locs ht hvm hw hB hz1 hk1 hS => ?_)
  obtain ⟨hP, hD, hK⟩ := PE.join (wc := [(h0, .inr (13, [.int 0, .int 7, .int 0, .ref l1, .ref l2])), (l1, .inr (2, [.int 0, .ref dE, .int 0])), (l2, .inr (2, [.int 0, .ref dE, .int 0]))]) (wr := [(q1, .inl (cAq1, 8, .inl (upd (upd (upd (upd (upd (upd (upd (fun _ => 0) (Int32.toNatClampNeg 0) 7) (Int32.toNatClampNeg 1) 0) (Int32.toNatClampNeg 2) 0) (Int32.toNatClampNeg 3) 0) (Int32.toNatClampNeg 4) 0) (Int32.toNatClampNeg 5) 0) (Int32.toNatClampNeg 6) 0)))]) (w1 := [(h0, .inr (13, [.int 0, .int 7, .int 0, .ref l1, .ref l2])), (l1, .inr (2, [.int 0, .ref dE, .int 0])), (l2, .inr (2, [.int 0, .ref dE, .int 0]))]) (tr := [(cAq1, .int)]) (t1 := []) hP hD hK [0, 2, 3] [1] [0] rfl rfl rfl (by decide) (by decide) hk1 hFc ht hvm hB
  have hP : va_P (dC, dI) vwCl [(q1, .inl (cAq1, 8, .inl (upd (upd (upd (upd (upd (upd (upd (fun _ => 0) (Int32.toNatClampNeg 0) 7) (Int32.toNatClampNeg 1) 0) (Int32.toNatClampNeg 2) 0) (Int32.toNatClampNeg 3) 0) (Int32.toNatClampNeg 4) 0) (Int32.toNatClampNeg 5) 0) (Int32.toNatClampNeg 6) 0))), (h0, .inr (13, [.int 0, .int 7, .int 0, .ref l1, .ref l2])), (l1, .inr (2, [.int 0, .ref dE, .int 0])), (l2, .inr (2, [.int 0, .ref dE, .int 0]))] H := hP
  have hD : va_D A [(q1, .inl (cAq1, 8, .inl (upd (upd (upd (upd (upd (upd (upd (fun _ => 0) (Int32.toNatClampNeg 0) 7) (Int32.toNatClampNeg 1) 0) (Int32.toNatClampNeg 2) 0) (Int32.toNatClampNeg 3) 0) (Int32.toNatClampNeg 4) 0) (Int32.toNatClampNeg 5) 0) (Int32.toNatClampNeg 6) 0))), (h0, .inr (13, [.int 0, .int 7, .int 0, .ref l1, .ref l2])), (l1, .inr (2, [.int 0, .ref dE, .int 0])), (l2, .inr (2, [.int 0, .ref dE, .int 0]))] := hD
  have hK : va_K (dC, dI) vwCl [(cAq1, .int)] s := hK
  subst hw
  refine lv_iconst (v := 4) hx hb dX10_manyNow_175 (by decide) ?_
  refine lv_idiv hx hb dX10_manyNow_176 (by decide) ?_
  refine lv_topi (fun f2 ef2 => ?_)
  obtain rfl : f2 = 0 := ef2.trans (by decide)
  refine va_iast hx hb hK hP hD hS 0 0 rfl rfl (by unfold vp_in; decide) dX10_manyNow_177 (fun H locs hP hD hS => ?_)
  have hP : va_P (dC, dI) vwCl [(q1, .inl (cAq1, 8, .inl (upd (upd (upd (upd (upd (upd (upd (upd (fun _ => 0) (Int32.toNatClampNeg 0) 7) (Int32.toNatClampNeg 1) 0) (Int32.toNatClampNeg 2) 0) (Int32.toNatClampNeg 3) 0) (Int32.toNatClampNeg 4) 0) (Int32.toNatClampNeg 5) 0) (Int32.toNatClampNeg 6) 0) (Int32.toNatClampNeg 7) 0))), (h0, .inr (13, [.int 0, .int 7, .int 0, .ref l1, .ref l2])), (l1, .inr (2, [.int 0, .ref dE, .int 0])), (l2, .inr (2, [.int 0, .ref dE, .int 0]))] H := hP
  have hD : va_D A [(q1, .inl (cAq1, 8, .inl (upd (upd (upd (upd (upd (upd (upd (upd (fun _ => 0) (Int32.toNatClampNeg 0) 7) (Int32.toNatClampNeg 1) 0) (Int32.toNatClampNeg 2) 0) (Int32.toNatClampNeg 3) 0) (Int32.toNatClampNeg 4) 0) (Int32.toNatClampNeg 5) 0) (Int32.toNatClampNeg 6) 0) (Int32.toNatClampNeg 7) 0))), (h0, .inr (13, [.int 0, .int 7, .int 0, .ref l1, .ref l2])), (l1, .inr (2, [.int 0, .ref dE, .int 0])), (l2, .inr (2, [.int 0, .ref dE, .int 0]))] := hD
  refine lv_astore (lv' := [(5, .ref q1), (4, .int 0), (3, .int 0), (2, .int 0), (0, .ref h0), (1, .int 2)]) hx hb dX10_manyNow_178 hl (by decide) rfl (fun ls hl => ?_)
  refine lv_aload hx hb dX10_manyNow_180 (lv_at hl 0 rfl) ?_
  refine lv_iload_n hx hb dX10_manyNow_182 rfl (lv_at hl 5 rfl) ?_
  refine va_iald hx hb hK hP 0 0 rfl rfl (by unfold vp_in; decide) dX10_manyNow_183 ?_
  refine lv_topi (fun f3 ef3 => ?_)
  obtain rfl : f3 = 0 := ef3.trans (by decide)
  have hP9 := hP.sub (ws' := [(h0, .inr (13, [.int 0, .int 7, .int 0, .ref l1, .ref l2])), (l1, .inr (2, [.int 0, .ref dE, .int 0])), (l2, .inr (2, [.int 0, .ref dE, .int 0]))]) [1, 2, 3] rfl
  have hD9 := hD.sub (ws' := [(h0, .inr (13, [.int 0, .int 7, .int 0, .ref l1, .ref l2])), (l1, .inr (2, [.int 0, .ref dE, .int 0])), (l2, .inr (2, [.int 0, .ref dE, .int 0]))]) [1, 2, 3] (by decide) rfl
  have hK9 := hK.sub (tys' := []) [] rfl
  refine W.widen (k := 1) (n := 8) (Nat.le_of_ble_eq_true rfl) (Nat.le_of_ble_eq_true rfl) ?_
  exact W.iret (v := 0) hx hb hr (fun t ht hW => ⟨⟨_, (), rfl, rfl, PE.mk hP9 hK9 hD9 ht hW⟩, hS.F ht⟩) hS.2.2 dX10_manyNow_184

set_option maxHeartbeats 4000000 in
set_option maxRecDepth 100000 in
/-- c_M_manyNow_3 -/
theorem c_M_manyNow_3 (l : Launch) (dC : Nat → ClassId) (dI : Nat → Nat → Nat) (dE : Nat) (h0 : Nat) (l1 : Nat) (l2 : Nat) (sz : Nat) : Met l yX10_manyNow wsX10_manyNow ({ frames := 2, cells := 1, slots := 8, locals := 42 }) (va_Pc [.ref h0, .int 3] (PB dC dI dE [] [(h0, .inr (13, [.int 0, .int 7, .int 0, .ref l1, .ref l2])), (l1, .inr (2, [.int 0, .ref dE, .int 0])), (l2, .inr (2, [.int 0, .ref dE, .int 0]))] sz)) (va_Qi (fun (r : Int32) (_ : Unit) => r = 0) (fun (_ : Unit) (t : State) => PE dC dI [] [(h0, .inr (13, [.int 0, .int 7, .int 0, .ref l1, .ref l2])), (l1, .inr (2, [.int 0, .ref dE, .int 0])), (l2, .inr (2, [.int 0, .ref dE, .int 0]))] (va_A [(h0, .inr (13, [.int 0, .int 7, .int 0, .ref l1, .ref l2])), (l1, .inr (2, [.int 0, .ref dE, .int 0])), (l2, .inr (2, [.int 0, .ref dE, .int 0]))] sz) t) (va_A [(h0, .inr (13, [.int 0, .int 7, .int 0, .ref l1, .ref l2])), (l1, .inr (2, [.int 0, .ref dE, .int 0])), (l2, .inr (2, [.int 0, .ref dE, .int 0]))] sz)) 1 8 (va_A [(h0, .inr (13, [.int 0, .int 7, .int 0, .ref l1, .ref l2])), (l1, .inr (2, [.int 0, .ref dE, .int 0])), (l2, .inr (2, [.int 0, .ref dE, .int 0]))] sz) := by
  refine Met.ofW (cc := cX10_manyNow) (maxL := 6) (ret := (some .int)) (by decide) rfl ?_
  intro p e s m args below meth c s₁ B hml hv
  obtain ⟨rfl, hsz, hP, hK, hD0, hTb, hZ⟩ := hv
  have hx := B.exec
  have hb := B.bytes
  have hr := B.returns
  have hts := atoms_spec (ws := wsX10_manyNow) B.pre
  have hown : s.vm.findClass RX10 = some m.cls := findClass_of_methodNamed B.named
  have hlocks := B.notSynchronized
  subst hsz
  have hD := hD0.self (sz := s.heap.size)
  generalize hAe : va_A [(h0, .inr (13, [.int 0, .int 7, .int 0, .ref l1, .ref l2])), (l1, .inr (2, [.int 0, .ref dE, .int 0])), (l2, .inr (2, [.int 0, .ref dE, .int 0]))] s.heap.size = A at hD hZ ⊢
  have hA : ∀ q : Nat, s.heap.size ≤ q → A q := fun q h => by rw [← hAe]; exact Or.inr h
  have hS : va_S A s.heap s.heap [] := va_S.rf
  have hP : va_P (dC, dI) vwCl [(h0, .inr (13, [.int 0, .int 7, .int 0, .ref l1, .ref l2])), (l1, .inr (2, [.int 0, .ref dE, .int 0])), (l2, .inr (2, [.int 0, .ref dE, .int 0]))] s.heap := hP
  have hl := lv_entry ([.ref h0, .int 3]) (n := 6) (Nat.le_of_ble_eq_true rfl)
  rw [lg_entry_eq]
  generalize (lg_sl ([.ref h0, .int 3]) ++ List.replicate (6 - (lg_sl ([.ref h0, .int 3])).length) Slot.unset).toArray = ls at hl ⊢
  have hl : lv_has ls 6 [(0, .ref h0), (1, .int 3)] := hl
  obtain ⟨H, eH⟩ : ∃ z, z = s.heap := ⟨_, rfl⟩
  rw [← eH] at hP ⊢
  have hS : va_S A s.heap H [] := by rw [eH]; exact va_S.rf
  refine lv_iconst (v := 0) hx hb dX10_manyNow_0 (by decide) ?_
  refine lv_istore_n (lv' := [(2, .int 0), (0, .ref h0), (1, .int 3)]) hx hb dX10_manyNow_1 rfl hl (by decide) rfl (fun ls hl => ?_)
  refine lv_iconst (v := 0) hx hb dX10_manyNow_2 (by decide) ?_
  refine lv_istore_n (lv' := [(3, .int 0), (2, .int 0), (0, .ref h0), (1, .int 3)]) hx hb dX10_manyNow_3 rfl hl (by decide) rfl (fun ls hl => ?_)
  refine lv_iconst (v := 0) hx hb dX10_manyNow_4 (by decide) ?_
  refine lv_istore (lv' := [(4, .int 0), (3, .int 0), (2, .int 0), (0, .ref h0), (1, .int 3)]) hx hb dX10_manyNow_5 hl (by decide) rfl (fun ls hl => ?_)
  refine lv_iconst (v := 0) hx hb dX10_manyNow_7 (by decide) ?_
  refine lv_istore (lv' := [(5, .int 0), (4, .int 0), (3, .int 0), (2, .int 0), (0, .ref h0), (1, .int 3)]) hx hb dX10_manyNow_8 hl (by decide) rfl (fun ls hl => ?_)
  refine lv_iload hx hb dX10_manyNow_10 (lv_at hl 0 rfl) ?_
  refine lv_aload_n hx hb dX10_manyNow_12 rfl (lv_at hl 4 rfl) ?_
  refine va_get (D := (dC, dI)) (ci := 13) (v := .ref l1) (C := RX10) (T := TX10) (N := 5) hx hb hts (by decide +kernel) hown hK hP 0 rfl rfl 3 (by decide) (hts (.fieldLink RX10 16 "VersorhallModel" "algebras" "Ljava/util/List;") (by decide +kernel)) (fun _ h9 => h9) rfl dX10_manyNow_13 ?_
  have hPc := hP.sub (ws' := [(l1, .inr (2, [.int 0, .ref dE, .int 0]))]) [1] rfl
  have hDc := hD.sub (ws' := [(l1, .inr (2, [.int 0, .ref dE, .int 0]))]) [1] (by decide) rfl
  have hKc := hK.sub (tys' := []) [] rfl
  have hFc := va_free (wc := [(l1, .inr (2, [.int 0, .ref dE, .int 0]))]) hD hS hA [1] rfl
  refine va_callFi (va_runF ((hK.1 2 _ rfl).2) (As := []) (rest := [.int 0]) ⟨hx, hb, hml, hown, hts⟩ (c_List_size l dC dI dE l1 0 dE 0 H.size) (va_cwF 0 hts gX10_manyNow_Jx4a65c_size_8abf5_f30Jx4a65c rfl rfl rfl (Tb_w1 hTb) (by decide +kernel) ⟨Nat.le_of_ble_eq_true rfl, Nat.le_of_ble_eq_true rfl⟩) ⟨fun a U g mk q => ⟨q.1, PB.blind q.2⟩, va_recv hKc hPc (ci := 2) (q0 := 0) rfl rfl, fun U hU hW => ⟨rfl, PB.call hPc hKc hDc hTb hZ hS hFc hU hW⟩⟩ rfl rfl hl.1 rfl (lv_room (Nat.le_of_ble_eq_true rfl)) dX10_manyNow_16 ⟨Nat.le_of_ble_eq_true rfl, Nat.le_of_ble_eq_true rfl⟩) hS (fun q _ h => hFc q h) hFc (fun r u t H locs ht hvm hw hB hz1 hk1 hS => ?_)
  obtain ⟨hP, hD, hK⟩ := PE.join (wc := [(l1, .inr (2, [.int 0, .ref dE, .int 0]))]) (wr := [(h0, .inr (13, [.int 0, .int 7, .int 0, .ref l1, .ref l2])), (l2, .inr (2, [.int 0, .ref dE, .int 0]))]) (w1 := [(l1, .inr (2, [.int 0, .ref dE, .int 0]))]) (tr := []) (t1 := []) hP hD hK [1] [0, 2] [] rfl rfl rfl (by decide) (by decide) hk1 hFc ht hvm hB
  have hP : va_P (dC, dI) vwCl [(h0, .inr (13, [.int 0, .int 7, .int 0, .ref l1, .ref l2])), (l2, .inr (2, [.int 0, .ref dE, .int 0])), (l1, .inr (2, [.int 0, .ref dE, .int 0]))] H := hP
  have hD : va_D A [(h0, .inr (13, [.int 0, .int 7, .int 0, .ref l1, .ref l2])), (l2, .inr (2, [.int 0, .ref dE, .int 0])), (l1, .inr (2, [.int 0, .ref dE, .int 0]))] := hD
  have hK : va_K (dC, dI) vwCl [] s := hK
  subst hw
  refine lv_icmp_ge (tgt := 50) hx hb dX10_manyNow_21 (by decide) (fun _ => ?_) (fun c9 => absurd (by decide) c9)
  refine lv_iconst (v := 0) hx hb dX10_manyNow_50 (by decide) ?_
  refine lv_istore (lv' := [(5, .int 0), (4, .int 0), (3, .int 0), (2, .int 0), (0, .ref h0), (1, .int 3)]) hx hb dX10_manyNow_51 hl (by decide) rfl (fun ls hl => ?_)
  refine lv_iload hx hb dX10_manyNow_53 (lv_at hl 0 rfl) ?_
  refine lv_aload_n hx hb dX10_manyNow_55 rfl (lv_at hl 4 rfl) ?_
  refine va_get (D := (dC, dI)) (ci := 13) (v := .ref l2) (C := RX10) (T := TX10) (N := 5) hx hb hts (by decide +kernel) hown hK hP 0 rfl rfl 4 (by decide) (hts (.fieldLink RX10 20 "VersorhallModel" "elements" "Ljava/util/List;") (by decide +kernel)) (fun _ h9 => h9) rfl dX10_manyNow_56 ?_
  have hPc := hP.sub (ws' := [(l2, .inr (2, [.int 0, .ref dE, .int 0]))]) [1] rfl
  have hDc := hD.sub (ws' := [(l2, .inr (2, [.int 0, .ref dE, .int 0]))]) [1] (by decide) rfl
  have hKc := hK.sub (tys' := []) [] rfl
  have hFc := va_free (wc := [(l2, .inr (2, [.int 0, .ref dE, .int 0]))]) hD hS hA [1] rfl
  refine va_callFi (va_runF ((hK.1 2 _ rfl).2) (As := []) (rest := [.int 0]) ⟨hx, hb, hml, hown, hts⟩ (c_List_size l dC dI dE l2 0 dE 0 H.size) (va_cwF 0 hts gX10_manyNow_Jx4a65c_size_8abf5_f30Jx4a65c rfl rfl rfl (Tb_w1 hTb) (by decide +kernel) ⟨Nat.le_of_ble_eq_true rfl, Nat.le_of_ble_eq_true rfl⟩) ⟨fun a U g mk q => ⟨q.1, PB.blind q.2⟩, va_recv hKc hPc (ci := 2) (q0 := 0) rfl rfl, fun U hU hW => ⟨rfl, PB.call hPc hKc hDc hTb hZ hS hFc hU hW⟩⟩ rfl rfl hl.1 rfl (lv_room (Nat.le_of_ble_eq_true rfl)) dX10_manyNow_59 ⟨Nat.le_of_ble_eq_true rfl, Nat.le_of_ble_eq_true rfl⟩) hS (fun q _ h => hFc q h) hFc (fun r u t H locs ht hvm hw hB hz1 hk1 hS => ?_)
  obtain ⟨hP, hD, hK⟩ := PE.join (wc := [(l2, .inr (2, [.int 0, .ref dE, .int 0]))]) (wr := [(h0, .inr (13, [.int 0, .int 7, .int 0, .ref l1, .ref l2])), (l1, .inr (2, [.int 0, .ref dE, .int 0]))]) (w1 := [(l2, .inr (2, [.int 0, .ref dE, .int 0]))]) (tr := []) (t1 := []) hP hD hK [1] [0, 2] [] rfl rfl rfl (by decide) (by decide) hk1 hFc ht hvm hB
  have hP : va_P (dC, dI) vwCl [(h0, .inr (13, [.int 0, .int 7, .int 0, .ref l1, .ref l2])), (l1, .inr (2, [.int 0, .ref dE, .int 0])), (l2, .inr (2, [.int 0, .ref dE, .int 0]))] H := hP
  have hD : va_D A [(h0, .inr (13, [.int 0, .int 7, .int 0, .ref l1, .ref l2])), (l1, .inr (2, [.int 0, .ref dE, .int 0])), (l2, .inr (2, [.int 0, .ref dE, .int 0]))] := hD
  have hK : va_K (dC, dI) vwCl [] s := hK
  subst hw
  refine lv_icmp_ge (tgt := 112) hx hb dX10_manyNow_64 (by decide) (fun _ => ?_) (fun c9 => absurd (by decide) c9)
  refine lv_bipush (v := 8) hx hb dX10_manyNow_112 (by decide) ?_
  refine va_newa (atype := .int) (ty := .int) (a0 := (8, .inl (fun _ => 0))) (n := 8) (N' := 8) hx hb (hts (.arrayClass .int) (by decide +kernel)) rfl hK hP hD hS hA (fun _ => rfl) (by decide) (by decide) (Nat.le_of_ble_eq_true rfl) (Nat.le_of_ble_eq_true rfl) (Nat.le_of_ble_eq_true rfl) dX10_manyNow_114 (fun q1 cAq1 H hK hP hD hS => ?_)
  have hP : va_P (dC, dI) vwCl [(h0, .inr (13, [.int 0, .int 7, .int 0, .ref l1, .ref l2])), (l1, .inr (2, [.int 0, .ref dE, .int 0])), (l2, .inr (2, [.int 0, .ref dE, .int 0])), (q1, .inl (cAq1, 8, .inl (fun _ => 0)))] H := hP
  have hD : va_D A [(h0, .inr (13, [.int 0, .int 7, .int 0, .ref l1, .ref l2])), (l1, .inr (2, [.int 0, .ref dE, .int 0])), (l2, .inr (2, [.int 0, .ref dE, .int 0])), (q1, .inl (cAq1, 8, .inl (fun _ => 0)))] := hD
  have hK : va_K (dC, dI) vwCl [(cAq1, .int)] s := hK
  refine W.widen (k := 1) (n := 8) (by omega) (by omega) ?_
  refine lv_dup hx hb dX10_manyNow_116 rfl ?_
  refine lv_iconst (v := 0) hx hb dX10_manyNow_117 (by decide) ?_
  refine lv_aload_n hx hb dX10_manyNow_118 rfl (lv_at hl 4 rfl) ?_
  refine va_get (D := (dC, dI)) (ci := 13) (v := .int 7) (C := RX10) (T := TX10) (N := 5) hx hb hts (by decide +kernel) hown hK hP 0 rfl rfl 1 (by decide) (hts (.fieldLink RX10 7 "VersorhallModel" "p" "I") (by decide +kernel)) (fun _ h9 => h9) rfl dX10_manyNow_119 ?_
  refine va_iast hx hb hK hP hD hS 3 0 rfl rfl (by unfold vp_in; decide) dX10_manyNow_122 (fun H locs hP hD hS => ?_)
  have hP : va_P (dC, dI) vwCl [(h0, .inr (13, [.int 0, .int 7, .int 0, .ref l1, .ref l2])), (l1, .inr (2, [.int 0, .ref dE, .int 0])), (l2, .inr (2, [.int 0, .ref dE, .int 0])), (q1, .inl (cAq1, 8, .inl (upd (fun _ => 0) (Int32.toNatClampNeg 0) 7)))] H := hP
  have hD : va_D A [(h0, .inr (13, [.int 0, .int 7, .int 0, .ref l1, .ref l2])), (l1, .inr (2, [.int 0, .ref dE, .int 0])), (l2, .inr (2, [.int 0, .ref dE, .int 0])), (q1, .inl (cAq1, 8, .inl (upd (fun _ => 0) (Int32.toNatClampNeg 0) 7)))] := hD
  refine lv_dup hx hb dX10_manyNow_123 rfl ?_
  refine lv_iconst (v := 1) hx hb dX10_manyNow_124 (by decide) ?_
  refine lv_aload_n hx hb dX10_manyNow_125 rfl (lv_at hl 4 rfl) ?_
  refine va_get (D := (dC, dI)) (ci := 13) (v := .ref l1) (C := RX10) (T := TX10) (N := 5) hx hb hts (by decide +kernel) hown hK hP 0 rfl rfl 3 (by decide) (hts (.fieldLink RX10 16 "VersorhallModel" "algebras" "Ljava/util/List;") (by decide +kernel)) (fun _ h9 => h9) rfl dX10_manyNow_126 ?_
  have hPc := hP.sub (ws' := [(l1, .inr (2, [.int 0, .ref dE, .int 0]))]) [1] rfl
  have hDc := hD.sub (ws' := [(l1, .inr (2, [.int 0, .ref dE, .int 0]))]) [1] (by decide) rfl
  have hKc := hK.sub (tys' := []) [] rfl
  have hFc := va_free (wc := [(l1, .inr (2, [.int 0, .ref dE, .int 0]))]) hD hS hA [1] rfl
  refine va_callFi (va_runF ((hK.1 2 _ rfl).2) (As := []) (rest := [.int 1, .ref q1, .ref q1]) ⟨hx, hb, hml, hown, hts⟩ (c_List_size l dC dI dE l1 0 dE 0 H.size) (va_cwF 0 hts gX10_manyNow_Jx4a65c_size_8abf5_f30Jx4a65c rfl rfl rfl (Tb_w1 hTb) (by decide +kernel) ⟨Nat.le_of_ble_eq_true rfl, Nat.le_of_ble_eq_true rfl⟩) ⟨fun a U g mk q => ⟨q.1, PB.blind q.2⟩, va_recv hKc hPc (ci := 2) (q0 := 0) rfl rfl, fun U hU hW => ⟨rfl, PB.call hPc hKc hDc hTb hZ hS hFc hU hW⟩⟩ rfl rfl hl.1 rfl (lv_room (Nat.le_of_ble_eq_true rfl)) dX10_manyNow_129 ⟨Nat.le_of_ble_eq_true rfl, Nat.le_of_ble_eq_true rfl⟩) hS (fun q _ h => hFc q h) hFc (fun r u t H locs ht hvm hw hB hz1 hk1 hS => ?_)
  obtain ⟨hP, hD, hK⟩ := PE.join (wc := [(l1, .inr (2, [.int 0, .ref dE, .int 0]))]) (wr := [(h0, .inr (13, [.int 0, .int 7, .int 0, .ref l1, .ref l2])), (l2, .inr (2, [.int 0, .ref dE, .int 0])), (q1, .inl (cAq1, 8, .inl (upd (fun _ => 0) (Int32.toNatClampNeg 0) 7)))]) (w1 := [(l1, .inr (2, [.int 0, .ref dE, .int 0]))]) (tr := [(cAq1, .int)]) (t1 := []) hP hD hK [1] [0, 2, 3] [0] rfl rfl rfl (by decide) (by decide) hk1 hFc ht hvm hB
  have hP : va_P (dC, dI) vwCl [(h0, .inr (13, [.int 0, .int 7, .int 0, .ref l1, .ref l2])), (l2, .inr (2, [.int 0, .ref dE, .int 0])), (q1, .inl (cAq1, 8, .inl (upd (fun _ => 0) (Int32.toNatClampNeg 0) 7))), (l1, .inr (2, [.int 0, .ref dE, .int 0]))] H := hP
  have hD : va_D A [(h0, .inr (13, [.int 0, .int 7, .int 0, .ref l1, .ref l2])), (l2, .inr (2, [.int 0, .ref dE, .int 0])), (q1, .inl (cAq1, 8, .inl (upd (fun _ => 0) (Int32.toNatClampNeg 0) 7))), (l1, .inr (2, [.int 0, .ref dE, .int 0]))] := hD
  have hK : va_K (dC, dI) vwCl [(cAq1, .int)] s := hK
  subst hw
  refine va_iast hx hb hK hP hD hS 2 0 rfl rfl (by unfold vp_in; decide) dX10_manyNow_134 (fun H locs hP hD hS => ?_)
  have hP : va_P (dC, dI) vwCl [(h0, .inr (13, [.int 0, .int 7, .int 0, .ref l1, .ref l2])), (l2, .inr (2, [.int 0, .ref dE, .int 0])), (q1, .inl (cAq1, 8, .inl (upd (upd (fun _ => 0) (Int32.toNatClampNeg 0) 7) (Int32.toNatClampNeg 1) 0))), (l1, .inr (2, [.int 0, .ref dE, .int 0]))] H := hP
  have hD : va_D A [(h0, .inr (13, [.int 0, .int 7, .int 0, .ref l1, .ref l2])), (l2, .inr (2, [.int 0, .ref dE, .int 0])), (q1, .inl (cAq1, 8, .inl (upd (upd (fun _ => 0) (Int32.toNatClampNeg 0) 7) (Int32.toNatClampNeg 1) 0))), (l1, .inr (2, [.int 0, .ref dE, .int 0]))] := hD
  refine lv_dup hx hb dX10_manyNow_135 rfl ?_
  refine lv_iconst (v := 2) hx hb dX10_manyNow_136 (by decide) ?_
  refine lv_aload_n hx hb dX10_manyNow_137 rfl (lv_at hl 4 rfl) ?_
  refine va_get (D := (dC, dI)) (ci := 13) (v := .ref l2) (C := RX10) (T := TX10) (N := 5) hx hb hts (by decide +kernel) hown hK hP 0 rfl rfl 4 (by decide) (hts (.fieldLink RX10 20 "VersorhallModel" "elements" "Ljava/util/List;") (by decide +kernel)) (fun _ h9 => h9) rfl dX10_manyNow_138 ?_
  have hPc := hP.sub (ws' := [(l2, .inr (2, [.int 0, .ref dE, .int 0]))]) [1] rfl
  have hDc := hD.sub (ws' := [(l2, .inr (2, [.int 0, .ref dE, .int 0]))]) [1] (by decide) rfl
  have hKc := hK.sub (tys' := []) [] rfl
  have hFc := va_free (wc := [(l2, .inr (2, [.int 0, .ref dE, .int 0]))]) hD hS hA [1] rfl
  refine va_callFi (va_runF ((hK.1 2 _ rfl).2) (As := []) (rest := [.int 2, .ref q1, .ref q1]) ⟨hx, hb, hml, hown, hts⟩ (c_List_size l dC dI dE l2 0 dE 0 H.size) (va_cwF 0 hts gX10_manyNow_Jx4a65c_size_8abf5_f30Jx4a65c rfl rfl rfl (Tb_w1 hTb) (by decide +kernel) ⟨Nat.le_of_ble_eq_true rfl, Nat.le_of_ble_eq_true rfl⟩) ⟨fun a U g mk q => ⟨q.1, PB.blind q.2⟩, va_recv hKc hPc (ci := 2) (q0 := 0) rfl rfl, fun U hU hW => ⟨rfl, PB.call hPc hKc hDc hTb hZ hS hFc hU hW⟩⟩ rfl rfl hl.1 rfl (lv_room (Nat.le_of_ble_eq_true rfl)) dX10_manyNow_141 ⟨Nat.le_of_ble_eq_true rfl, Nat.le_of_ble_eq_true rfl⟩) hS (fun q _ h => hFc q h) hFc (fun r u t H locs ht hvm hw hB hz1 hk1 hS => ?_)
  obtain ⟨hP, hD, hK⟩ := PE.join (wc := [(l2, .inr (2, [.int 0, .ref dE, .int 0]))]) (wr := [(h0, .inr (13, [.int 0, .int 7, .int 0, .ref l1, .ref l2])), (q1, .inl (cAq1, 8, .inl (upd (upd (fun _ => 0) (Int32.toNatClampNeg 0) 7) (Int32.toNatClampNeg 1) 0))), (l1, .inr (2, [.int 0, .ref dE, .int 0]))]) (w1 := [(l2, .inr (2, [.int 0, .ref dE, .int 0]))]) (tr := [(cAq1, .int)]) (t1 := []) hP hD hK [1] [0, 2, 3] [0] rfl rfl rfl (by decide) (by decide) hk1 hFc ht hvm hB
  have hP : va_P (dC, dI) vwCl [(h0, .inr (13, [.int 0, .int 7, .int 0, .ref l1, .ref l2])), (q1, .inl (cAq1, 8, .inl (upd (upd (fun _ => 0) (Int32.toNatClampNeg 0) 7) (Int32.toNatClampNeg 1) 0))), (l1, .inr (2, [.int 0, .ref dE, .int 0])), (l2, .inr (2, [.int 0, .ref dE, .int 0]))] H := hP
  have hD : va_D A [(h0, .inr (13, [.int 0, .int 7, .int 0, .ref l1, .ref l2])), (q1, .inl (cAq1, 8, .inl (upd (upd (fun _ => 0) (Int32.toNatClampNeg 0) 7) (Int32.toNatClampNeg 1) 0))), (l1, .inr (2, [.int 0, .ref dE, .int 0])), (l2, .inr (2, [.int 0, .ref dE, .int 0]))] := hD
  have hK : va_K (dC, dI) vwCl [(cAq1, .int)] s := hK
  subst hw
  refine va_iast hx hb hK hP hD hS 1 0 rfl rfl (by unfold vp_in; decide) dX10_manyNow_146 (fun H locs hP hD hS => ?_)
  have hP : va_P (dC, dI) vwCl [(h0, .inr (13, [.int 0, .int 7, .int 0, .ref l1, .ref l2])), (q1, .inl (cAq1, 8, .inl (upd (upd (upd (fun _ => 0) (Int32.toNatClampNeg 0) 7) (Int32.toNatClampNeg 1) 0) (Int32.toNatClampNeg 2) 0))), (l1, .inr (2, [.int 0, .ref dE, .int 0])), (l2, .inr (2, [.int 0, .ref dE, .int 0]))] H := hP
  have hD : va_D A [(h0, .inr (13, [.int 0, .int 7, .int 0, .ref l1, .ref l2])), (q1, .inl (cAq1, 8, .inl (upd (upd (upd (fun _ => 0) (Int32.toNatClampNeg 0) 7) (Int32.toNatClampNeg 1) 0) (Int32.toNatClampNeg 2) 0))), (l1, .inr (2, [.int 0, .ref dE, .int 0])), (l2, .inr (2, [.int 0, .ref dE, .int 0]))] := hD
  refine lv_dup hx hb dX10_manyNow_147 rfl ?_
  refine lv_iconst (v := 3) hx hb dX10_manyNow_148 (by decide) ?_
  refine lv_iload_n hx hb dX10_manyNow_149 rfl (lv_at hl 3 rfl) ?_
  refine va_iast hx hb hK hP hD hS 1 0 rfl rfl (by unfold vp_in; decide) dX10_manyNow_150 (fun H locs hP hD hS => ?_)
  have hP : va_P (dC, dI) vwCl [(h0, .inr (13, [.int 0, .int 7, .int 0, .ref l1, .ref l2])), (q1, .inl (cAq1, 8, .inl (upd (upd (upd (upd (fun _ => 0) (Int32.toNatClampNeg 0) 7) (Int32.toNatClampNeg 1) 0) (Int32.toNatClampNeg 2) 0) (Int32.toNatClampNeg 3) 0))), (l1, .inr (2, [.int 0, .ref dE, .int 0])), (l2, .inr (2, [.int 0, .ref dE, .int 0]))] H := hP
  have hD : va_D A [(h0, .inr (13, [.int 0, .int 7, .int 0, .ref l1, .ref l2])), (q1, .inl (cAq1, 8, .inl (upd (upd (upd (upd (fun _ => 0) (Int32.toNatClampNeg 0) 7) (Int32.toNatClampNeg 1) 0) (Int32.toNatClampNeg 2) 0) (Int32.toNatClampNeg 3) 0))), (l1, .inr (2, [.int 0, .ref dE, .int 0])), (l2, .inr (2, [.int 0, .ref dE, .int 0]))] := hD
  refine lv_dup hx hb dX10_manyNow_151 rfl ?_
  refine lv_iconst (v := 4) hx hb dX10_manyNow_152 (by decide) ?_
  refine lv_iload_n hx hb dX10_manyNow_153 rfl (lv_at hl 2 rfl) ?_
  refine va_iast hx hb hK hP hD hS 1 0 rfl rfl (by unfold vp_in; decide) dX10_manyNow_154 (fun H locs hP hD hS => ?_)
  have hP : va_P (dC, dI) vwCl [(h0, .inr (13, [.int 0, .int 7, .int 0, .ref l1, .ref l2])), (q1, .inl (cAq1, 8, .inl (upd (upd (upd (upd (upd (fun _ => 0) (Int32.toNatClampNeg 0) 7) (Int32.toNatClampNeg 1) 0) (Int32.toNatClampNeg 2) 0) (Int32.toNatClampNeg 3) 0) (Int32.toNatClampNeg 4) 0))), (l1, .inr (2, [.int 0, .ref dE, .int 0])), (l2, .inr (2, [.int 0, .ref dE, .int 0]))] H := hP
  have hD : va_D A [(h0, .inr (13, [.int 0, .int 7, .int 0, .ref l1, .ref l2])), (q1, .inl (cAq1, 8, .inl (upd (upd (upd (upd (upd (fun _ => 0) (Int32.toNatClampNeg 0) 7) (Int32.toNatClampNeg 1) 0) (Int32.toNatClampNeg 2) 0) (Int32.toNatClampNeg 3) 0) (Int32.toNatClampNeg 4) 0))), (l1, .inr (2, [.int 0, .ref dE, .int 0])), (l2, .inr (2, [.int 0, .ref dE, .int 0]))] := hD
  refine lv_dup hx hb dX10_manyNow_155 rfl ?_
  refine lv_iconst (v := 5) hx hb dX10_manyNow_156 (by decide) ?_
  refine lv_iload hx hb dX10_manyNow_157 (lv_at hl 1 rfl) ?_
  refine va_iast hx hb hK hP hD hS 1 0 rfl rfl (by unfold vp_in; decide) dX10_manyNow_159 (fun H locs hP hD hS => ?_)
  have hP : va_P (dC, dI) vwCl [(h0, .inr (13, [.int 0, .int 7, .int 0, .ref l1, .ref l2])), (q1, .inl (cAq1, 8, .inl (upd (upd (upd (upd (upd (upd (fun _ => 0) (Int32.toNatClampNeg 0) 7) (Int32.toNatClampNeg 1) 0) (Int32.toNatClampNeg 2) 0) (Int32.toNatClampNeg 3) 0) (Int32.toNatClampNeg 4) 0) (Int32.toNatClampNeg 5) 0))), (l1, .inr (2, [.int 0, .ref dE, .int 0])), (l2, .inr (2, [.int 0, .ref dE, .int 0]))] H := hP
  have hD : va_D A [(h0, .inr (13, [.int 0, .int 7, .int 0, .ref l1, .ref l2])), (q1, .inl (cAq1, 8, .inl (upd (upd (upd (upd (upd (upd (fun _ => 0) (Int32.toNatClampNeg 0) 7) (Int32.toNatClampNeg 1) 0) (Int32.toNatClampNeg 2) 0) (Int32.toNatClampNeg 3) 0) (Int32.toNatClampNeg 4) 0) (Int32.toNatClampNeg 5) 0))), (l1, .inr (2, [.int 0, .ref dE, .int 0])), (l2, .inr (2, [.int 0, .ref dE, .int 0]))] := hD
  refine lv_dup hx hb dX10_manyNow_160 rfl ?_
  refine lv_bipush (v := 6) hx hb dX10_manyNow_161 (by decide) ?_
  refine lv_aload_n hx hb dX10_manyNow_163 rfl (lv_at hl 4 rfl) ?_
  refine va_get (D := (dC, dI)) (ci := 13) (v := .int 0) (C := RX10) (T := TX10) (N := 5) hx hb hts (by decide +kernel) hown hK hP 0 rfl rfl 2 (by decide) (hts (.fieldLink RX10 169 "VersorhallModel" "knocks" "I") (by decide +kernel)) (fun _ h9 => h9) rfl dX10_manyNow_164 ?_
  refine va_iast hx hb hK hP hD hS 1 0 rfl rfl (by unfold vp_in; decide) dX10_manyNow_167 (fun H locs hP hD hS => ?_)
  have hP : va_P (dC, dI) vwCl [(h0, .inr (13, [.int 0, .int 7, .int 0, .ref l1, .ref l2])), (q1, .inl (cAq1, 8, .inl (upd (upd (upd (upd (upd (upd (upd (fun _ => 0) (Int32.toNatClampNeg 0) 7) (Int32.toNatClampNeg 1) 0) (Int32.toNatClampNeg 2) 0) (Int32.toNatClampNeg 3) 0) (Int32.toNatClampNeg 4) 0) (Int32.toNatClampNeg 5) 0) (Int32.toNatClampNeg 6) 0))), (l1, .inr (2, [.int 0, .ref dE, .int 0])), (l2, .inr (2, [.int 0, .ref dE, .int 0]))] H := hP
  have hD : va_D A [(h0, .inr (13, [.int 0, .int 7, .int 0, .ref l1, .ref l2])), (q1, .inl (cAq1, 8, .inl (upd (upd (upd (upd (upd (upd (upd (fun _ => 0) (Int32.toNatClampNeg 0) 7) (Int32.toNatClampNeg 1) 0) (Int32.toNatClampNeg 2) 0) (Int32.toNatClampNeg 3) 0) (Int32.toNatClampNeg 4) 0) (Int32.toNatClampNeg 5) 0) (Int32.toNatClampNeg 6) 0))), (l1, .inr (2, [.int 0, .ref dE, .int 0])), (l2, .inr (2, [.int 0, .ref dE, .int 0]))] := hD
  refine lv_dup hx hb dX10_manyNow_168 rfl ?_
  refine lv_bipush (v := 7) hx hb dX10_manyNow_169 (by decide) ?_
  refine lv_aload_n hx hb dX10_manyNow_171 rfl (lv_at hl 4 rfl) ?_
  have hPc := hP.sub (ws' := [(h0, .inr (13, [.int 0, .int 7, .int 0, .ref l1, .ref l2])), (l1, .inr (2, [.int 0, .ref dE, .int 0])), (l2, .inr (2, [.int 0, .ref dE, .int 0]))]) [0, 2, 3] rfl
  have hDc := hD.sub (ws' := [(h0, .inr (13, [.int 0, .int 7, .int 0, .ref l1, .ref l2])), (l1, .inr (2, [.int 0, .ref dE, .int 0])), (l2, .inr (2, [.int 0, .ref dE, .int 0]))]) [0, 2, 3] (by decide) rfl
  have hKc := hK.sub (tys' := []) [] rfl
  have hFc := va_free (wc := [(h0, .inr (13, [.int 0, .int 7, .int 0, .ref l1, .ref l2])), (l1, .inr (2, [.int 0, .ref dE, .int 0])), (l2, .inr (2, [.int 0, .ref dE, .int 0]))]) hD hS hA [0, 2, 3] rfl
  refine va_calli (va_runV (As := []) (rest := [.int 7, .ref q1, .ref q1]) ⟨hx, hb, hml, hown, hts⟩ (c_M_allQuarters l dC dI dE h0 l1 l2 H.size) (cwV 0 hts gX10_manyNow_X10_allQuarters rfl rfl rfl (by decide +kernel) ⟨Nat.le_of_ble_eq_true rfl, Nat.le_of_ble_eq_true rfl⟩) ⟨fun a U g mk q => ⟨q.1, PB.blind q.2⟩, va_recv hKc hPc (ci := 13) (q0 := 0) rfl rfl, fun U hU hW => ⟨rfl, PB.call hPc hKc hDc hTb hZ hS hFc hU hW⟩⟩ rfl rfl hl.1 rfl (lv_room (Nat.le_of_ble_eq_true rfl)) dX10_manyNow_172 ⟨Nat.le_of_ble_eq_true rfl, Nat.le_of_ble_eq_true rfl⟩) hS (fun q _ h => hFc q h) hFc (fun r u t H locs ht hvm hw hB hz1 hk1 hS => ?_)
  obtain ⟨hP, hD, hK⟩ := PE.join (wc := [(h0, .inr (13, [.int 0, .int 7, .int 0, .ref l1, .ref l2])), (l1, .inr (2, [.int 0, .ref dE, .int 0])), (l2, .inr (2, [.int 0, .ref dE, .int 0]))]) (wr := [(q1, .inl (cAq1, 8, .inl (upd (upd (upd (upd (upd (upd (upd (fun _ => 0) (Int32.toNatClampNeg 0) 7) (Int32.toNatClampNeg 1) 0) (Int32.toNatClampNeg 2) 0) (Int32.toNatClampNeg 3) 0) (Int32.toNatClampNeg 4) 0) (Int32.toNatClampNeg 5) 0) (Int32.toNatClampNeg 6) 0)))]) (w1 := [(h0, .inr (13, [.int 0, .int 7, .int 0, .ref l1, .ref l2])), (l1, .inr (2, [.int 0, .ref dE, .int 0])), (l2, .inr (2, [.int 0, .ref dE, .int 0]))]) (tr := [(cAq1, .int)]) (t1 := []) hP hD hK [0, 2, 3] [1] [0] rfl rfl rfl (by decide) (by decide) hk1 hFc ht hvm hB
  have hP : va_P (dC, dI) vwCl [(q1, .inl (cAq1, 8, .inl (upd (upd (upd (upd (upd (upd (upd (fun _ => 0) (Int32.toNatClampNeg 0) 7) (Int32.toNatClampNeg 1) 0) (Int32.toNatClampNeg 2) 0) (Int32.toNatClampNeg 3) 0) (Int32.toNatClampNeg 4) 0) (Int32.toNatClampNeg 5) 0) (Int32.toNatClampNeg 6) 0))), (h0, .inr (13, [.int 0, .int 7, .int 0, .ref l1, .ref l2])), (l1, .inr (2, [.int 0, .ref dE, .int 0])), (l2, .inr (2, [.int 0, .ref dE, .int 0]))] H := hP
  have hD : va_D A [(q1, .inl (cAq1, 8, .inl (upd (upd (upd (upd (upd (upd (upd (fun _ => 0) (Int32.toNatClampNeg 0) 7) (Int32.toNatClampNeg 1) 0) (Int32.toNatClampNeg 2) 0) (Int32.toNatClampNeg 3) 0) (Int32.toNatClampNeg 4) 0) (Int32.toNatClampNeg 5) 0) (Int32.toNatClampNeg 6) 0))), (h0, .inr (13, [.int 0, .int 7, .int 0, .ref l1, .ref l2])), (l1, .inr (2, [.int 0, .ref dE, .int 0])), (l2, .inr (2, [.int 0, .ref dE, .int 0]))] := hD
  have hK : va_K (dC, dI) vwCl [(cAq1, .int)] s := hK
  subst hw
  refine lv_iconst (v := 4) hx hb dX10_manyNow_175 (by decide) ?_
  refine lv_idiv hx hb dX10_manyNow_176 (by decide) ?_
  refine lv_topi (fun f2 ef2 => ?_)
  obtain rfl : f2 = 0 := ef2.trans (by decide)
  refine va_iast hx hb hK hP hD hS 0 0 rfl rfl (by unfold vp_in; decide) dX10_manyNow_177 (fun H locs hP hD hS => ?_)
  have hP : va_P (dC, dI) vwCl [(q1, .inl (cAq1, 8, .inl (upd (upd (upd (upd (upd (upd (upd (upd (fun _ => 0) (Int32.toNatClampNeg 0) 7) (Int32.toNatClampNeg 1) 0) (Int32.toNatClampNeg 2) 0) (Int32.toNatClampNeg 3) 0) (Int32.toNatClampNeg 4) 0) (Int32.toNatClampNeg 5) 0) (Int32.toNatClampNeg 6) 0) (Int32.toNatClampNeg 7) 0))), (h0, .inr (13, [.int 0, .int 7, .int 0, .ref l1, .ref l2])), (l1, .inr (2, [.int 0, .ref dE, .int 0])), (l2, .inr (2, [.int 0, .ref dE, .int 0]))] H := hP
  have hD : va_D A [(q1, .inl (cAq1, 8, .inl (upd (upd (upd (upd (upd (upd (upd (upd (fun _ => 0) (Int32.toNatClampNeg 0) 7) (Int32.toNatClampNeg 1) 0) (Int32.toNatClampNeg 2) 0) (Int32.toNatClampNeg 3) 0) (Int32.toNatClampNeg 4) 0) (Int32.toNatClampNeg 5) 0) (Int32.toNatClampNeg 6) 0) (Int32.toNatClampNeg 7) 0))), (h0, .inr (13, [.int 0, .int 7, .int 0, .ref l1, .ref l2])), (l1, .inr (2, [.int 0, .ref dE, .int 0])), (l2, .inr (2, [.int 0, .ref dE, .int 0]))] := hD
  refine lv_astore (lv' := [(5, .ref q1), (4, .int 0), (3, .int 0), (2, .int 0), (0, .ref h0), (1, .int 3)]) hx hb dX10_manyNow_178 hl (by decide) rfl (fun ls hl => ?_)
  refine lv_aload hx hb dX10_manyNow_180 (lv_at hl 0 rfl) ?_
  refine lv_iload_n hx hb dX10_manyNow_182 rfl (lv_at hl 5 rfl) ?_
  refine va_iald hx hb hK hP 0 0 rfl rfl (by unfold vp_in; decide) dX10_manyNow_183 ?_
  refine lv_topi (fun f3 ef3 => ?_)
  obtain rfl : f3 = 0 := ef3.trans (by decide)
  have hP9 := hP.sub (ws' := [(h0, .inr (13, [.int 0, .int 7, .int 0, .ref l1, .ref l2])), (l1, .inr (2, [.int 0, .ref dE, .int 0])), (l2, .inr (2, [.int 0, .ref dE, .int 0]))]) [1, 2, 3] rfl
  have hD9 := hD.sub (ws' := [(h0, .inr (13, [.int 0, .int 7, .int 0, .ref l1, .ref l2])), (l1, .inr (2, [.int 0, .ref dE, .int 0])), (l2, .inr (2, [.int 0, .ref dE, .int 0]))]) [1, 2, 3] (by decide) rfl
  have hK9 := hK.sub (tys' := []) [] rfl
  refine W.widen (k := 1) (n := 8) (Nat.le_of_ble_eq_true rfl) (Nat.le_of_ble_eq_true rfl) ?_
  exact W.iret (v := 0) hx hb hr (fun t ht hW => ⟨⟨_, (), rfl, rfl, PE.mk hP9 hK9 hD9 ht hW⟩, hS.F ht⟩) hS.2.2 dX10_manyNow_184

set_option maxHeartbeats 4000000 in
set_option maxRecDepth 100000 in
/-- c_M_manyNow_4 -/
theorem c_M_manyNow_4 (l : Launch) (dC : Nat → ClassId) (dI : Nat → Nat → Nat) (dE : Nat) (h0 : Nat) (l1 : Nat) (l2 : Nat) (sz : Nat) : Met l yX10_manyNow wsX10_manyNow ({ frames := 2, cells := 1, slots := 8, locals := 42 }) (va_Pc [.ref h0, .int 4] (PB dC dI dE [] [(h0, .inr (13, [.int 0, .int 7, .int 0, .ref l1, .ref l2])), (l1, .inr (2, [.int 0, .ref dE, .int 0])), (l2, .inr (2, [.int 0, .ref dE, .int 0]))] sz)) (va_Qi (fun (r : Int32) (_ : Unit) => r = 0) (fun (_ : Unit) (t : State) => PE dC dI [] [(h0, .inr (13, [.int 0, .int 7, .int 0, .ref l1, .ref l2])), (l1, .inr (2, [.int 0, .ref dE, .int 0])), (l2, .inr (2, [.int 0, .ref dE, .int 0]))] (va_A [(h0, .inr (13, [.int 0, .int 7, .int 0, .ref l1, .ref l2])), (l1, .inr (2, [.int 0, .ref dE, .int 0])), (l2, .inr (2, [.int 0, .ref dE, .int 0]))] sz) t) (va_A [(h0, .inr (13, [.int 0, .int 7, .int 0, .ref l1, .ref l2])), (l1, .inr (2, [.int 0, .ref dE, .int 0])), (l2, .inr (2, [.int 0, .ref dE, .int 0]))] sz)) 1 8 (va_A [(h0, .inr (13, [.int 0, .int 7, .int 0, .ref l1, .ref l2])), (l1, .inr (2, [.int 0, .ref dE, .int 0])), (l2, .inr (2, [.int 0, .ref dE, .int 0]))] sz) := by
  refine Met.ofW (cc := cX10_manyNow) (maxL := 6) (ret := (some .int)) (by decide) rfl ?_
  intro p e s m args below meth c s₁ B hml hv
  obtain ⟨rfl, hsz, hP, hK, hD0, hTb, hZ⟩ := hv
  have hx := B.exec
  have hb := B.bytes
  have hr := B.returns
  have hts := atoms_spec (ws := wsX10_manyNow) B.pre
  have hown : s.vm.findClass RX10 = some m.cls := findClass_of_methodNamed B.named
  have hlocks := B.notSynchronized
  subst hsz
  have hD := hD0.self (sz := s.heap.size)
  generalize hAe : va_A [(h0, .inr (13, [.int 0, .int 7, .int 0, .ref l1, .ref l2])), (l1, .inr (2, [.int 0, .ref dE, .int 0])), (l2, .inr (2, [.int 0, .ref dE, .int 0]))] s.heap.size = A at hD hZ ⊢
  have hA : ∀ q : Nat, s.heap.size ≤ q → A q := fun q h => by rw [← hAe]; exact Or.inr h
  have hS : va_S A s.heap s.heap [] := va_S.rf
  have hP : va_P (dC, dI) vwCl [(h0, .inr (13, [.int 0, .int 7, .int 0, .ref l1, .ref l2])), (l1, .inr (2, [.int 0, .ref dE, .int 0])), (l2, .inr (2, [.int 0, .ref dE, .int 0]))] s.heap := hP
  have hl := lv_entry ([.ref h0, .int 4]) (n := 6) (Nat.le_of_ble_eq_true rfl)
  rw [lg_entry_eq]
  generalize (lg_sl ([.ref h0, .int 4]) ++ List.replicate (6 - (lg_sl ([.ref h0, .int 4])).length) Slot.unset).toArray = ls at hl ⊢
  have hl : lv_has ls 6 [(0, .ref h0), (1, .int 4)] := hl
  obtain ⟨H, eH⟩ : ∃ z, z = s.heap := ⟨_, rfl⟩
  rw [← eH] at hP ⊢
  have hS : va_S A s.heap H [] := by rw [eH]; exact va_S.rf
  refine lv_iconst (v := 0) hx hb dX10_manyNow_0 (by decide) ?_
  refine lv_istore_n (lv' := [(2, .int 0), (0, .ref h0), (1, .int 4)]) hx hb dX10_manyNow_1 rfl hl (by decide) rfl (fun ls hl => ?_)
  refine lv_iconst (v := 0) hx hb dX10_manyNow_2 (by decide) ?_
  refine lv_istore_n (lv' := [(3, .int 0), (2, .int 0), (0, .ref h0), (1, .int 4)]) hx hb dX10_manyNow_3 rfl hl (by decide) rfl (fun ls hl => ?_)
  refine lv_iconst (v := 0) hx hb dX10_manyNow_4 (by decide) ?_
  refine lv_istore (lv' := [(4, .int 0), (3, .int 0), (2, .int 0), (0, .ref h0), (1, .int 4)]) hx hb dX10_manyNow_5 hl (by decide) rfl (fun ls hl => ?_)
  refine lv_iconst (v := 0) hx hb dX10_manyNow_7 (by decide) ?_
  refine lv_istore (lv' := [(5, .int 0), (4, .int 0), (3, .int 0), (2, .int 0), (0, .ref h0), (1, .int 4)]) hx hb dX10_manyNow_8 hl (by decide) rfl (fun ls hl => ?_)
  refine lv_iload hx hb dX10_manyNow_10 (lv_at hl 0 rfl) ?_
  refine lv_aload_n hx hb dX10_manyNow_12 rfl (lv_at hl 4 rfl) ?_
  refine va_get (D := (dC, dI)) (ci := 13) (v := .ref l1) (C := RX10) (T := TX10) (N := 5) hx hb hts (by decide +kernel) hown hK hP 0 rfl rfl 3 (by decide) (hts (.fieldLink RX10 16 "VersorhallModel" "algebras" "Ljava/util/List;") (by decide +kernel)) (fun _ h9 => h9) rfl dX10_manyNow_13 ?_
  have hPc := hP.sub (ws' := [(l1, .inr (2, [.int 0, .ref dE, .int 0]))]) [1] rfl
  have hDc := hD.sub (ws' := [(l1, .inr (2, [.int 0, .ref dE, .int 0]))]) [1] (by decide) rfl
  have hKc := hK.sub (tys' := []) [] rfl
  have hFc := va_free (wc := [(l1, .inr (2, [.int 0, .ref dE, .int 0]))]) hD hS hA [1] rfl
  refine va_callFi (va_runF ((hK.1 2 _ rfl).2) (As := []) (rest := [.int 0]) ⟨hx, hb, hml, hown, hts⟩ (c_List_size l dC dI dE l1 0 dE 0 H.size) (va_cwF 0 hts gX10_manyNow_Jx4a65c_size_8abf5_f30Jx4a65c rfl rfl rfl (Tb_w1 hTb) (by decide +kernel) ⟨Nat.le_of_ble_eq_true rfl, Nat.le_of_ble_eq_true rfl⟩) ⟨fun a U g mk q => ⟨q.1, PB.blind q.2⟩, va_recv hKc hPc (ci := 2) (q0 := 0) rfl rfl, fun U hU hW => ⟨rfl, PB.call hPc hKc hDc hTb hZ hS hFc hU hW⟩⟩ rfl rfl hl.1 rfl (lv_room (Nat.le_of_ble_eq_true rfl)) dX10_manyNow_16 ⟨Nat.le_of_ble_eq_true rfl, Nat.le_of_ble_eq_true rfl⟩) hS (fun q _ h => hFc q h) hFc (fun r u t H locs ht hvm hw hB hz1 hk1 hS => ?_)
  obtain ⟨hP, hD, hK⟩ := PE.join (wc := [(l1, .inr (2, [.int 0, .ref dE, .int 0]))]) (wr := [(h0, .inr (13, [.int 0, .int 7, .int 0, .ref l1, .ref l2])), (l2, .inr (2, [.int 0, .ref dE, .int 0]))]) (w1 := [(l1, .inr (2, [.int 0, .ref dE, .int 0]))]) (tr := []) (t1 := []) hP hD hK [1] [0, 2] [] rfl rfl rfl (by decide) (by decide) hk1 hFc ht hvm hB
  have hP : va_P (dC, dI) vwCl [(h0, .inr (13, [.int 0, .int 7, .int 0, .ref l1, .ref l2])), (l2, .inr (2, [.int 0, .ref dE, .int 0])), (l1, .inr (2, [.int 0, .ref dE, .int 0]))] H := hP
  have hD : va_D A [(h0, .inr (13, [.int 0, .int 7, .int 0, .ref l1, .ref l2])), (l2, .inr (2, [.int 0, .ref dE, .int 0])), (l1, .inr (2, [.int 0, .ref dE, .int 0]))] := hD
  have hK : va_K (dC, dI) vwCl [] s := hK
  subst hw
  refine lv_icmp_ge (tgt := 50) hx hb dX10_manyNow_21 (by decide) (fun _ => ?_) (fun c9 => absurd (by decide) c9)
  refine lv_iconst (v := 0) hx hb dX10_manyNow_50 (by decide) ?_
  refine lv_istore (lv' := [(5, .int 0), (4, .int 0), (3, .int 0), (2, .int 0), (0, .ref h0), (1, .int 4)]) hx hb dX10_manyNow_51 hl (by decide) rfl (fun ls hl => ?_)
  refine lv_iload hx hb dX10_manyNow_53 (lv_at hl 0 rfl) ?_
  refine lv_aload_n hx hb dX10_manyNow_55 rfl (lv_at hl 4 rfl) ?_
  refine va_get (D := (dC, dI)) (ci := 13) (v := .ref l2) (C := RX10) (T := TX10) (N := 5) hx hb hts (by decide +kernel) hown hK hP 0 rfl rfl 4 (by decide) (hts (.fieldLink RX10 20 "VersorhallModel" "elements" "Ljava/util/List;") (by decide +kernel)) (fun _ h9 => h9) rfl dX10_manyNow_56 ?_
  have hPc := hP.sub (ws' := [(l2, .inr (2, [.int 0, .ref dE, .int 0]))]) [1] rfl
  have hDc := hD.sub (ws' := [(l2, .inr (2, [.int 0, .ref dE, .int 0]))]) [1] (by decide) rfl
  have hKc := hK.sub (tys' := []) [] rfl
  have hFc := va_free (wc := [(l2, .inr (2, [.int 0, .ref dE, .int 0]))]) hD hS hA [1] rfl
  refine va_callFi (va_runF ((hK.1 2 _ rfl).2) (As := []) (rest := [.int 0]) ⟨hx, hb, hml, hown, hts⟩ (c_List_size l dC dI dE l2 0 dE 0 H.size) (va_cwF 0 hts gX10_manyNow_Jx4a65c_size_8abf5_f30Jx4a65c rfl rfl rfl (Tb_w1 hTb) (by decide +kernel) ⟨Nat.le_of_ble_eq_true rfl, Nat.le_of_ble_eq_true rfl⟩) ⟨fun a U g mk q => ⟨q.1, PB.blind q.2⟩, va_recv hKc hPc (ci := 2) (q0 := 0) rfl rfl, fun U hU hW => ⟨rfl, PB.call hPc hKc hDc hTb hZ hS hFc hU hW⟩⟩ rfl rfl hl.1 rfl (lv_room (Nat.le_of_ble_eq_true rfl)) dX10_manyNow_59 ⟨Nat.le_of_ble_eq_true rfl, Nat.le_of_ble_eq_true rfl⟩) hS (fun q _ h => hFc q h) hFc (fun r u t H locs ht hvm hw hB hz1 hk1 hS => ?_)
  obtain ⟨hP, hD, hK⟩ := PE.join (wc := [(l2, .inr (2, [.int 0, .ref dE, .int 0]))]) (wr := [(h0, .inr (13, [.int 0, .int 7, .int 0, .ref l1, .ref l2])), (l1, .inr (2, [.int 0, .ref dE, .int 0]))]) (w1 := [(l2, .inr (2, [.int 0, .ref dE, .int 0]))]) (tr := []) (t1 := []) hP hD hK [1] [0, 2] [] rfl rfl rfl (by decide) (by decide) hk1 hFc ht hvm hB
  have hP : va_P (dC, dI) vwCl [(h0, .inr (13, [.int 0, .int 7, .int 0, .ref l1, .ref l2])), (l1, .inr (2, [.int 0, .ref dE, .int 0])), (l2, .inr (2, [.int 0, .ref dE, .int 0]))] H := hP
  have hD : va_D A [(h0, .inr (13, [.int 0, .int 7, .int 0, .ref l1, .ref l2])), (l1, .inr (2, [.int 0, .ref dE, .int 0])), (l2, .inr (2, [.int 0, .ref dE, .int 0]))] := hD
  have hK : va_K (dC, dI) vwCl [] s := hK
  subst hw
  refine lv_icmp_ge (tgt := 112) hx hb dX10_manyNow_64 (by decide) (fun _ => ?_) (fun c9 => absurd (by decide) c9)
  refine lv_bipush (v := 8) hx hb dX10_manyNow_112 (by decide) ?_
  refine va_newa (atype := .int) (ty := .int) (a0 := (8, .inl (fun _ => 0))) (n := 8) (N' := 8) hx hb (hts (.arrayClass .int) (by decide +kernel)) rfl hK hP hD hS hA (fun _ => rfl) (by decide) (by decide) (Nat.le_of_ble_eq_true rfl) (Nat.le_of_ble_eq_true rfl) (Nat.le_of_ble_eq_true rfl) dX10_manyNow_114 (fun q1 cAq1 H hK hP hD hS => ?_)
  have hP : va_P (dC, dI) vwCl [(h0, .inr (13, [.int 0, .int 7, .int 0, .ref l1, .ref l2])), (l1, .inr (2, [.int 0, .ref dE, .int 0])), (l2, .inr (2, [.int 0, .ref dE, .int 0])), (q1, .inl (cAq1, 8, .inl (fun _ => 0)))] H := hP
  have hD : va_D A [(h0, .inr (13, [.int 0, .int 7, .int 0, .ref l1, .ref l2])), (l1, .inr (2, [.int 0, .ref dE, .int 0])), (l2, .inr (2, [.int 0, .ref dE, .int 0])), (q1, .inl (cAq1, 8, .inl (fun _ => 0)))] := hD
  have hK : va_K (dC, dI) vwCl [(cAq1, .int)] s := hK
  refine W.widen (k := 1) (n := 8) (by omega) (by omega) ?_
  refine lv_dup hx hb dX10_manyNow_116 rfl ?_
  refine lv_iconst (v := 0) hx hb dX10_manyNow_117 (by decide) ?_
  refine lv_aload_n hx hb dX10_manyNow_118 rfl (lv_at hl 4 rfl) ?_
  refine va_get (D := (dC, dI)) (ci := 13) (v := .int 7) (C := RX10) (T := TX10) (N := 5) hx hb hts (by decide +kernel) hown hK hP 0 rfl rfl 1 (by decide) (hts (.fieldLink RX10 7 "VersorhallModel" "p" "I") (by decide +kernel)) (fun _ h9 => h9) rfl dX10_manyNow_119 ?_
  refine va_iast hx hb hK hP hD hS 3 0 rfl rfl (by unfold vp_in; decide) dX10_manyNow_122 (fun H locs hP hD hS => ?_)
  have hP : va_P (dC, dI) vwCl [(h0, .inr (13, [.int 0, .int 7, .int 0, .ref l1, .ref l2])), (l1, .inr (2, [.int 0, .ref dE, .int 0])), (l2, .inr (2, [.int 0, .ref dE, .int 0])), (q1, .inl (cAq1, 8, .inl (upd (fun _ => 0) (Int32.toNatClampNeg 0) 7)))] H := hP
  have hD : va_D A [(h0, .inr (13, [.int 0, .int 7, .int 0, .ref l1, .ref l2])), (l1, .inr (2, [.int 0, .ref dE, .int 0])), (l2, .inr (2, [.int 0, .ref dE, .int 0])), (q1, .inl (cAq1, 8, .inl (upd (fun _ => 0) (Int32.toNatClampNeg 0) 7)))] := hD
  refine lv_dup hx hb dX10_manyNow_123 rfl ?_
  refine lv_iconst (v := 1) hx hb dX10_manyNow_124 (by decide) ?_
  refine lv_aload_n hx hb dX10_manyNow_125 rfl (lv_at hl 4 rfl) ?_
  refine va_get (D := (dC, dI)) (ci := 13) (v := .ref l1) (C := RX10) (T := TX10) (N := 5) hx hb hts (by decide +kernel) hown hK hP 0 rfl rfl 3 (by decide) (hts (.fieldLink RX10 16 "VersorhallModel" "algebras" "Ljava/util/List;") (by decide +kernel)) (fun _ h9 => h9) rfl dX10_manyNow_126 ?_
  have hPc := hP.sub (ws' := [(l1, .inr (2, [.int 0, .ref dE, .int 0]))]) [1] rfl
  have hDc := hD.sub (ws' := [(l1, .inr (2, [.int 0, .ref dE, .int 0]))]) [1] (by decide) rfl
  have hKc := hK.sub (tys' := []) [] rfl
  have hFc := va_free (wc := [(l1, .inr (2, [.int 0, .ref dE, .int 0]))]) hD hS hA [1] rfl
  refine va_callFi (va_runF ((hK.1 2 _ rfl).2) (As := []) (rest := [.int 1, .ref q1, .ref q1]) ⟨hx, hb, hml, hown, hts⟩ (c_List_size l dC dI dE l1 0 dE 0 H.size) (va_cwF 0 hts gX10_manyNow_Jx4a65c_size_8abf5_f30Jx4a65c rfl rfl rfl (Tb_w1 hTb) (by decide +kernel) ⟨Nat.le_of_ble_eq_true rfl, Nat.le_of_ble_eq_true rfl⟩) ⟨fun a U g mk q => ⟨q.1, PB.blind q.2⟩, va_recv hKc hPc (ci := 2) (q0 := 0) rfl rfl, fun U hU hW => ⟨rfl, PB.call hPc hKc hDc hTb hZ hS hFc hU hW⟩⟩ rfl rfl hl.1 rfl (lv_room (Nat.le_of_ble_eq_true rfl)) dX10_manyNow_129 ⟨Nat.le_of_ble_eq_true rfl, Nat.le_of_ble_eq_true rfl⟩) hS (fun q _ h => hFc q h) hFc (fun r u t H locs ht hvm hw hB hz1 hk1 hS => ?_)
  obtain ⟨hP, hD, hK⟩ := PE.join (wc := [(l1, .inr (2, [.int 0, .ref dE, .int 0]))]) (wr := [(h0, .inr (13, [.int 0, .int 7, .int 0, .ref l1, .ref l2])), (l2, .inr (2, [.int 0, .ref dE, .int 0])), (q1, .inl (cAq1, 8, .inl (upd (fun _ => 0) (Int32.toNatClampNeg 0) 7)))]) (w1 := [(l1, .inr (2, [.int 0, .ref dE, .int 0]))]) (tr := [(cAq1, .int)]) (t1 := []) hP hD hK [1] [0, 2, 3] [0] rfl rfl rfl (by decide) (by decide) hk1 hFc ht hvm hB
  have hP : va_P (dC, dI) vwCl [(h0, .inr (13, [.int 0, .int 7, .int 0, .ref l1, .ref l2])), (l2, .inr (2, [.int 0, .ref dE, .int 0])), (q1, .inl (cAq1, 8, .inl (upd (fun _ => 0) (Int32.toNatClampNeg 0) 7))), (l1, .inr (2, [.int 0, .ref dE, .int 0]))] H := hP
  have hD : va_D A [(h0, .inr (13, [.int 0, .int 7, .int 0, .ref l1, .ref l2])), (l2, .inr (2, [.int 0, .ref dE, .int 0])), (q1, .inl (cAq1, 8, .inl (upd (fun _ => 0) (Int32.toNatClampNeg 0) 7))), (l1, .inr (2, [.int 0, .ref dE, .int 0]))] := hD
  have hK : va_K (dC, dI) vwCl [(cAq1, .int)] s := hK
  subst hw
  refine va_iast hx hb hK hP hD hS 2 0 rfl rfl (by unfold vp_in; decide) dX10_manyNow_134 (fun H locs hP hD hS => ?_)
  have hP : va_P (dC, dI) vwCl [(h0, .inr (13, [.int 0, .int 7, .int 0, .ref l1, .ref l2])), (l2, .inr (2, [.int 0, .ref dE, .int 0])), (q1, .inl (cAq1, 8, .inl (upd (upd (fun _ => 0) (Int32.toNatClampNeg 0) 7) (Int32.toNatClampNeg 1) 0))), (l1, .inr (2, [.int 0, .ref dE, .int 0]))] H := hP
  have hD : va_D A [(h0, .inr (13, [.int 0, .int 7, .int 0, .ref l1, .ref l2])), (l2, .inr (2, [.int 0, .ref dE, .int 0])), (q1, .inl (cAq1, 8, .inl (upd (upd (fun _ => 0) (Int32.toNatClampNeg 0) 7) (Int32.toNatClampNeg 1) 0))), (l1, .inr (2, [.int 0, .ref dE, .int 0]))] := hD
  refine lv_dup hx hb dX10_manyNow_135 rfl ?_
  refine lv_iconst (v := 2) hx hb dX10_manyNow_136 (by decide) ?_
  refine lv_aload_n hx hb dX10_manyNow_137 rfl (lv_at hl 4 rfl) ?_
  refine va_get (D := (dC, dI)) (ci := 13) (v := .ref l2) (C := RX10) (T := TX10) (N := 5) hx hb hts (by decide +kernel) hown hK hP 0 rfl rfl 4 (by decide) (hts (.fieldLink RX10 20 "VersorhallModel" "elements" "Ljava/util/List;") (by decide +kernel)) (fun _ h9 => h9) rfl dX10_manyNow_138 ?_
  have hPc := hP.sub (ws' := [(l2, .inr (2, [.int 0, .ref dE, .int 0]))]) [1] rfl
  have hDc := hD.sub (ws' := [(l2, .inr (2, [.int 0, .ref dE, .int 0]))]) [1] (by decide) rfl
  have hKc := hK.sub (tys' := []) [] rfl
  have hFc := va_free (wc := [(l2, .inr (2, [.int 0, .ref dE, .int 0]))]) hD hS hA [1] rfl
  refine va_callFi (va_runF ((hK.1 2 _ rfl).2) (As := []) (rest := [.int 2, .ref q1, .ref q1]) ⟨hx, hb, hml, hown, hts⟩ (c_List_size l dC dI dE l2 0 dE 0 H.size) (va_cwF 0 hts gX10_manyNow_Jx4a65c_size_8abf5_f30Jx4a65c rfl rfl rfl (Tb_w1 hTb) (by decide +kernel) ⟨Nat.le_of_ble_eq_true rfl, Nat.le_of_ble_eq_true rfl⟩) ⟨fun a U g mk q => ⟨q.1, PB.blind q.2⟩, va_recv hKc hPc (ci := 2) (q0 := 0) rfl rfl, fun U hU hW => ⟨rfl, PB.call hPc hKc hDc hTb hZ hS hFc hU hW⟩⟩ rfl rfl hl.1 rfl (lv_room (Nat.le_of_ble_eq_true rfl)) dX10_manyNow_141 ⟨Nat.le_of_ble_eq_true rfl, Nat.le_of_ble_eq_true rfl⟩) hS (fun q _ h => hFc q h) hFc (fun r u t H locs ht hvm hw hB hz1 hk1 hS => ?_)
  obtain ⟨hP, hD, hK⟩ := PE.join (wc := [(l2, .inr (2, [.int 0, .ref dE, .int 0]))]) (wr := [(h0, .inr (13, [.int 0, .int 7, .int 0, .ref l1, .ref l2])), (q1, .inl (cAq1, 8, .inl (upd (upd (fun _ => 0) (Int32.toNatClampNeg 0) 7) (Int32.toNatClampNeg 1) 0))), (l1, .inr (2, [.int 0, .ref dE, .int 0]))]) (w1 := [(l2, .inr (2, [.int 0, .ref dE, .int 0]))]) (tr := [(cAq1, .int)]) (t1 := []) hP hD hK [1] [0, 2, 3] [0] rfl rfl rfl (by decide) (by decide) hk1 hFc ht hvm hB
  have hP : va_P (dC, dI) vwCl [(h0, .inr (13, [.int 0, .int 7, .int 0, .ref l1, .ref l2])), (q1, .inl (cAq1, 8, .inl (upd (upd (fun _ => 0) (Int32.toNatClampNeg 0) 7) (Int32.toNatClampNeg 1) 0))), (l1, .inr (2, [.int 0, .ref dE, .int 0])), (l2, .inr (2, [.int 0, .ref dE, .int 0]))] H := hP
  have hD : va_D A [(h0, .inr (13, [.int 0, .int 7, .int 0, .ref l1, .ref l2])), (q1, .inl (cAq1, 8, .inl (upd (upd (fun _ => 0) (Int32.toNatClampNeg 0) 7) (Int32.toNatClampNeg 1) 0))), (l1, .inr (2, [.int 0, .ref dE, .int 0])), (l2, .inr (2, [.int 0, .ref dE, .int 0]))] := hD
  have hK : va_K (dC, dI) vwCl [(cAq1, .int)] s := hK
  subst hw
  refine va_iast hx hb hK hP hD hS 1 0 rfl rfl (by unfold vp_in; decide) dX10_manyNow_146 (fun H locs hP hD hS => ?_)
  have hP : va_P (dC, dI) vwCl [(h0, .inr (13, [.int 0, .int 7, .int 0, .ref l1, .ref l2])), (q1, .inl (cAq1, 8, .inl (upd (upd (upd (fun _ => 0) (Int32.toNatClampNeg 0) 7) (Int32.toNatClampNeg 1) 0) (Int32.toNatClampNeg 2) 0))), (l1, .inr (2, [.int 0, .ref dE, .int 0])), (l2, .inr (2, [.int 0, .ref dE, .int 0]))] H := hP
  have hD : va_D A [(h0, .inr (13, [.int 0, .int 7, .int 0, .ref l1, .ref l2])), (q1, .inl (cAq1, 8, .inl (upd (upd (upd (fun _ => 0) (Int32.toNatClampNeg 0) 7) (Int32.toNatClampNeg 1) 0) (Int32.toNatClampNeg 2) 0))), (l1, .inr (2, [.int 0, .ref dE, .int 0])), (l2, .inr (2, [.int 0, .ref dE, .int 0]))] := hD
  refine lv_dup hx hb dX10_manyNow_147 rfl ?_
  refine lv_iconst (v := 3) hx hb dX10_manyNow_148 (by decide) ?_
  refine lv_iload_n hx hb dX10_manyNow_149 rfl (lv_at hl 3 rfl) ?_
  refine va_iast hx hb hK hP hD hS 1 0 rfl rfl (by unfold vp_in; decide) dX10_manyNow_150 (fun H locs hP hD hS => ?_)
  have hP : va_P (dC, dI) vwCl [(h0, .inr (13, [.int 0, .int 7, .int 0, .ref l1, .ref l2])), (q1, .inl (cAq1, 8, .inl (upd (upd (upd (upd (fun _ => 0) (Int32.toNatClampNeg 0) 7) (Int32.toNatClampNeg 1) 0) (Int32.toNatClampNeg 2) 0) (Int32.toNatClampNeg 3) 0))), (l1, .inr (2, [.int 0, .ref dE, .int 0])), (l2, .inr (2, [.int 0, .ref dE, .int 0]))] H := hP
  have hD : va_D A [(h0, .inr (13, [.int 0, .int 7, .int 0, .ref l1, .ref l2])), (q1, .inl (cAq1, 8, .inl (upd (upd (upd (upd (fun _ => 0) (Int32.toNatClampNeg 0) 7) (Int32.toNatClampNeg 1) 0) (Int32.toNatClampNeg 2) 0) (Int32.toNatClampNeg 3) 0))), (l1, .inr (2, [.int 0, .ref dE, .int 0])), (l2, .inr (2, [.int 0, .ref dE, .int 0]))] := hD
  refine lv_dup hx hb dX10_manyNow_151 rfl ?_
  refine lv_iconst (v := 4) hx hb dX10_manyNow_152 (by decide) ?_
  refine lv_iload_n hx hb dX10_manyNow_153 rfl (lv_at hl 2 rfl) ?_
  refine va_iast hx hb hK hP hD hS 1 0 rfl rfl (by unfold vp_in; decide) dX10_manyNow_154 (fun H locs hP hD hS => ?_)
  have hP : va_P (dC, dI) vwCl [(h0, .inr (13, [.int 0, .int 7, .int 0, .ref l1, .ref l2])), (q1, .inl (cAq1, 8, .inl (upd (upd (upd (upd (upd (fun _ => 0) (Int32.toNatClampNeg 0) 7) (Int32.toNatClampNeg 1) 0) (Int32.toNatClampNeg 2) 0) (Int32.toNatClampNeg 3) 0) (Int32.toNatClampNeg 4) 0))), (l1, .inr (2, [.int 0, .ref dE, .int 0])), (l2, .inr (2, [.int 0, .ref dE, .int 0]))] H := hP
  have hD : va_D A [(h0, .inr (13, [.int 0, .int 7, .int 0, .ref l1, .ref l2])), (q1, .inl (cAq1, 8, .inl (upd (upd (upd (upd (upd (fun _ => 0) (Int32.toNatClampNeg 0) 7) (Int32.toNatClampNeg 1) 0) (Int32.toNatClampNeg 2) 0) (Int32.toNatClampNeg 3) 0) (Int32.toNatClampNeg 4) 0))), (l1, .inr (2, [.int 0, .ref dE, .int 0])), (l2, .inr (2, [.int 0, .ref dE, .int 0]))] := hD
  refine lv_dup hx hb dX10_manyNow_155 rfl ?_
  refine lv_iconst (v := 5) hx hb dX10_manyNow_156 (by decide) ?_
  refine lv_iload hx hb dX10_manyNow_157 (lv_at hl 1 rfl) ?_
  refine va_iast hx hb hK hP hD hS 1 0 rfl rfl (by unfold vp_in; decide) dX10_manyNow_159 (fun H locs hP hD hS => ?_)
  have hP : va_P (dC, dI) vwCl [(h0, .inr (13, [.int 0, .int 7, .int 0, .ref l1, .ref l2])), (q1, .inl (cAq1, 8, .inl (upd (upd (upd (upd (upd (upd (fun _ => 0) (Int32.toNatClampNeg 0) 7) (Int32.toNatClampNeg 1) 0) (Int32.toNatClampNeg 2) 0) (Int32.toNatClampNeg 3) 0) (Int32.toNatClampNeg 4) 0) (Int32.toNatClampNeg 5) 0))), (l1, .inr (2, [.int 0, .ref dE, .int 0])), (l2, .inr (2, [.int 0, .ref dE, .int 0]))] H := hP
  have hD : va_D A [(h0, .inr (13, [.int 0, .int 7, .int 0, .ref l1, .ref l2])), (q1, .inl (cAq1, 8, .inl (upd (upd (upd (upd (upd (upd (fun _ => 0) (Int32.toNatClampNeg 0) 7) (Int32.toNatClampNeg 1) 0) (Int32.toNatClampNeg 2) 0) (Int32.toNatClampNeg 3) 0) (Int32.toNatClampNeg 4) 0) (Int32.toNatClampNeg 5) 0))), (l1, .inr (2, [.int 0, .ref dE, .int 0])), (l2, .inr (2, [.int 0, .ref dE, .int 0]))] := hD
  refine lv_dup hx hb dX10_manyNow_160 rfl ?_
  refine lv_bipush (v := 6) hx hb dX10_manyNow_161 (by decide) ?_
  refine lv_aload_n hx hb dX10_manyNow_163 rfl (lv_at hl 4 rfl) ?_
  refine va_get (D := (dC, dI)) (ci := 13) (v := .int 0) (C := RX10) (T := TX10) (N := 5) hx hb hts (by decide +kernel) hown hK hP 0 rfl rfl 2 (by decide) (hts (.fieldLink RX10 169 "VersorhallModel" "knocks" "I") (by decide +kernel)) (fun _ h9 => h9) rfl dX10_manyNow_164 ?_
  refine va_iast hx hb hK hP hD hS 1 0 rfl rfl (by unfold vp_in; decide) dX10_manyNow_167 (fun H locs hP hD hS => ?_)
  have hP : va_P (dC, dI) vwCl [(h0, .inr (13, [.int 0, .int 7, .int 0, .ref l1, .ref l2])), (q1, .inl (cAq1, 8, .inl (upd (upd (upd (upd (upd (upd (upd (fun _ => 0) (Int32.toNatClampNeg 0) 7) (Int32.toNatClampNeg 1) 0) (Int32.toNatClampNeg 2) 0) (Int32.toNatClampNeg 3) 0) (Int32.toNatClampNeg 4) 0) (Int32.toNatClampNeg 5) 0) (Int32.toNatClampNeg 6) 0))), (l1, .inr (2, [.int 0, .ref dE, .int 0])), (l2, .inr (2, [.int 0, .ref dE, .int 0]))] H := hP
  have hD : va_D A [(h0, .inr (13, [.int 0, .int 7, .int 0, .ref l1, .ref l2])), (q1, .inl (cAq1, 8, .inl (upd (upd (upd (upd (upd (upd (upd (fun _ => 0) (Int32.toNatClampNeg 0) 7) (Int32.toNatClampNeg 1) 0) (Int32.toNatClampNeg 2) 0) (Int32.toNatClampNeg 3) 0) (Int32.toNatClampNeg 4) 0) (Int32.toNatClampNeg 5) 0) (Int32.toNatClampNeg 6) 0))), (l1, .inr (2, [.int 0, .ref dE, .int 0])), (l2, .inr (2, [.int 0, .ref dE, .int 0]))] := hD
  refine lv_dup hx hb dX10_manyNow_168 rfl ?_
  refine lv_bipush (v := 7) hx hb dX10_manyNow_169 (by decide) ?_
  refine lv_aload_n hx hb dX10_manyNow_171 rfl (lv_at hl 4 rfl) ?_
  have hPc := hP.sub (ws' := [(h0, .inr (13, [.int 0, .int 7, .int 0, .ref l1, .ref l2])), (l1, .inr (2, [.int 0, .ref dE, .int 0])), (l2, .inr (2, [.int 0, .ref dE, .int 0]))]) [0, 2, 3] rfl
  have hDc := hD.sub (ws' := [(h0, .inr (13, [.int 0, .int 7, .int 0, .ref l1, .ref l2])), (l1, .inr (2, [.int 0, .ref dE, .int 0])), (l2, .inr (2, [.int 0, .ref dE, .int 0]))]) [0, 2, 3] (by decide) rfl
  have hKc := hK.sub (tys' := []) [] rfl
  have hFc := va_free (wc := [(h0, .inr (13, [.int 0, .int 7, .int 0, .ref l1, .ref l2])), (l1, .inr (2, [.int 0, .ref dE, .int 0])), (l2, .inr (2, [.int 0, .ref dE, .int 0]))]) hD hS hA [0, 2, 3] rfl
  refine va_calli (va_runV (As := []) (rest := [.int 7, .ref q1, .ref q1]) ⟨hx, hb, hml, hown, hts⟩ (c_M_allQuarters l dC dI dE h0 l1 l2 H.size) (cwV 0 hts gX10_manyNow_X10_allQuarters rfl rfl rfl (by decide +kernel) ⟨Nat.le_of_ble_eq_true rfl, Nat.le_of_ble_eq_true rfl⟩) ⟨fun a U g mk q => ⟨q.1, PB.blind q.2⟩, va_recv hKc hPc (ci := 13) (q0 := 0) rfl rfl, fun U hU hW => ⟨rfl, PB.call hPc hKc hDc hTb hZ hS hFc hU hW⟩⟩ rfl rfl hl.1 rfl (lv_room (Nat.le_of_ble_eq_true rfl)) dX10_manyNow_172 ⟨Nat.le_of_ble_eq_true rfl, Nat.le_of_ble_eq_true rfl⟩) hS (fun q _ h => hFc q h) hFc (fun r u t H locs ht hvm hw hB hz1 hk1 hS => ?_)
  obtain ⟨hP, hD, hK⟩ := PE.join (wc := [(h0, .inr (13, [.int 0, .int 7, .int 0, .ref l1, .ref l2])), (l1, .inr (2, [.int 0, .ref dE, .int 0])), (l2, .inr (2, [.int 0, .ref dE, .int 0]))]) (wr := [(q1, .inl (cAq1, 8, .inl (upd (upd (upd (upd (upd (upd (upd (fun _ => 0) (Int32.toNatClampNeg 0) 7) (Int32.toNatClampNeg 1) 0) (Int32.toNatClampNeg 2) 0) (Int32.toNatClampNeg 3) 0) (Int32.toNatClampNeg 4) 0) (Int32.toNatClampNeg 5) 0) (Int32.toNatClampNeg 6) 0)))]) (w1 := [(h0, .inr (13, [.int 0, .int 7, .int 0, .ref l1, .ref l2])), (l1, .inr (2, [.int 0, .ref dE, .int 0])), (l2, .inr (2, [.int 0, .ref dE, .int 0]))]) (tr := [(cAq1, .int)]) (t1 := []) hP hD hK [0, 2, 3] [1] [0] rfl rfl rfl (by decide) (by decide) hk1 hFc ht hvm hB
  have hP : va_P (dC, dI) vwCl [(q1, .inl (cAq1, 8, .inl (upd (upd (upd (upd (upd (upd (upd (fun _ => 0) (Int32.toNatClampNeg 0) 7) (Int32.toNatClampNeg 1) 0) (Int32.toNatClampNeg 2) 0) (Int32.toNatClampNeg 3) 0) (Int32.toNatClampNeg 4) 0) (Int32.toNatClampNeg 5) 0) (Int32.toNatClampNeg 6) 0))), (h0, .inr (13, [.int 0, .int 7, .int 0, .ref l1, .ref l2])), (l1, .inr (2, [.int 0, .ref dE, .int 0])), (l2, .inr (2, [.int 0, .ref dE, .int 0]))] H := hP
  have hD : va_D A [(q1, .inl (cAq1, 8, .inl (upd (upd (upd (upd (upd (upd (upd (fun _ => 0) (Int32.toNatClampNeg 0) 7) (Int32.toNatClampNeg 1) 0) (Int32.toNatClampNeg 2) 0) (Int32.toNatClampNeg 3) 0) (Int32.toNatClampNeg 4) 0) (Int32.toNatClampNeg 5) 0) (Int32.toNatClampNeg 6) 0))), (h0, .inr (13, [.int 0, .int 7, .int 0, .ref l1, .ref l2])), (l1, .inr (2, [.int 0, .ref dE, .int 0])), (l2, .inr (2, [.int 0, .ref dE, .int 0]))] := hD
  have hK : va_K (dC, dI) vwCl [(cAq1, .int)] s := hK
  subst hw
  refine lv_iconst (v := 4) hx hb dX10_manyNow_175 (by decide) ?_
  refine lv_idiv hx hb dX10_manyNow_176 (by decide) ?_
  refine lv_topi (fun f2 ef2 => ?_)
  obtain rfl : f2 = 0 := ef2.trans (by decide)
  refine va_iast hx hb hK hP hD hS 0 0 rfl rfl (by unfold vp_in; decide) dX10_manyNow_177 (fun H locs hP hD hS => ?_)
  have hP : va_P (dC, dI) vwCl [(q1, .inl (cAq1, 8, .inl (upd (upd (upd (upd (upd (upd (upd (upd (fun _ => 0) (Int32.toNatClampNeg 0) 7) (Int32.toNatClampNeg 1) 0) (Int32.toNatClampNeg 2) 0) (Int32.toNatClampNeg 3) 0) (Int32.toNatClampNeg 4) 0) (Int32.toNatClampNeg 5) 0) (Int32.toNatClampNeg 6) 0) (Int32.toNatClampNeg 7) 0))), (h0, .inr (13, [.int 0, .int 7, .int 0, .ref l1, .ref l2])), (l1, .inr (2, [.int 0, .ref dE, .int 0])), (l2, .inr (2, [.int 0, .ref dE, .int 0]))] H := hP
  have hD : va_D A [(q1, .inl (cAq1, 8, .inl (upd (upd (upd (upd (upd (upd (upd (upd (fun _ => 0) (Int32.toNatClampNeg 0) 7) (Int32.toNatClampNeg 1) 0) (Int32.toNatClampNeg 2) 0) (Int32.toNatClampNeg 3) 0) (Int32.toNatClampNeg 4) 0) (Int32.toNatClampNeg 5) 0) (Int32.toNatClampNeg 6) 0) (Int32.toNatClampNeg 7) 0))), (h0, .inr (13, [.int 0, .int 7, .int 0, .ref l1, .ref l2])), (l1, .inr (2, [.int 0, .ref dE, .int 0])), (l2, .inr (2, [.int 0, .ref dE, .int 0]))] := hD
  refine lv_astore (lv' := [(5, .ref q1), (4, .int 0), (3, .int 0), (2, .int 0), (0, .ref h0), (1, .int 4)]) hx hb dX10_manyNow_178 hl (by decide) rfl (fun ls hl => ?_)
  refine lv_aload hx hb dX10_manyNow_180 (lv_at hl 0 rfl) ?_
  refine lv_iload_n hx hb dX10_manyNow_182 rfl (lv_at hl 5 rfl) ?_
  refine va_iald hx hb hK hP 0 0 rfl rfl (by unfold vp_in; decide) dX10_manyNow_183 ?_
  refine lv_topi (fun f3 ef3 => ?_)
  obtain rfl : f3 = 0 := ef3.trans (by decide)
  have hP9 := hP.sub (ws' := [(h0, .inr (13, [.int 0, .int 7, .int 0, .ref l1, .ref l2])), (l1, .inr (2, [.int 0, .ref dE, .int 0])), (l2, .inr (2, [.int 0, .ref dE, .int 0]))]) [1, 2, 3] rfl
  have hD9 := hD.sub (ws' := [(h0, .inr (13, [.int 0, .int 7, .int 0, .ref l1, .ref l2])), (l1, .inr (2, [.int 0, .ref dE, .int 0])), (l2, .inr (2, [.int 0, .ref dE, .int 0]))]) [1, 2, 3] (by decide) rfl
  have hK9 := hK.sub (tys' := []) [] rfl
  refine W.widen (k := 1) (n := 8) (Nat.le_of_ble_eq_true rfl) (Nat.le_of_ble_eq_true rfl) ?_
  exact W.iret (v := 0) hx hb hr (fun t ht hW => ⟨⟨_, (), rfl, rfl, PE.mk hP9 hK9 hD9 ht hW⟩, hS.F ht⟩) hS.2.2 dX10_manyNow_184

set_option maxHeartbeats 4000000 in
set_option maxRecDepth 100000 in
/-- c_M_manyNow_5 -/
theorem c_M_manyNow_5 (l : Launch) (dC : Nat → ClassId) (dI : Nat → Nat → Nat) (dE : Nat) (h0 : Nat) (l1 : Nat) (l2 : Nat) (sz : Nat) : Met l yX10_manyNow wsX10_manyNow ({ frames := 2, cells := 1, slots := 8, locals := 42 }) (va_Pc [.ref h0, .int 5] (PB dC dI dE [] [(h0, .inr (13, [.int 0, .int 7, .int 0, .ref l1, .ref l2])), (l1, .inr (2, [.int 0, .ref dE, .int 0])), (l2, .inr (2, [.int 0, .ref dE, .int 0]))] sz)) (va_Qi (fun (r : Int32) (_ : Unit) => r = 0) (fun (_ : Unit) (t : State) => PE dC dI [] [(h0, .inr (13, [.int 0, .int 7, .int 0, .ref l1, .ref l2])), (l1, .inr (2, [.int 0, .ref dE, .int 0])), (l2, .inr (2, [.int 0, .ref dE, .int 0]))] (va_A [(h0, .inr (13, [.int 0, .int 7, .int 0, .ref l1, .ref l2])), (l1, .inr (2, [.int 0, .ref dE, .int 0])), (l2, .inr (2, [.int 0, .ref dE, .int 0]))] sz) t) (va_A [(h0, .inr (13, [.int 0, .int 7, .int 0, .ref l1, .ref l2])), (l1, .inr (2, [.int 0, .ref dE, .int 0])), (l2, .inr (2, [.int 0, .ref dE, .int 0]))] sz)) 1 8 (va_A [(h0, .inr (13, [.int 0, .int 7, .int 0, .ref l1, .ref l2])), (l1, .inr (2, [.int 0, .ref dE, .int 0])), (l2, .inr (2, [.int 0, .ref dE, .int 0]))] sz) := by
  refine Met.ofW (cc := cX10_manyNow) (maxL := 6) (ret := (some .int)) (by decide) rfl ?_
  intro p e s m args below meth c s₁ B hml hv
  obtain ⟨rfl, hsz, hP, hK, hD0, hTb, hZ⟩ := hv
  have hx := B.exec
  have hb := B.bytes
  have hr := B.returns
  have hts := atoms_spec (ws := wsX10_manyNow) B.pre
  have hown : s.vm.findClass RX10 = some m.cls := findClass_of_methodNamed B.named
  have hlocks := B.notSynchronized
  subst hsz
  have hD := hD0.self (sz := s.heap.size)
  generalize hAe : va_A [(h0, .inr (13, [.int 0, .int 7, .int 0, .ref l1, .ref l2])), (l1, .inr (2, [.int 0, .ref dE, .int 0])), (l2, .inr (2, [.int 0, .ref dE, .int 0]))] s.heap.size = A at hD hZ ⊢
  have hA : ∀ q : Nat, s.heap.size ≤ q → A q := fun q h => by rw [← hAe]; exact Or.inr h
  have hS : va_S A s.heap s.heap [] := va_S.rf
  have hP : va_P (dC, dI) vwCl [(h0, .inr (13, [.int 0, .int 7, .int 0, .ref l1, .ref l2])), (l1, .inr (2, [.int 0, .ref dE, .int 0])), (l2, .inr (2, [.int 0, .ref dE, .int 0]))] s.heap := hP
  have hl := lv_entry ([.ref h0, .int 5]) (n := 6) (Nat.le_of_ble_eq_true rfl)
  rw [lg_entry_eq]
  generalize (lg_sl ([.ref h0, .int 5]) ++ List.replicate (6 - (lg_sl ([.ref h0, .int 5])).length) Slot.unset).toArray = ls at hl ⊢
  have hl : lv_has ls 6 [(0, .ref h0), (1, .int 5)] := hl
  obtain ⟨H, eH⟩ : ∃ z, z = s.heap := ⟨_, rfl⟩
  rw [← eH] at hP ⊢
  have hS : va_S A s.heap H [] := by rw [eH]; exact va_S.rf
  refine lv_iconst (v := 0) hx hb dX10_manyNow_0 (by decide) ?_
  refine lv_istore_n (lv' := [(2, .int 0), (0, .ref h0), (1, .int 5)]) hx hb dX10_manyNow_1 rfl hl (by decide) rfl (fun ls hl => ?_)
  refine lv_iconst (v := 0) hx hb dX10_manyNow_2 (by decide) ?_
  refine lv_istore_n (lv' := [(3, .int 0), (2, .int 0), (0, .ref h0), (1, .int 5)]) hx hb dX10_manyNow_3 rfl hl (by decide) rfl (fun ls hl => ?_)
  refine lv_iconst (v := 0) hx hb dX10_manyNow_4 (by decide) ?_
  refine lv_istore (lv' := [(4, .int 0), (3, .int 0), (2, .int 0), (0, .ref h0), (1, .int 5)]) hx hb dX10_manyNow_5 hl (by decide) rfl (fun ls hl => ?_)
  refine lv_iconst (v := 0) hx hb dX10_manyNow_7 (by decide) ?_
  refine lv_istore (lv' := [(5, .int 0), (4, .int 0), (3, .int 0), (2, .int 0), (0, .ref h0), (1, .int 5)]) hx hb dX10_manyNow_8 hl (by decide) rfl (fun ls hl => ?_)
  refine lv_iload hx hb dX10_manyNow_10 (lv_at hl 0 rfl) ?_
  refine lv_aload_n hx hb dX10_manyNow_12 rfl (lv_at hl 4 rfl) ?_
  refine va_get (D := (dC, dI)) (ci := 13) (v := .ref l1) (C := RX10) (T := TX10) (N := 5) hx hb hts (by decide +kernel) hown hK hP 0 rfl rfl 3 (by decide) (hts (.fieldLink RX10 16 "VersorhallModel" "algebras" "Ljava/util/List;") (by decide +kernel)) (fun _ h9 => h9) rfl dX10_manyNow_13 ?_
  have hPc := hP.sub (ws' := [(l1, .inr (2, [.int 0, .ref dE, .int 0]))]) [1] rfl
  have hDc := hD.sub (ws' := [(l1, .inr (2, [.int 0, .ref dE, .int 0]))]) [1] (by decide) rfl
  have hKc := hK.sub (tys' := []) [] rfl
  have hFc := va_free (wc := [(l1, .inr (2, [.int 0, .ref dE, .int 0]))]) hD hS hA [1] rfl
  refine va_callFi (va_runF ((hK.1 2 _ rfl).2) (As := []) (rest := [.int 0]) ⟨hx, hb, hml, hown, hts⟩ (c_List_size l dC dI dE l1 0 dE 0 H.size) (va_cwF 0 hts gX10_manyNow_Jx4a65c_size_8abf5_f30Jx4a65c rfl rfl rfl (Tb_w1 hTb) (by decide +kernel) ⟨Nat.le_of_ble_eq_true rfl, Nat.le_of_ble_eq_true rfl⟩) ⟨fun a U g mk q => ⟨q.1, PB.blind q.2⟩, va_recv hKc hPc (ci := 2) (q0 := 0) rfl rfl, fun U hU hW => ⟨rfl, PB.call hPc hKc hDc hTb hZ hS hFc hU hW⟩⟩ rfl rfl hl.1 rfl (lv_room (Nat.le_of_ble_eq_true rfl)) dX10_manyNow_16 ⟨Nat.le_of_ble_eq_true rfl, Nat.le_of_ble_eq_true rfl⟩) hS (fun q _ h => hFc q h) hFc (fun r u t H locs ht hvm hw hB hz1 hk1 hS => ?_)
  obtain ⟨hP, hD, hK⟩ := PE.join (wc := [(l1, .inr (2, [.int 0, .ref dE, .int 0]))]) (wr := [(h0, .inr (13, [.int 0, .int 7, .int 0, .ref l1, .ref l2])), (l2, .inr (2, [.int 0, .ref dE, .int 0]))]) (w1 := [(l1, .inr (2, [.int 0, .ref dE, .int 0]))]) (tr := []) (t1 := []) hP hD hK [1] [0, 2] [] rfl rfl rfl (by decide) (by decide) hk1 hFc ht hvm hB
  have hP : va_P (dC, dI) vwCl [(h0, .inr (13, [.int 0, .int 7, .int 0, .ref l1, .ref l2])), (l2, .inr (2, [.int 0, .ref dE, .int 0])), (l1, .inr (2, [.int 0, .ref dE, .int 0]))] H := hP
  have hD : va_D A [(h0, .inr (13, [.int 0, .int 7, .int 0, .ref l1, .ref l2])), (l2, .inr (2, [.int 0, .ref dE, .int 0])), (l1, .inr (2, [.int 0, .ref dE, .int 0]))] := hD
  have hK : va_K (dC, dI) vwCl [] s := hK
  subst hw
  refine lv_icmp_ge (tgt := 50) hx hb dX10_manyNow_21 (by decide) (fun _ => ?_) (fun c9 => absurd (by decide) c9)
  refine lv_iconst (v := 0) hx hb dX10_manyNow_50 (by decide) ?_
  refine lv_istore (lv' := [(5, .int 0), (4, .int 0), (3, .int 0), (2, .int 0), (0, .ref h0), (1, .int 5)]) hx hb dX10_manyNow_51 hl (by decide) rfl (fun ls hl => ?_)
  refine lv_iload hx hb dX10_manyNow_53 (lv_at hl 0 rfl) ?_
  refine lv_aload_n hx hb dX10_manyNow_55 rfl (lv_at hl 4 rfl) ?_
  refine va_get (D := (dC, dI)) (ci := 13) (v := .ref l2) (C := RX10) (T := TX10) (N := 5) hx hb hts (by decide +kernel) hown hK hP 0 rfl rfl 4 (by decide) (hts (.fieldLink RX10 20 "VersorhallModel" "elements" "Ljava/util/List;") (by decide +kernel)) (fun _ h9 => h9) rfl dX10_manyNow_56 ?_
  have hPc := hP.sub (ws' := [(l2, .inr (2, [.int 0, .ref dE, .int 0]))]) [1] rfl
  have hDc := hD.sub (ws' := [(l2, .inr (2, [.int 0, .ref dE, .int 0]))]) [1] (by decide) rfl
  have hKc := hK.sub (tys' := []) [] rfl
  have hFc := va_free (wc := [(l2, .inr (2, [.int 0, .ref dE, .int 0]))]) hD hS hA [1] rfl
  refine va_callFi (va_runF ((hK.1 2 _ rfl).2) (As := []) (rest := [.int 0]) ⟨hx, hb, hml, hown, hts⟩ (c_List_size l dC dI dE l2 0 dE 0 H.size) (va_cwF 0 hts gX10_manyNow_Jx4a65c_size_8abf5_f30Jx4a65c rfl rfl rfl (Tb_w1 hTb) (by decide +kernel) ⟨Nat.le_of_ble_eq_true rfl, Nat.le_of_ble_eq_true rfl⟩) ⟨fun a U g mk q => ⟨q.1, PB.blind q.2⟩, va_recv hKc hPc (ci := 2) (q0 := 0) rfl rfl, fun U hU hW => ⟨rfl, PB.call hPc hKc hDc hTb hZ hS hFc hU hW⟩⟩ rfl rfl hl.1 rfl (lv_room (Nat.le_of_ble_eq_true rfl)) dX10_manyNow_59 ⟨Nat.le_of_ble_eq_true rfl, Nat.le_of_ble_eq_true rfl⟩) hS (fun q _ h => hFc q h) hFc (fun r u t H locs ht hvm hw hB hz1 hk1 hS => ?_)
  obtain ⟨hP, hD, hK⟩ := PE.join (wc := [(l2, .inr (2, [.int 0, .ref dE, .int 0]))]) (wr := [(h0, .inr (13, [.int 0, .int 7, .int 0, .ref l1, .ref l2])), (l1, .inr (2, [.int 0, .ref dE, .int 0]))]) (w1 := [(l2, .inr (2, [.int 0, .ref dE, .int 0]))]) (tr := []) (t1 := []) hP hD hK [1] [0, 2] [] rfl rfl rfl (by decide) (by decide) hk1 hFc ht hvm hB
  have hP : va_P (dC, dI) vwCl [(h0, .inr (13, [.int 0, .int 7, .int 0, .ref l1, .ref l2])), (l1, .inr (2, [.int 0, .ref dE, .int 0])), (l2, .inr (2, [.int 0, .ref dE, .int 0]))] H := hP
  have hD : va_D A [(h0, .inr (13, [.int 0, .int 7, .int 0, .ref l1, .ref l2])), (l1, .inr (2, [.int 0, .ref dE, .int 0])), (l2, .inr (2, [.int 0, .ref dE, .int 0]))] := hD
  have hK : va_K (dC, dI) vwCl [] s := hK
  subst hw
  refine lv_icmp_ge (tgt := 112) hx hb dX10_manyNow_64 (by decide) (fun _ => ?_) (fun c9 => absurd (by decide) c9)
  refine lv_bipush (v := 8) hx hb dX10_manyNow_112 (by decide) ?_
  refine va_newa (atype := .int) (ty := .int) (a0 := (8, .inl (fun _ => 0))) (n := 8) (N' := 8) hx hb (hts (.arrayClass .int) (by decide +kernel)) rfl hK hP hD hS hA (fun _ => rfl) (by decide) (by decide) (Nat.le_of_ble_eq_true rfl) (Nat.le_of_ble_eq_true rfl) (Nat.le_of_ble_eq_true rfl) dX10_manyNow_114 (fun q1 cAq1 H hK hP hD hS => ?_)
  have hP : va_P (dC, dI) vwCl [(h0, .inr (13, [.int 0, .int 7, .int 0, .ref l1, .ref l2])), (l1, .inr (2, [.int 0, .ref dE, .int 0])), (l2, .inr (2, [.int 0, .ref dE, .int 0])), (q1, .inl (cAq1, 8, .inl (fun _ => 0)))] H := hP
  have hD : va_D A [(h0, .inr (13, [.int 0, .int 7, .int 0, .ref l1, .ref l2])), (l1, .inr (2, [.int 0, .ref dE, .int 0])), (l2, .inr (2, [.int 0, .ref dE, .int 0])), (q1, .inl (cAq1, 8, .inl (fun _ => 0)))] := hD
  have hK : va_K (dC, dI) vwCl [(cAq1, .int)] s := hK
  refine W.widen (k := 1) (n := 8) (by omega) (by omega) ?_
  refine lv_dup hx hb dX10_manyNow_116 rfl ?_
  refine lv_iconst (v := 0) hx hb dX10_manyNow_117 (by decide) ?_
  refine lv_aload_n hx hb dX10_manyNow_118 rfl (lv_at hl 4 rfl) ?_
  refine va_get (D := (dC, dI)) (ci := 13) (v := .int 7) (C := RX10) (T := TX10) (N := 5) hx hb hts (by decide +kernel) hown hK hP 0 rfl rfl 1 (by decide) (hts (.fieldLink RX10 7 "VersorhallModel" "p" "I") (by decide +kernel)) (fun _ h9 => h9) rfl dX10_manyNow_119 ?_
  refine va_iast hx hb hK hP hD hS 3 0 rfl rfl (by unfold vp_in; decide) dX10_manyNow_122 (fun H locs hP hD hS => ?_)
  have hP : va_P (dC, dI) vwCl [(h0, .inr (13, [.int 0, .int 7, .int 0, .ref l1, .ref l2])), (l1, .inr (2, [.int 0, .ref dE, .int 0])), (l2, .inr (2, [.int 0, .ref dE, .int 0])), (q1, .inl (cAq1, 8, .inl (upd (fun _ => 0) (Int32.toNatClampNeg 0) 7)))] H := hP
  have hD : va_D A [(h0, .inr (13, [.int 0, .int 7, .int 0, .ref l1, .ref l2])), (l1, .inr (2, [.int 0, .ref dE, .int 0])), (l2, .inr (2, [.int 0, .ref dE, .int 0])), (q1, .inl (cAq1, 8, .inl (upd (fun _ => 0) (Int32.toNatClampNeg 0) 7)))] := hD
  refine lv_dup hx hb dX10_manyNow_123 rfl ?_
  refine lv_iconst (v := 1) hx hb dX10_manyNow_124 (by decide) ?_
  refine lv_aload_n hx hb dX10_manyNow_125 rfl (lv_at hl 4 rfl) ?_
  refine va_get (D := (dC, dI)) (ci := 13) (v := .ref l1) (C := RX10) (T := TX10) (N := 5) hx hb hts (by decide +kernel) hown hK hP 0 rfl rfl 3 (by decide) (hts (.fieldLink RX10 16 "VersorhallModel" "algebras" "Ljava/util/List;") (by decide +kernel)) (fun _ h9 => h9) rfl dX10_manyNow_126 ?_
  have hPc := hP.sub (ws' := [(l1, .inr (2, [.int 0, .ref dE, .int 0]))]) [1] rfl
  have hDc := hD.sub (ws' := [(l1, .inr (2, [.int 0, .ref dE, .int 0]))]) [1] (by decide) rfl
  have hKc := hK.sub (tys' := []) [] rfl
  have hFc := va_free (wc := [(l1, .inr (2, [.int 0, .ref dE, .int 0]))]) hD hS hA [1] rfl
  refine va_callFi (va_runF ((hK.1 2 _ rfl).2) (As := []) (rest := [.int 1, .ref q1, .ref q1]) ⟨hx, hb, hml, hown, hts⟩ (c_List_size l dC dI dE l1 0 dE 0 H.size) (va_cwF 0 hts gX10_manyNow_Jx4a65c_size_8abf5_f30Jx4a65c rfl rfl rfl (Tb_w1 hTb) (by decide +kernel) ⟨Nat.le_of_ble_eq_true rfl, Nat.le_of_ble_eq_true rfl⟩) ⟨fun a U g mk q => ⟨q.1, PB.blind q.2⟩, va_recv hKc hPc (ci := 2) (q0 := 0) rfl rfl, fun U hU hW => ⟨rfl, PB.call hPc hKc hDc hTb hZ hS hFc hU hW⟩⟩ rfl rfl hl.1 rfl (lv_room (Nat.le_of_ble_eq_true rfl)) dX10_manyNow_129 ⟨Nat.le_of_ble_eq_true rfl, Nat.le_of_ble_eq_true rfl⟩) hS (fun q _ h => hFc q h) hFc (fun r u t H locs ht hvm hw hB hz1 hk1 hS => ?_)
  obtain ⟨hP, hD, hK⟩ := PE.join (wc := [(l1, .inr (2, [.int 0, .ref dE, .int 0]))]) (wr := [(h0, .inr (13, [.int 0, .int 7, .int 0, .ref l1, .ref l2])), (l2, .inr (2, [.int 0, .ref dE, .int 0])), (q1, .inl (cAq1, 8, .inl (upd (fun _ => 0) (Int32.toNatClampNeg 0) 7)))]) (w1 := [(l1, .inr (2, [.int 0, .ref dE, .int 0]))]) (tr := [(cAq1, .int)]) (t1 := []) hP hD hK [1] [0, 2, 3] [0] rfl rfl rfl (by decide) (by decide) hk1 hFc ht hvm hB
  have hP : va_P (dC, dI) vwCl [(h0, .inr (13, [.int 0, .int 7, .int 0, .ref l1, .ref l2])), (l2, .inr (2, [.int 0, .ref dE, .int 0])), (q1, .inl (cAq1, 8, .inl (upd (fun _ => 0) (Int32.toNatClampNeg 0) 7))), (l1, .inr (2, [.int 0, .ref dE, .int 0]))] H := hP
  have hD : va_D A [(h0, .inr (13, [.int 0, .int 7, .int 0, .ref l1, .ref l2])), (l2, .inr (2, [.int 0, .ref dE, .int 0])), (q1, .inl (cAq1, 8, .inl (upd (fun _ => 0) (Int32.toNatClampNeg 0) 7))), (l1, .inr (2, [.int 0, .ref dE, .int 0]))] := hD
  have hK : va_K (dC, dI) vwCl [(cAq1, .int)] s := hK
  subst hw
  refine va_iast hx hb hK hP hD hS 2 0 rfl rfl (by unfold vp_in; decide) dX10_manyNow_134 (fun H locs hP hD hS => ?_)
  have hP : va_P (dC, dI) vwCl [(h0, .inr (13, [.int 0, .int 7, .int 0, .ref l1, .ref l2])), (l2, .inr (2, [.int 0, .ref dE, .int 0])), (q1, .inl (cAq1, 8, .inl (upd (upd (fun _ => 0) (Int32.toNatClampNeg 0) 7) (Int32.toNatClampNeg 1) 0))), (l1, .inr (2, [.int 0, .ref dE, .int 0]))] H := hP
  have hD : va_D A [(h0, .inr (13, [.int 0, .int 7, .int 0, .ref l1, .ref l2])), (l2, .inr (2, [.int 0, .ref dE, .int 0])), (q1, .inl (cAq1, 8, .inl (upd (upd (fun _ => 0) (Int32.toNatClampNeg 0) 7) (Int32.toNatClampNeg 1) 0))), (l1, .inr (2, [.int 0, .ref dE, .int 0]))] := hD
  refine lv_dup hx hb dX10_manyNow_135 rfl ?_
  refine lv_iconst (v := 2) hx hb dX10_manyNow_136 (by decide) ?_
  refine lv_aload_n hx hb dX10_manyNow_137 rfl (lv_at hl 4 rfl) ?_
  refine va_get (D := (dC, dI)) (ci := 13) (v := .ref l2) (C := RX10) (T := TX10) (N := 5) hx hb hts (by decide +kernel) hown hK hP 0 rfl rfl 4 (by decide) (hts (.fieldLink RX10 20 "VersorhallModel" "elements" "Ljava/util/List;") (by decide +kernel)) (fun _ h9 => h9) rfl dX10_manyNow_138 ?_
  have hPc := hP.sub (ws' := [(l2, .inr (2, [.int 0, .ref dE, .int 0]))]) [1] rfl
  have hDc := hD.sub (ws' := [(l2, .inr (2, [.int 0, .ref dE, .int 0]))]) [1] (by decide) rfl
  have hKc := hK.sub (tys' := []) [] rfl
  have hFc := va_free (wc := [(l2, .inr (2, [.int 0, .ref dE, .int 0]))]) hD hS hA [1] rfl
  refine va_callFi (va_runF ((hK.1 2 _ rfl).2) (As := []) (rest := [.int 2, .ref q1, .ref q1]) ⟨hx, hb, hml, hown, hts⟩ (c_List_size l dC dI dE l2 0 dE 0 H.size) (va_cwF 0 hts gX10_manyNow_Jx4a65c_size_8abf5_f30Jx4a65c rfl rfl rfl (Tb_w1 hTb) (by decide +kernel) ⟨Nat.le_of_ble_eq_true rfl, Nat.le_of_ble_eq_true rfl⟩) ⟨fun a U g mk q => ⟨q.1, PB.blind q.2⟩, va_recv hKc hPc (ci := 2) (q0 := 0) rfl rfl, fun U hU hW => ⟨rfl, PB.call hPc hKc hDc hTb hZ hS hFc hU hW⟩⟩ rfl rfl hl.1 rfl (lv_room (Nat.le_of_ble_eq_true rfl)) dX10_manyNow_141 ⟨Nat.le_of_ble_eq_true rfl, Nat.le_of_ble_eq_true rfl⟩) hS (fun q _ h => hFc q h) hFc (fun r u t H locs ht hvm hw hB hz1 hk1 hS => ?_)
  obtain ⟨hP, hD, hK⟩ := PE.join (wc := [(l2, .inr (2, [.int 0, .ref dE, .int 0]))]) (wr := [(h0, .inr (13, [.int 0, .int 7, .int 0, .ref l1, .ref l2])), (q1, .inl (cAq1, 8, .inl (upd (upd (fun _ => 0) (Int32.toNatClampNeg 0) 7) (Int32.toNatClampNeg 1) 0))), (l1, .inr (2, [.int 0, .ref dE, .int 0]))]) (w1 := [(l2, .inr (2, [.int 0, .ref dE, .int 0]))]) (tr := [(cAq1, .int)]) (t1 := []) hP hD hK [1] [0, 2, 3] [0] rfl rfl rfl (by decide) (by decide) hk1 hFc ht hvm hB
  have hP : va_P (dC, dI) vwCl [(h0, .inr (13, [.int 0, .int 7, .int 0, .ref l1, .ref l2])), (q1, .inl (cAq1, 8, .inl (upd (upd (fun _ => 0) (Int32.toNatClampNeg 0) 7) (Int32.toNatClampNeg 1) 0))), (l1, .inr (2, [.int 0, .ref dE, .int 0])), (l2, .inr (2, [.int 0, .ref dE, .int 0]))] H := hP
  have hD : va_D A [(h0, .inr (13, [.int 0, .int 7, .int 0, .ref l1, .ref l2])), (q1, .inl (cAq1, 8, .inl (upd (upd (fun _ => 0) (Int32.toNatClampNeg 0) 7) (Int32.toNatClampNeg 1) 0))), (l1, .inr (2, [.int 0, .ref dE, .int 0])), (l2, .inr (2, [.int 0, .ref dE, .int 0]))] := hD
  have hK : va_K (dC, dI) vwCl [(cAq1, .int)] s := hK
  subst hw
  refine va_iast hx hb hK hP hD hS 1 0 rfl rfl (by unfold vp_in; decide) dX10_manyNow_146 (fun H locs hP hD hS => ?_)
  have hP : va_P (dC, dI) vwCl [(h0, .inr (13, [.int 0, .int 7, .int 0, .ref l1, .ref l2])), (q1, .inl (cAq1, 8, .inl (upd (upd (upd (fun _ => 0) (Int32.toNatClampNeg 0) 7) (Int32.toNatClampNeg 1) 0) (Int32.toNatClampNeg 2) 0))), (l1, .inr (2, [.int 0, .ref dE, .int 0])), (l2, .inr (2, [.int 0, .ref dE, .int 0]))] H := hP
  have hD : va_D A [(h0, .inr (13, [.int 0, .int 7, .int 0, .ref l1, .ref l2])), (q1, .inl (cAq1, 8, .inl (upd (upd (upd (fun _ => 0) (Int32.toNatClampNeg 0) 7) (Int32.toNatClampNeg 1) 0) (Int32.toNatClampNeg 2) 0))), (l1, .inr (2, [.int 0, .ref dE, .int 0])), (l2, .inr (2, [.int 0, .ref dE, .int 0]))] := hD
  refine lv_dup hx hb dX10_manyNow_147 rfl ?_
  refine lv_iconst (v := 3) hx hb dX10_manyNow_148 (by decide) ?_
  refine lv_iload_n hx hb dX10_manyNow_149 rfl (lv_at hl 3 rfl) ?_
  refine va_iast hx hb hK hP hD hS 1 0 rfl rfl (by unfold vp_in; decide) dX10_manyNow_150 (fun H locs hP hD hS => ?_)
  have hP : va_P (dC, dI) vwCl [(h0, .inr (13, [.int 0, .int 7, .int 0, .ref l1, .ref l2])), (q1, .inl (cAq1, 8, .inl (upd (upd (upd (upd (fun _ => 0) (Int32.toNatClampNeg 0) 7) (Int32.toNatClampNeg 1) 0) (Int32.toNatClampNeg 2) 0) (Int32.toNatClampNeg 3) 0))), (l1, .inr (2, [.int 0, .ref dE, .int 0])), (l2, .inr (2, [.int 0, .ref dE, .int 0]))] H := hP
  have hD : va_D A [(h0, .inr (13, [.int 0, .int 7, .int 0, .ref l1, .ref l2])), (q1, .inl (cAq1, 8, .inl (upd (upd (upd (upd (fun _ => 0) (Int32.toNatClampNeg 0) 7) (Int32.toNatClampNeg 1) 0) (Int32.toNatClampNeg 2) 0) (Int32.toNatClampNeg 3) 0))), (l1, .inr (2, [.int 0, .ref dE, .int 0])), (l2, .inr (2, [.int 0, .ref dE, .int 0]))] := hD
  refine lv_dup hx hb dX10_manyNow_151 rfl ?_
  refine lv_iconst (v := 4) hx hb dX10_manyNow_152 (by decide) ?_
  refine lv_iload_n hx hb dX10_manyNow_153 rfl (lv_at hl 2 rfl) ?_
  refine va_iast hx hb hK hP hD hS 1 0 rfl rfl (by unfold vp_in; decide) dX10_manyNow_154 (fun H locs hP hD hS => ?_)
  have hP : va_P (dC, dI) vwCl [(h0, .inr (13, [.int 0, .int 7, .int 0, .ref l1, .ref l2])), (q1, .inl (cAq1, 8, .inl (upd (upd (upd (upd (upd (fun _ => 0) (Int32.toNatClampNeg 0) 7) (Int32.toNatClampNeg 1) 0) (Int32.toNatClampNeg 2) 0) (Int32.toNatClampNeg 3) 0) (Int32.toNatClampNeg 4) 0))), (l1, .inr (2, [.int 0, .ref dE, .int 0])), (l2, .inr (2, [.int 0, .ref dE, .int 0]))] H := hP
  have hD : va_D A [(h0, .inr (13, [.int 0, .int 7, .int 0, .ref l1, .ref l2])), (q1, .inl (cAq1, 8, .inl (upd (upd (upd (upd (upd (fun _ => 0) (Int32.toNatClampNeg 0) 7) (Int32.toNatClampNeg 1) 0) (Int32.toNatClampNeg 2) 0) (Int32.toNatClampNeg 3) 0) (Int32.toNatClampNeg 4) 0))), (l1, .inr (2, [.int 0, .ref dE, .int 0])), (l2, .inr (2, [.int 0, .ref dE, .int 0]))] := hD
  refine lv_dup hx hb dX10_manyNow_155 rfl ?_
  refine lv_iconst (v := 5) hx hb dX10_manyNow_156 (by decide) ?_
  refine lv_iload hx hb dX10_manyNow_157 (lv_at hl 1 rfl) ?_
  refine va_iast hx hb hK hP hD hS 1 0 rfl rfl (by unfold vp_in; decide) dX10_manyNow_159 (fun H locs hP hD hS => ?_)
  have hP : va_P (dC, dI) vwCl [(h0, .inr (13, [.int 0, .int 7, .int 0, .ref l1, .ref l2])), (q1, .inl (cAq1, 8, .inl (upd (upd (upd (upd (upd (upd (fun _ => 0) (Int32.toNatClampNeg 0) 7) (Int32.toNatClampNeg 1) 0) (Int32.toNatClampNeg 2) 0) (Int32.toNatClampNeg 3) 0) (Int32.toNatClampNeg 4) 0) (Int32.toNatClampNeg 5) 0))), (l1, .inr (2, [.int 0, .ref dE, .int 0])), (l2, .inr (2, [.int 0, .ref dE, .int 0]))] H := hP
  have hD : va_D A [(h0, .inr (13, [.int 0, .int 7, .int 0, .ref l1, .ref l2])), (q1, .inl (cAq1, 8, .inl (upd (upd (upd (upd (upd (upd (fun _ => 0) (Int32.toNatClampNeg 0) 7) (Int32.toNatClampNeg 1) 0) (Int32.toNatClampNeg 2) 0) (Int32.toNatClampNeg 3) 0) (Int32.toNatClampNeg 4) 0) (Int32.toNatClampNeg 5) 0))), (l1, .inr (2, [.int 0, .ref dE, .int 0])), (l2, .inr (2, [.int 0, .ref dE, .int 0]))] := hD
  refine lv_dup hx hb dX10_manyNow_160 rfl ?_
  refine lv_bipush (v := 6) hx hb dX10_manyNow_161 (by decide) ?_
  refine lv_aload_n hx hb dX10_manyNow_163 rfl (lv_at hl 4 rfl) ?_
  refine va_get (D := (dC, dI)) (ci := 13) (v := .int 0) (C := RX10) (T := TX10) (N := 5) hx hb hts (by decide +kernel) hown hK hP 0 rfl rfl 2 (by decide) (hts (.fieldLink RX10 169 "VersorhallModel" "knocks" "I") (by decide +kernel)) (fun _ h9 => h9) rfl dX10_manyNow_164 ?_
  refine va_iast hx hb hK hP hD hS 1 0 rfl rfl (by unfold vp_in; decide) dX10_manyNow_167 (fun H locs hP hD hS => ?_)
  have hP : va_P (dC, dI) vwCl [(h0, .inr (13, [.int 0, .int 7, .int 0, .ref l1, .ref l2])), (q1, .inl (cAq1, 8, .inl (upd (upd (upd (upd (upd (upd (upd (fun _ => 0) (Int32.toNatClampNeg 0) 7) (Int32.toNatClampNeg 1) 0) (Int32.toNatClampNeg 2) 0) (Int32.toNatClampNeg 3) 0) (Int32.toNatClampNeg 4) 0) (Int32.toNatClampNeg 5) 0) (Int32.toNatClampNeg 6) 0))), (l1, .inr (2, [.int 0, .ref dE, .int 0])), (l2, .inr (2, [.int 0, .ref dE, .int 0]))] H := hP
  have hD : va_D A [(h0, .inr (13, [.int 0, .int 7, .int 0, .ref l1, .ref l2])), (q1, .inl (cAq1, 8, .inl (upd (upd (upd (upd (upd (upd (upd (fun _ => 0) (Int32.toNatClampNeg 0) 7) (Int32.toNatClampNeg 1) 0) (Int32.toNatClampNeg 2) 0) (Int32.toNatClampNeg 3) 0) (Int32.toNatClampNeg 4) 0) (Int32.toNatClampNeg 5) 0) (Int32.toNatClampNeg 6) 0))), (l1, .inr (2, [.int 0, .ref dE, .int 0])), (l2, .inr (2, [.int 0, .ref dE, .int 0]))] := hD
  refine lv_dup hx hb dX10_manyNow_168 rfl ?_
  refine lv_bipush (v := 7) hx hb dX10_manyNow_169 (by decide) ?_
  refine lv_aload_n hx hb dX10_manyNow_171 rfl (lv_at hl 4 rfl) ?_
  have hPc := hP.sub (ws' := [(h0, .inr (13, [.int 0, .int 7, .int 0, .ref l1, .ref l2])), (l1, .inr (2, [.int 0, .ref dE, .int 0])), (l2, .inr (2, [.int 0, .ref dE, .int 0]))]) [0, 2, 3] rfl
  have hDc := hD.sub (ws' := [(h0, .inr (13, [.int 0, .int 7, .int 0, .ref l1, .ref l2])), (l1, .inr (2, [.int 0, .ref dE, .int 0])), (l2, .inr (2, [.int 0, .ref dE, .int 0]))]) [0, 2, 3] (by decide) rfl
  have hKc := hK.sub (tys' := []) [] rfl
  have hFc := va_free (wc := [(h0, .inr (13, [.int 0, .int 7, .int 0, .ref l1, .ref l2])), (l1, .inr (2, [.int 0, .ref dE, .int 0])), (l2, .inr (2, [.int 0, .ref dE, .int 0]))]) hD hS hA [0, 2, 3] rfl
  refine va_calli (va_runV (As := []) (rest := [.int 7, .ref q1, .ref q1]) ⟨hx, hb, hml, hown, hts⟩ (c_M_allQuarters l dC dI dE h0 l1 l2 H.size) (cwV 0 hts gX10_manyNow_X10_allQuarters rfl rfl rfl (by decide +kernel) ⟨Nat.le_of_ble_eq_true rfl, Nat.le_of_ble_eq_true rfl⟩) ⟨fun a U g mk q => ⟨q.1, PB.blind q.2⟩, va_recv hKc hPc (ci := 13) (q0 := 0) rfl rfl, fun U hU hW => ⟨rfl, PB.call hPc hKc hDc hTb hZ hS hFc hU hW⟩⟩ rfl rfl hl.1 rfl (lv_room (Nat.le_of_ble_eq_true rfl)) dX10_manyNow_172 ⟨Nat.le_of_ble_eq_true rfl, Nat.le_of_ble_eq_true rfl⟩) hS (fun q _ h => hFc q h) hFc (fun r u t H locs ht hvm hw hB hz1 hk1 hS => ?_)
  obtain ⟨hP, hD, hK⟩ := PE.join (wc := [(h0, .inr (13, [.int 0, .int 7, .int 0, .ref l1, .ref l2])), (l1, .inr (2, [.int 0, .ref dE, .int 0])), (l2, .inr (2, [.int 0, .ref dE, .int 0]))]) (wr := [(q1, .inl (cAq1, 8, .inl (upd (upd (upd (upd (upd (upd (upd (fun _ => 0) (Int32.toNatClampNeg 0) 7) (Int32.toNatClampNeg 1) 0) (Int32.toNatClampNeg 2) 0) (Int32.toNatClampNeg 3) 0) (Int32.toNatClampNeg 4) 0) (Int32.toNatClampNeg 5) 0) (Int32.toNatClampNeg 6) 0)))]) (w1 := [(h0, .inr (13, [.int 0, .int 7, .int 0, .ref l1, .ref l2])), (l1, .inr (2, [.int 0, .ref dE, .int 0])), (l2, .inr (2, [.int 0, .ref dE, .int 0]))]) (tr := [(cAq1, .int)]) (t1 := []) hP hD hK [0, 2, 3] [1] [0] rfl rfl rfl (by decide) (by decide) hk1 hFc ht hvm hB
  have hP : va_P (dC, dI) vwCl [(q1, .inl (cAq1, 8, .inl (upd (upd (upd (upd (upd (upd (upd (fun _ => 0) (Int32.toNatClampNeg 0) 7) (Int32.toNatClampNeg 1) 0) (Int32.toNatClampNeg 2) 0) (Int32.toNatClampNeg 3) 0) (Int32.toNatClampNeg 4) 0) (Int32.toNatClampNeg 5) 0) (Int32.toNatClampNeg 6) 0))), (h0, .inr (13, [.int 0, .int 7, .int 0, .ref l1, .ref l2])), (l1, .inr (2, [.int 0, .ref dE, .int 0])), (l2, .inr (2, [.int 0, .ref dE, .int 0]))] H := hP
  have hD : va_D A [(q1, .inl (cAq1, 8, .inl (upd (upd (upd (upd (upd (upd (upd (fun _ => 0) (Int32.toNatClampNeg 0) 7) (Int32.toNatClampNeg 1) 0) (Int32.toNatClampNeg 2) 0) (Int32.toNatClampNeg 3) 0) (Int32.toNatClampNeg 4) 0) (Int32.toNatClampNeg 5) 0) (Int32.toNatClampNeg 6) 0))), (h0, .inr (13, [.int 0, .int 7, .int 0, .ref l1, .ref l2])), (l1, .inr (2, [.int 0, .ref dE, .int 0])), (l2, .inr (2, [.int 0, .ref dE, .int 0]))] := hD
  have hK : va_K (dC, dI) vwCl [(cAq1, .int)] s := hK
  subst hw
  refine lv_iconst (v := 4) hx hb dX10_manyNow_175 (by decide) ?_
  refine lv_idiv hx hb dX10_manyNow_176 (by decide) ?_
  refine lv_topi (fun f2 ef2 => ?_)
  obtain rfl : f2 = 0 := ef2.trans (by decide)
  refine va_iast hx hb hK hP hD hS 0 0 rfl rfl (by unfold vp_in; decide) dX10_manyNow_177 (fun H locs hP hD hS => ?_)
  have hP : va_P (dC, dI) vwCl [(q1, .inl (cAq1, 8, .inl (upd (upd (upd (upd (upd (upd (upd (upd (fun _ => 0) (Int32.toNatClampNeg 0) 7) (Int32.toNatClampNeg 1) 0) (Int32.toNatClampNeg 2) 0) (Int32.toNatClampNeg 3) 0) (Int32.toNatClampNeg 4) 0) (Int32.toNatClampNeg 5) 0) (Int32.toNatClampNeg 6) 0) (Int32.toNatClampNeg 7) 0))), (h0, .inr (13, [.int 0, .int 7, .int 0, .ref l1, .ref l2])), (l1, .inr (2, [.int 0, .ref dE, .int 0])), (l2, .inr (2, [.int 0, .ref dE, .int 0]))] H := hP
  have hD : va_D A [(q1, .inl (cAq1, 8, .inl (upd (upd (upd (upd (upd (upd (upd (upd (fun _ => 0) (Int32.toNatClampNeg 0) 7) (Int32.toNatClampNeg 1) 0) (Int32.toNatClampNeg 2) 0) (Int32.toNatClampNeg 3) 0) (Int32.toNatClampNeg 4) 0) (Int32.toNatClampNeg 5) 0) (Int32.toNatClampNeg 6) 0) (Int32.toNatClampNeg 7) 0))), (h0, .inr (13, [.int 0, .int 7, .int 0, .ref l1, .ref l2])), (l1, .inr (2, [.int 0, .ref dE, .int 0])), (l2, .inr (2, [.int 0, .ref dE, .int 0]))] := hD
  refine lv_astore (lv' := [(5, .ref q1), (4, .int 0), (3, .int 0), (2, .int 0), (0, .ref h0), (1, .int 5)]) hx hb dX10_manyNow_178 hl (by decide) rfl (fun ls hl => ?_)
  refine lv_aload hx hb dX10_manyNow_180 (lv_at hl 0 rfl) ?_
  refine lv_iload_n hx hb dX10_manyNow_182 rfl (lv_at hl 5 rfl) ?_
  refine va_iald hx hb hK hP 0 0 rfl rfl (by unfold vp_in; decide) dX10_manyNow_183 ?_
  refine lv_topi (fun f3 ef3 => ?_)
  obtain rfl : f3 = 0 := ef3.trans (by decide)
  have hP9 := hP.sub (ws' := [(h0, .inr (13, [.int 0, .int 7, .int 0, .ref l1, .ref l2])), (l1, .inr (2, [.int 0, .ref dE, .int 0])), (l2, .inr (2, [.int 0, .ref dE, .int 0]))]) [1, 2, 3] rfl
  have hD9 := hD.sub (ws' := [(h0, .inr (13, [.int 0, .int 7, .int 0, .ref l1, .ref l2])), (l1, .inr (2, [.int 0, .ref dE, .int 0])), (l2, .inr (2, [.int 0, .ref dE, .int 0]))]) [1, 2, 3] (by decide) rfl
  have hK9 := hK.sub (tys' := []) [] rfl
  refine W.widen (k := 1) (n := 8) (Nat.le_of_ble_eq_true rfl) (Nat.le_of_ble_eq_true rfl) ?_
  exact W.iret (v := 0) hx hb hr (fun t ht hW => ⟨⟨_, (), rfl, rfl, PE.mk hP9 hK9 hD9 ht hW⟩, hS.F ht⟩) hS.2.2 dX10_manyNow_184

set_option maxHeartbeats 4000000 in
set_option maxRecDepth 100000 in
/-- c_M_manyNow_6 -/
theorem c_M_manyNow_6 (l : Launch) (dC : Nat → ClassId) (dI : Nat → Nat → Nat) (dE : Nat) (h0 : Nat) (l1 : Nat) (l2 : Nat) (sz : Nat) : Met l yX10_manyNow wsX10_manyNow ({ frames := 2, cells := 1, slots := 8, locals := 42 }) (va_Pc [.ref h0, .int 6] (PB dC dI dE [] [(h0, .inr (13, [.int 0, .int 7, .int 0, .ref l1, .ref l2])), (l1, .inr (2, [.int 0, .ref dE, .int 0])), (l2, .inr (2, [.int 0, .ref dE, .int 0]))] sz)) (va_Qi (fun (r : Int32) (_ : Unit) => r = 0) (fun (_ : Unit) (t : State) => PE dC dI [] [(h0, .inr (13, [.int 0, .int 7, .int 0, .ref l1, .ref l2])), (l1, .inr (2, [.int 0, .ref dE, .int 0])), (l2, .inr (2, [.int 0, .ref dE, .int 0]))] (va_A [(h0, .inr (13, [.int 0, .int 7, .int 0, .ref l1, .ref l2])), (l1, .inr (2, [.int 0, .ref dE, .int 0])), (l2, .inr (2, [.int 0, .ref dE, .int 0]))] sz) t) (va_A [(h0, .inr (13, [.int 0, .int 7, .int 0, .ref l1, .ref l2])), (l1, .inr (2, [.int 0, .ref dE, .int 0])), (l2, .inr (2, [.int 0, .ref dE, .int 0]))] sz)) 1 8 (va_A [(h0, .inr (13, [.int 0, .int 7, .int 0, .ref l1, .ref l2])), (l1, .inr (2, [.int 0, .ref dE, .int 0])), (l2, .inr (2, [.int 0, .ref dE, .int 0]))] sz) := by
  refine Met.ofW (cc := cX10_manyNow) (maxL := 6) (ret := (some .int)) (by decide) rfl ?_
  intro p e s m args below meth c s₁ B hml hv
  obtain ⟨rfl, hsz, hP, hK, hD0, hTb, hZ⟩ := hv
  have hx := B.exec
  have hb := B.bytes
  have hr := B.returns
  have hts := atoms_spec (ws := wsX10_manyNow) B.pre
  have hown : s.vm.findClass RX10 = some m.cls := findClass_of_methodNamed B.named
  have hlocks := B.notSynchronized
  subst hsz
  have hD := hD0.self (sz := s.heap.size)
  generalize hAe : va_A [(h0, .inr (13, [.int 0, .int 7, .int 0, .ref l1, .ref l2])), (l1, .inr (2, [.int 0, .ref dE, .int 0])), (l2, .inr (2, [.int 0, .ref dE, .int 0]))] s.heap.size = A at hD hZ ⊢
  have hA : ∀ q : Nat, s.heap.size ≤ q → A q := fun q h => by rw [← hAe]; exact Or.inr h
  have hS : va_S A s.heap s.heap [] := va_S.rf
  have hP : va_P (dC, dI) vwCl [(h0, .inr (13, [.int 0, .int 7, .int 0, .ref l1, .ref l2])), (l1, .inr (2, [.int 0, .ref dE, .int 0])), (l2, .inr (2, [.int 0, .ref dE, .int 0]))] s.heap := hP
  have hl := lv_entry ([.ref h0, .int 6]) (n := 6) (Nat.le_of_ble_eq_true rfl)
  rw [lg_entry_eq]
  generalize (lg_sl ([.ref h0, .int 6]) ++ List.replicate (6 - (lg_sl ([.ref h0, .int 6])).length) Slot.unset).toArray = ls at hl ⊢
  have hl : lv_has ls 6 [(0, .ref h0), (1, .int 6)] := hl
  obtain ⟨H, eH⟩ : ∃ z, z = s.heap := ⟨_, rfl⟩
  rw [← eH] at hP ⊢
  have hS : va_S A s.heap H [] := by rw [eH]; exact va_S.rf
  refine lv_iconst (v := 0) hx hb dX10_manyNow_0 (by decide) ?_
  refine lv_istore_n (lv' := [(2, .int 0), (0, .ref h0), (1, .int 6)]) hx hb dX10_manyNow_1 rfl hl (by decide) rfl (fun ls hl => ?_)
  refine lv_iconst (v := 0) hx hb dX10_manyNow_2 (by decide) ?_
  refine lv_istore_n (lv' := [(3, .int 0), (2, .int 0), (0, .ref h0), (1, .int 6)]) hx hb dX10_manyNow_3 rfl hl (by decide) rfl (fun ls hl => ?_)
  refine lv_iconst (v := 0) hx hb dX10_manyNow_4 (by decide) ?_
  refine lv_istore (lv' := [(4, .int 0), (3, .int 0), (2, .int 0), (0, .ref h0), (1, .int 6)]) hx hb dX10_manyNow_5 hl (by decide) rfl (fun ls hl => ?_)
  refine lv_iconst (v := 0) hx hb dX10_manyNow_7 (by decide) ?_
  refine lv_istore (lv' := [(5, .int 0), (4, .int 0), (3, .int 0), (2, .int 0), (0, .ref h0), (1, .int 6)]) hx hb dX10_manyNow_8 hl (by decide) rfl (fun ls hl => ?_)
  refine lv_iload hx hb dX10_manyNow_10 (lv_at hl 0 rfl) ?_
  refine lv_aload_n hx hb dX10_manyNow_12 rfl (lv_at hl 4 rfl) ?_
  refine va_get (D := (dC, dI)) (ci := 13) (v := .ref l1) (C := RX10) (T := TX10) (N := 5) hx hb hts (by decide +kernel) hown hK hP 0 rfl rfl 3 (by decide) (hts (.fieldLink RX10 16 "VersorhallModel" "algebras" "Ljava/util/List;") (by decide +kernel)) (fun _ h9 => h9) rfl dX10_manyNow_13 ?_
  have hPc := hP.sub (ws' := [(l1, .inr (2, [.int 0, .ref dE, .int 0]))]) [1] rfl
  have hDc := hD.sub (ws' := [(l1, .inr (2, [.int 0, .ref dE, .int 0]))]) [1] (by decide) rfl
  have hKc := hK.sub (tys' := []) [] rfl
  have hFc := va_free (wc := [(l1, .inr (2, [.int 0, .ref dE, .int 0]))]) hD hS hA [1] rfl
  refine va_callFi (va_runF ((hK.1 2 _ rfl).2) (As := []) (rest := [.int 0]) ⟨hx, hb, hml, hown, hts⟩ (c_List_size l dC dI dE l1 0 dE 0 H.size) (va_cwF 0 hts gX10_manyNow_Jx4a65c_size_8abf5_f30Jx4a65c rfl rfl rfl (Tb_w1 hTb) (by decide +kernel) ⟨Nat.le_of_ble_eq_true rfl, Nat.le_of_ble_eq_true rfl⟩) ⟨fun a U g mk q => ⟨q.1, PB.blind q.2⟩, va_recv hKc hPc (ci := 2) (q0 := 0) rfl rfl, fun U hU hW => ⟨rfl, PB.call hPc hKc hDc hTb hZ hS hFc hU hW⟩⟩ rfl rfl hl.1 rfl (lv_room (Nat.le_of_ble_eq_true rfl)) dX10_manyNow_16 ⟨Nat.le_of_ble_eq_true rfl, Nat.le_of_ble_eq_true rfl⟩) hS (fun q _ h => hFc q h) hFc (fun r u t H locs ht hvm hw hB hz1 hk1 hS => ?_)
  obtain ⟨hP, hD, hK⟩ := PE.join (wc := [(l1, .inr (2, [.int 0, .ref dE, .int 0]))]) (wr := [(h0, .inr (13, [.int 0, .int 7, .int 0, .ref l1, .ref l2])), (l2, .inr (2, [.int 0, .ref dE, .int 0]))]) (w1 := [(l1, .inr (2, [.int 0, .ref dE, .int 0]))]) (tr := []) (t1 := []) hP hD hK [1] [0, 2] [] rfl rfl rfl (by decide) (by decide) hk1 hFc ht hvm hB
  have hP : va_P (dC, dI) vwCl [(h0, .inr (13, [.int 0, .int 7, .int 0, .ref l1, .ref l2])), (l2, .inr (2, [.int 0, .ref dE, .int 0])), (l1, .inr (2, [.int 0, .ref dE, .int 0]))] H := hP
  have hD : va_D A [(h0, .inr (13, [.int 0, .int 7, .int 0, .ref l1, .ref l2])), (l2, .inr (2, [.int 0, .ref dE, .int 0])), (l1, .inr (2, [.int 0, .ref dE, .int 0]))] := hD
  have hK : va_K (dC, dI) vwCl [] s := hK
  subst hw
  refine lv_icmp_ge (tgt := 50) hx hb dX10_manyNow_21 (by decide) (fun _ => ?_) (fun c9 => absurd (by decide) c9)
  refine lv_iconst (v := 0) hx hb dX10_manyNow_50 (by decide) ?_
  refine lv_istore (lv' := [(5, .int 0), (4, .int 0), (3, .int 0), (2, .int 0), (0, .ref h0), (1, .int 6)]) hx hb dX10_manyNow_51 hl (by decide) rfl (fun ls hl => ?_)
  refine lv_iload hx hb dX10_manyNow_53 (lv_at hl 0 rfl) ?_
  refine lv_aload_n hx hb dX10_manyNow_55 rfl (lv_at hl 4 rfl) ?_
  refine va_get (D := (dC, dI)) (ci := 13) (v := .ref l2) (C := RX10) (T := TX10) (N := 5) hx hb hts (by decide +kernel) hown hK hP 0 rfl rfl 4 (by decide) (hts (.fieldLink RX10 20 "VersorhallModel" "elements" "Ljava/util/List;") (by decide +kernel)) (fun _ h9 => h9) rfl dX10_manyNow_56 ?_
  have hPc := hP.sub (ws' := [(l2, .inr (2, [.int 0, .ref dE, .int 0]))]) [1] rfl
  have hDc := hD.sub (ws' := [(l2, .inr (2, [.int 0, .ref dE, .int 0]))]) [1] (by decide) rfl
  have hKc := hK.sub (tys' := []) [] rfl
  have hFc := va_free (wc := [(l2, .inr (2, [.int 0, .ref dE, .int 0]))]) hD hS hA [1] rfl
  refine va_callFi (va_runF ((hK.1 2 _ rfl).2) (As := []) (rest := [.int 0]) ⟨hx, hb, hml, hown, hts⟩ (c_List_size l dC dI dE l2 0 dE 0 H.size) (va_cwF 0 hts gX10_manyNow_Jx4a65c_size_8abf5_f30Jx4a65c rfl rfl rfl (Tb_w1 hTb) (by decide +kernel) ⟨Nat.le_of_ble_eq_true rfl, Nat.le_of_ble_eq_true rfl⟩) ⟨fun a U g mk q => ⟨q.1, PB.blind q.2⟩, va_recv hKc hPc (ci := 2) (q0 := 0) rfl rfl, fun U hU hW => ⟨rfl, PB.call hPc hKc hDc hTb hZ hS hFc hU hW⟩⟩ rfl rfl hl.1 rfl (lv_room (Nat.le_of_ble_eq_true rfl)) dX10_manyNow_59 ⟨Nat.le_of_ble_eq_true rfl, Nat.le_of_ble_eq_true rfl⟩) hS (fun q _ h => hFc q h) hFc (fun r u t H locs ht hvm hw hB hz1 hk1 hS => ?_)
  obtain ⟨hP, hD, hK⟩ := PE.join (wc := [(l2, .inr (2, [.int 0, .ref dE, .int 0]))]) (wr := [(h0, .inr (13, [.int 0, .int 7, .int 0, .ref l1, .ref l2])), (l1, .inr (2, [.int 0, .ref dE, .int 0]))]) (w1 := [(l2, .inr (2, [.int 0, .ref dE, .int 0]))]) (tr := []) (t1 := []) hP hD hK [1] [0, 2] [] rfl rfl rfl (by decide) (by decide) hk1 hFc ht hvm hB
  have hP : va_P (dC, dI) vwCl [(h0, .inr (13, [.int 0, .int 7, .int 0, .ref l1, .ref l2])), (l1, .inr (2, [.int 0, .ref dE, .int 0])), (l2, .inr (2, [.int 0, .ref dE, .int 0]))] H := hP
  have hD : va_D A [(h0, .inr (13, [.int 0, .int 7, .int 0, .ref l1, .ref l2])), (l1, .inr (2, [.int 0, .ref dE, .int 0])), (l2, .inr (2, [.int 0, .ref dE, .int 0]))] := hD
  have hK : va_K (dC, dI) vwCl [] s := hK
  subst hw
  refine lv_icmp_ge (tgt := 112) hx hb dX10_manyNow_64 (by decide) (fun _ => ?_) (fun c9 => absurd (by decide) c9)
  refine lv_bipush (v := 8) hx hb dX10_manyNow_112 (by decide) ?_
  refine va_newa (atype := .int) (ty := .int) (a0 := (8, .inl (fun _ => 0))) (n := 8) (N' := 8) hx hb (hts (.arrayClass .int) (by decide +kernel)) rfl hK hP hD hS hA (fun _ => rfl) (by decide) (by decide) (Nat.le_of_ble_eq_true rfl) (Nat.le_of_ble_eq_true rfl) (Nat.le_of_ble_eq_true rfl) dX10_manyNow_114 (fun q1 cAq1 H hK hP hD hS => ?_)
  have hP : va_P (dC, dI) vwCl [(h0, .inr (13, [.int 0, .int 7, .int 0, .ref l1, .ref l2])), (l1, .inr (2, [.int 0, .ref dE, .int 0])), (l2, .inr (2, [.int 0, .ref dE, .int 0])), (q1, .inl (cAq1, 8, .inl (fun _ => 0)))] H := hP
  have hD : va_D A [(h0, .inr (13, [.int 0, .int 7, .int 0, .ref l1, .ref l2])), (l1, .inr (2, [.int 0, .ref dE, .int 0])), (l2, .inr (2, [.int 0, .ref dE, .int 0])), (q1, .inl (cAq1, 8, .inl (fun _ => 0)))] := hD
  have hK : va_K (dC, dI) vwCl [(cAq1, .int)] s := hK
  refine W.widen (k := 1) (n := 8) (by omega) (by omega) ?_
  refine lv_dup hx hb dX10_manyNow_116 rfl ?_
  refine lv_iconst (v := 0) hx hb dX10_manyNow_117 (by decide) ?_
  refine lv_aload_n hx hb dX10_manyNow_118 rfl (lv_at hl 4 rfl) ?_
  refine va_get (D := (dC, dI)) (ci := 13) (v := .int 7) (C := RX10) (T := TX10) (N := 5) hx hb hts (by decide +kernel) hown hK hP 0 rfl rfl 1 (by decide) (hts (.fieldLink RX10 7 "VersorhallModel" "p" "I") (by decide +kernel)) (fun _ h9 => h9) rfl dX10_manyNow_119 ?_
  refine va_iast hx hb hK hP hD hS 3 0 rfl rfl (by unfold vp_in; decide) dX10_manyNow_122 (fun H locs hP hD hS => ?_)
  have hP : va_P (dC, dI) vwCl [(h0, .inr (13, [.int 0, .int 7, .int 0, .ref l1, .ref l2])), (l1, .inr (2, [.int 0, .ref dE, .int 0])), (l2, .inr (2, [.int 0, .ref dE, .int 0])), (q1, .inl (cAq1, 8, .inl (upd (fun _ => 0) (Int32.toNatClampNeg 0) 7)))] H := hP
  have hD : va_D A [(h0, .inr (13, [.int 0, .int 7, .int 0, .ref l1, .ref l2])), (l1, .inr (2, [.int 0, .ref dE, .int 0])), (l2, .inr (2, [.int 0, .ref dE, .int 0])), (q1, .inl (cAq1, 8, .inl (upd (fun _ => 0) (Int32.toNatClampNeg 0) 7)))] := hD
  refine lv_dup hx hb dX10_manyNow_123 rfl ?_
  refine lv_iconst (v := 1) hx hb dX10_manyNow_124 (by decide) ?_
  refine lv_aload_n hx hb dX10_manyNow_125 rfl (lv_at hl 4 rfl) ?_
  refine va_get (D := (dC, dI)) (ci := 13) (v := .ref l1) (C := RX10) (T := TX10) (N := 5) hx hb hts (by decide +kernel) hown hK hP 0 rfl rfl 3 (by decide) (hts (.fieldLink RX10 16 "VersorhallModel" "algebras" "Ljava/util/List;") (by decide +kernel)) (fun _ h9 => h9) rfl dX10_manyNow_126 ?_
  have hPc := hP.sub (ws' := [(l1, .inr (2, [.int 0, .ref dE, .int 0]))]) [1] rfl
  have hDc := hD.sub (ws' := [(l1, .inr (2, [.int 0, .ref dE, .int 0]))]) [1] (by decide) rfl
  have hKc := hK.sub (tys' := []) [] rfl
  have hFc := va_free (wc := [(l1, .inr (2, [.int 0, .ref dE, .int 0]))]) hD hS hA [1] rfl
  refine va_callFi (va_runF ((hK.1 2 _ rfl).2) (As := []) (rest := [.int 1, .ref q1, .ref q1]) ⟨hx, hb, hml, hown, hts⟩ (c_List_size l dC dI dE l1 0 dE 0 H.size) (va_cwF 0 hts gX10_manyNow_Jx4a65c_size_8abf5_f30Jx4a65c rfl rfl rfl (Tb_w1 hTb) (by decide +kernel) ⟨Nat.le_of_ble_eq_true rfl, Nat.le_of_ble_eq_true rfl⟩) ⟨fun a U g mk q => ⟨q.1, PB.blind q.2⟩, va_recv hKc hPc (ci := 2) (q0 := 0) rfl rfl, fun U hU hW => ⟨rfl, PB.call hPc hKc hDc hTb hZ hS hFc hU hW⟩⟩ rfl rfl hl.1 rfl (lv_room (Nat.le_of_ble_eq_true rfl)) dX10_manyNow_129 ⟨Nat.le_of_ble_eq_true rfl, Nat.le_of_ble_eq_true rfl⟩) hS (fun q _ h => hFc q h) hFc (fun r u t H locs ht hvm hw hB hz1 hk1 hS => ?_)
  obtain ⟨hP, hD, hK⟩ := PE.join (wc := [(l1, .inr (2, [.int 0, .ref dE, .int 0]))]) (wr := [(h0, .inr (13, [.int 0, .int 7, .int 0, .ref l1, .ref l2])), (l2, .inr (2, [.int 0, .ref dE, .int 0])), (q1, .inl (cAq1, 8, .inl (upd (fun _ => 0) (Int32.toNatClampNeg 0) 7)))]) (w1 := [(l1, .inr (2, [.int 0, .ref dE, .int 0]))]) (tr := [(cAq1, .int)]) (t1 := []) hP hD hK [1] [0, 2, 3] [0] rfl rfl rfl (by decide) (by decide) hk1 hFc ht hvm hB
  have hP : va_P (dC, dI) vwCl [(h0, .inr (13, [.int 0, .int 7, .int 0, .ref l1, .ref l2])), (l2, .inr (2, [.int 0, .ref dE, .int 0])), (q1, .inl (cAq1, 8, .inl (upd (fun _ => 0) (Int32.toNatClampNeg 0) 7))), (l1, .inr (2, [.int 0, .ref dE, .int 0]))] H := hP
  have hD : va_D A [(h0, .inr (13, [.int 0, .int 7, .int 0, .ref l1, .ref l2])), (l2, .inr (2, [.int 0, .ref dE, .int 0])), (q1, .inl (cAq1, 8, .inl (upd (fun _ => 0) (Int32.toNatClampNeg 0) 7))), (l1, .inr (2, [.int 0, .ref dE, .int 0]))] := hD
  have hK : va_K (dC, dI) vwCl [(cAq1, .int)] s := hK
  subst hw
  refine va_iast hx hb hK hP hD hS 2 0 rfl rfl (by unfold vp_in; decide) dX10_manyNow_134 (fun H locs hP hD hS => ?_)
  have hP : va_P (dC, dI) vwCl [(h0, .inr (13, [.int 0, .int 7, .int 0, .ref l1, .ref l2])), (l2, .inr (2, [.int 0, .ref dE, .int 0])), (q1, .inl (cAq1, 8, .inl (upd (upd (fun _ => 0) (Int32.toNatClampNeg 0) 7) (Int32.toNatClampNeg 1) 0))), (l1, .inr (2, [.int 0, .ref dE, .int 0]))] H := hP
  have hD : va_D A [(h0, .inr (13, [.int 0, .int 7, .int 0, .ref l1, .ref l2])), (l2, .inr (2, [.int 0, .ref dE, .int 0])), (q1, .inl (cAq1, 8, .inl (upd (upd (fun _ => 0) (Int32.toNatClampNeg 0) 7) (Int32.toNatClampNeg 1) 0))), (l1, .inr (2, [.int 0, .ref dE, .int 0]))] := hD
  refine lv_dup hx hb dX10_manyNow_135 rfl ?_
  refine lv_iconst (v := 2) hx hb dX10_manyNow_136 (by decide) ?_
  refine lv_aload_n hx hb dX10_manyNow_137 rfl (lv_at hl 4 rfl) ?_
  refine va_get (D := (dC, dI)) (ci := 13) (v := .ref l2) (C := RX10) (T := TX10) (N := 5) hx hb hts (by decide +kernel) hown hK hP 0 rfl rfl 4 (by decide) (hts (.fieldLink RX10 20 "VersorhallModel" "elements" "Ljava/util/List;") (by decide +kernel)) (fun _ h9 => h9) rfl dX10_manyNow_138 ?_
  have hPc := hP.sub (ws' := [(l2, .inr (2, [.int 0, .ref dE, .int 0]))]) [1] rfl
  have hDc := hD.sub (ws' := [(l2, .inr (2, [.int 0, .ref dE, .int 0]))]) [1] (by decide) rfl
  have hKc := hK.sub (tys' := []) [] rfl
  have hFc := va_free (wc := [(l2, .inr (2, [.int 0, .ref dE, .int 0]))]) hD hS hA [1] rfl
  refine va_callFi (va_runF ((hK.1 2 _ rfl).2) (As := []) (rest := [.int 2, .ref q1, .ref q1]) ⟨hx, hb, hml, hown, hts⟩ (c_List_size l dC dI dE l2 0 dE 0 H.size) (va_cwF 0 hts gX10_manyNow_Jx4a65c_size_8abf5_f30Jx4a65c rfl rfl rfl (Tb_w1 hTb) (by decide +kernel) ⟨Nat.le_of_ble_eq_true rfl, Nat.le_of_ble_eq_true rfl⟩) ⟨fun a U g mk q => ⟨q.1, PB.blind q.2⟩, va_recv hKc hPc (ci := 2) (q0 := 0) rfl rfl, fun U hU hW => ⟨rfl, PB.call hPc hKc hDc hTb hZ hS hFc hU hW⟩⟩ rfl rfl hl.1 rfl (lv_room (Nat.le_of_ble_eq_true rfl)) dX10_manyNow_141 ⟨Nat.le_of_ble_eq_true rfl, Nat.le_of_ble_eq_true rfl⟩) hS (fun q _ h => hFc q h) hFc (fun r u t H locs ht hvm hw hB hz1 hk1 hS => ?_)
  obtain ⟨hP, hD, hK⟩ := PE.join (wc := [(l2, .inr (2, [.int 0, .ref dE, .int 0]))]) (wr := [(h0, .inr (13, [.int 0, .int 7, .int 0, .ref l1, .ref l2])), (q1, .inl (cAq1, 8, .inl (upd (upd (fun _ => 0) (Int32.toNatClampNeg 0) 7) (Int32.toNatClampNeg 1) 0))), (l1, .inr (2, [.int 0, .ref dE, .int 0]))]) (w1 := [(l2, .inr (2, [.int 0, .ref dE, .int 0]))]) (tr := [(cAq1, .int)]) (t1 := []) hP hD hK [1] [0, 2, 3] [0] rfl rfl rfl (by decide) (by decide) hk1 hFc ht hvm hB
  have hP : va_P (dC, dI) vwCl [(h0, .inr (13, [.int 0, .int 7, .int 0, .ref l1, .ref l2])), (q1, .inl (cAq1, 8, .inl (upd (upd (fun _ => 0) (Int32.toNatClampNeg 0) 7) (Int32.toNatClampNeg 1) 0))), (l1, .inr (2, [.int 0, .ref dE, .int 0])), (l2, .inr (2, [.int 0, .ref dE, .int 0]))] H := hP
  have hD : va_D A [(h0, .inr (13, [.int 0, .int 7, .int 0, .ref l1, .ref l2])), (q1, .inl (cAq1, 8, .inl (upd (upd (fun _ => 0) (Int32.toNatClampNeg 0) 7) (Int32.toNatClampNeg 1) 0))), (l1, .inr (2, [.int 0, .ref dE, .int 0])), (l2, .inr (2, [.int 0, .ref dE, .int 0]))] := hD
  have hK : va_K (dC, dI) vwCl [(cAq1, .int)] s := hK
  subst hw
  refine va_iast hx hb hK hP hD hS 1 0 rfl rfl (by unfold vp_in; decide) dX10_manyNow_146 (fun H locs hP hD hS => ?_)
  have hP : va_P (dC, dI) vwCl [(h0, .inr (13, [.int 0, .int 7, .int 0, .ref l1, .ref l2])), (q1, .inl (cAq1, 8, .inl (upd (upd (upd (fun _ => 0) (Int32.toNatClampNeg 0) 7) (Int32.toNatClampNeg 1) 0) (Int32.toNatClampNeg 2) 0))), (l1, .inr (2, [.int 0, .ref dE, .int 0])), (l2, .inr (2, [.int 0, .ref dE, .int 0]))] H := hP
  have hD : va_D A [(h0, .inr (13, [.int 0, .int 7, .int 0, .ref l1, .ref l2])), (q1, .inl (cAq1, 8, .inl (upd (upd (upd (fun _ => 0) (Int32.toNatClampNeg 0) 7) (Int32.toNatClampNeg 1) 0) (Int32.toNatClampNeg 2) 0))), (l1, .inr (2, [.int 0, .ref dE, .int 0])), (l2, .inr (2, [.int 0, .ref dE, .int 0]))] := hD
  refine lv_dup hx hb dX10_manyNow_147 rfl ?_
  refine lv_iconst (v := 3) hx hb dX10_manyNow_148 (by decide) ?_
  refine lv_iload_n hx hb dX10_manyNow_149 rfl (lv_at hl 3 rfl) ?_
  refine va_iast hx hb hK hP hD hS 1 0 rfl rfl (by unfold vp_in; decide) dX10_manyNow_150 (fun H locs hP hD hS => ?_)
  have hP : va_P (dC, dI) vwCl [(h0, .inr (13, [.int 0, .int 7, .int 0, .ref l1, .ref l2])), (q1, .inl (cAq1, 8, .inl (upd (upd (upd (upd (fun _ => 0) (Int32.toNatClampNeg 0) 7) (Int32.toNatClampNeg 1) 0) (Int32.toNatClampNeg 2) 0) (Int32.toNatClampNeg 3) 0))), (l1, .inr (2, [.int 0, .ref dE, .int 0])), (l2, .inr (2, [.int 0, .ref dE, .int 0]))] H := hP
  have hD : va_D A [(h0, .inr (13, [.int 0, .int 7, .int 0, .ref l1, .ref l2])), (q1, .inl (cAq1, 8, .inl (upd (upd (upd (upd (fun _ => 0) (Int32.toNatClampNeg 0) 7) (Int32.toNatClampNeg 1) 0) (Int32.toNatClampNeg 2) 0) (Int32.toNatClampNeg 3) 0))), (l1, .inr (2, [.int 0, .ref dE, .int 0])), (l2, .inr (2, [.int 0, .ref dE, .int 0]))] := hD
  refine lv_dup hx hb dX10_manyNow_151 rfl ?_
  refine lv_iconst (v := 4) hx hb dX10_manyNow_152 (by decide) ?_
  refine lv_iload_n hx hb dX10_manyNow_153 rfl (lv_at hl 2 rfl) ?_
  refine va_iast hx hb hK hP hD hS 1 0 rfl rfl (by unfold vp_in; decide) dX10_manyNow_154 (fun H locs hP hD hS => ?_)
  have hP : va_P (dC, dI) vwCl [(h0, .inr (13, [.int 0, .int 7, .int 0, .ref l1, .ref l2])), (q1, .inl (cAq1, 8, .inl (upd (upd (upd (upd (upd (fun _ => 0) (Int32.toNatClampNeg 0) 7) (Int32.toNatClampNeg 1) 0) (Int32.toNatClampNeg 2) 0) (Int32.toNatClampNeg 3) 0) (Int32.toNatClampNeg 4) 0))), (l1, .inr (2, [.int 0, .ref dE, .int 0])), (l2, .inr (2, [.int 0, .ref dE, .int 0]))] H := hP
  have hD : va_D A [(h0, .inr (13, [.int 0, .int 7, .int 0, .ref l1, .ref l2])), (q1, .inl (cAq1, 8, .inl (upd (upd (upd (upd (upd (fun _ => 0) (Int32.toNatClampNeg 0) 7) (Int32.toNatClampNeg 1) 0) (Int32.toNatClampNeg 2) 0) (Int32.toNatClampNeg 3) 0) (Int32.toNatClampNeg 4) 0))), (l1, .inr (2, [.int 0, .ref dE, .int 0])), (l2, .inr (2, [.int 0, .ref dE, .int 0]))] := hD
  refine lv_dup hx hb dX10_manyNow_155 rfl ?_
  refine lv_iconst (v := 5) hx hb dX10_manyNow_156 (by decide) ?_
  refine lv_iload hx hb dX10_manyNow_157 (lv_at hl 1 rfl) ?_
  refine va_iast hx hb hK hP hD hS 1 0 rfl rfl (by unfold vp_in; decide) dX10_manyNow_159 (fun H locs hP hD hS => ?_)
  have hP : va_P (dC, dI) vwCl [(h0, .inr (13, [.int 0, .int 7, .int 0, .ref l1, .ref l2])), (q1, .inl (cAq1, 8, .inl (upd (upd (upd (upd (upd (upd (fun _ => 0) (Int32.toNatClampNeg 0) 7) (Int32.toNatClampNeg 1) 0) (Int32.toNatClampNeg 2) 0) (Int32.toNatClampNeg 3) 0) (Int32.toNatClampNeg 4) 0) (Int32.toNatClampNeg 5) 0))), (l1, .inr (2, [.int 0, .ref dE, .int 0])), (l2, .inr (2, [.int 0, .ref dE, .int 0]))] H := hP
  have hD : va_D A [(h0, .inr (13, [.int 0, .int 7, .int 0, .ref l1, .ref l2])), (q1, .inl (cAq1, 8, .inl (upd (upd (upd (upd (upd (upd (fun _ => 0) (Int32.toNatClampNeg 0) 7) (Int32.toNatClampNeg 1) 0) (Int32.toNatClampNeg 2) 0) (Int32.toNatClampNeg 3) 0) (Int32.toNatClampNeg 4) 0) (Int32.toNatClampNeg 5) 0))), (l1, .inr (2, [.int 0, .ref dE, .int 0])), (l2, .inr (2, [.int 0, .ref dE, .int 0]))] := hD
  refine lv_dup hx hb dX10_manyNow_160 rfl ?_
  refine lv_bipush (v := 6) hx hb dX10_manyNow_161 (by decide) ?_
  refine lv_aload_n hx hb dX10_manyNow_163 rfl (lv_at hl 4 rfl) ?_
  refine va_get (D := (dC, dI)) (ci := 13) (v := .int 0) (C := RX10) (T := TX10) (N := 5) hx hb hts (by decide +kernel) hown hK hP 0 rfl rfl 2 (by decide) (hts (.fieldLink RX10 169 "VersorhallModel" "knocks" "I") (by decide +kernel)) (fun _ h9 => h9) rfl dX10_manyNow_164 ?_
  refine va_iast hx hb hK hP hD hS 1 0 rfl rfl (by unfold vp_in; decide) dX10_manyNow_167 (fun H locs hP hD hS => ?_)
  have hP : va_P (dC, dI) vwCl [(h0, .inr (13, [.int 0, .int 7, .int 0, .ref l1, .ref l2])), (q1, .inl (cAq1, 8, .inl (upd (upd (upd (upd (upd (upd (upd (fun _ => 0) (Int32.toNatClampNeg 0) 7) (Int32.toNatClampNeg 1) 0) (Int32.toNatClampNeg 2) 0) (Int32.toNatClampNeg 3) 0) (Int32.toNatClampNeg 4) 0) (Int32.toNatClampNeg 5) 0) (Int32.toNatClampNeg 6) 0))), (l1, .inr (2, [.int 0, .ref dE, .int 0])), (l2, .inr (2, [.int 0, .ref dE, .int 0]))] H := hP
  have hD : va_D A [(h0, .inr (13, [.int 0, .int 7, .int 0, .ref l1, .ref l2])), (q1, .inl (cAq1, 8, .inl (upd (upd (upd (upd (upd (upd (upd (fun _ => 0) (Int32.toNatClampNeg 0) 7) (Int32.toNatClampNeg 1) 0) (Int32.toNatClampNeg 2) 0) (Int32.toNatClampNeg 3) 0) (Int32.toNatClampNeg 4) 0) (Int32.toNatClampNeg 5) 0) (Int32.toNatClampNeg 6) 0))), (l1, .inr (2, [.int 0, .ref dE, .int 0])), (l2, .inr (2, [.int 0, .ref dE, .int 0]))] := hD
  refine lv_dup hx hb dX10_manyNow_168 rfl ?_
  refine lv_bipush (v := 7) hx hb dX10_manyNow_169 (by decide) ?_
  refine lv_aload_n hx hb dX10_manyNow_171 rfl (lv_at hl 4 rfl) ?_
  have hPc := hP.sub (ws' := [(h0, .inr (13, [.int 0, .int 7, .int 0, .ref l1, .ref l2])), (l1, .inr (2, [.int 0, .ref dE, .int 0])), (l2, .inr (2, [.int 0, .ref dE, .int 0]))]) [0, 2, 3] rfl
  have hDc := hD.sub (ws' := [(h0, .inr (13, [.int 0, .int 7, .int 0, .ref l1, .ref l2])), (l1, .inr (2, [.int 0, .ref dE, .int 0])), (l2, .inr (2, [.int 0, .ref dE, .int 0]))]) [0, 2, 3] (by decide) rfl
  have hKc := hK.sub (tys' := []) [] rfl
  have hFc := va_free (wc := [(h0, .inr (13, [.int 0, .int 7, .int 0, .ref l1, .ref l2])), (l1, .inr (2, [.int 0, .ref dE, .int 0])), (l2, .inr (2, [.int 0, .ref dE, .int 0]))]) hD hS hA [0, 2, 3] rfl
  refine va_calli (va_runV (As := []) (rest := [.int 7, .ref q1, .ref q1]) ⟨hx, hb, hml, hown, hts⟩ (c_M_allQuarters l dC dI dE h0 l1 l2 H.size) (cwV 0 hts gX10_manyNow_X10_allQuarters rfl rfl rfl (by decide +kernel) ⟨Nat.le_of_ble_eq_true rfl, Nat.le_of_ble_eq_true rfl⟩) ⟨fun a U g mk q => ⟨q.1, PB.blind q.2⟩, va_recv hKc hPc (ci := 13) (q0 := 0) rfl rfl, fun U hU hW => ⟨rfl, PB.call hPc hKc hDc hTb hZ hS hFc hU hW⟩⟩ rfl rfl hl.1 rfl (lv_room (Nat.le_of_ble_eq_true rfl)) dX10_manyNow_172 ⟨Nat.le_of_ble_eq_true rfl, Nat.le_of_ble_eq_true rfl⟩) hS (fun q _ h => hFc q h) hFc (fun r u t H locs ht hvm hw hB hz1 hk1 hS => ?_)
  obtain ⟨hP, hD, hK⟩ := PE.join (wc := [(h0, .inr (13, [.int 0, .int 7, .int 0, .ref l1, .ref l2])), (l1, .inr (2, [.int 0, .ref dE, .int 0])), (l2, .inr (2, [.int 0, .ref dE, .int 0]))]) (wr := [(q1, .inl (cAq1, 8, .inl (upd (upd (upd (upd (upd (upd (upd (fun _ => 0) (Int32.toNatClampNeg 0) 7) (Int32.toNatClampNeg 1) 0) (Int32.toNatClampNeg 2) 0) (Int32.toNatClampNeg 3) 0) (Int32.toNatClampNeg 4) 0) (Int32.toNatClampNeg 5) 0) (Int32.toNatClampNeg 6) 0)))]) (w1 := [(h0, .inr (13, [.int 0, .int 7, .int 0, .ref l1, .ref l2])), (l1, .inr (2, [.int 0, .ref dE, .int 0])), (l2, .inr (2, [.int 0, .ref dE, .int 0]))]) (tr := [(cAq1, .int)]) (t1 := []) hP hD hK [0, 2, 3] [1] [0] rfl rfl rfl (by decide) (by decide) hk1 hFc ht hvm hB
  have hP : va_P (dC, dI) vwCl [(q1, .inl (cAq1, 8, .inl (upd (upd (upd (upd (upd (upd (upd (fun _ => 0) (Int32.toNatClampNeg 0) 7) (Int32.toNatClampNeg 1) 0) (Int32.toNatClampNeg 2) 0) (Int32.toNatClampNeg 3) 0) (Int32.toNatClampNeg 4) 0) (Int32.toNatClampNeg 5) 0) (Int32.toNatClampNeg 6) 0))), (h0, .inr (13, [.int 0, .int 7, .int 0, .ref l1, .ref l2])), (l1, .inr (2, [.int 0, .ref dE, .int 0])), (l2, .inr (2, [.int 0, .ref dE, .int 0]))] H := hP
  have hD : va_D A [(q1, .inl (cAq1, 8, .inl (upd (upd (upd (upd (upd (upd (upd (fun _ => 0) (Int32.toNatClampNeg 0) 7) (Int32.toNatClampNeg 1) 0) (Int32.toNatClampNeg 2) 0) (Int32.toNatClampNeg 3) 0) (Int32.toNatClampNeg 4) 0) (Int32.toNatClampNeg 5) 0) (Int32.toNatClampNeg 6) 0))), (h0, .inr (13, [.int 0, .int 7, .int 0, .ref l1, .ref l2])), (l1, .inr (2, [.int 0, .ref dE, .int 0])), (l2, .inr (2, [.int 0, .ref dE, .int 0]))] := hD
  have hK : va_K (dC, dI) vwCl [(cAq1, .int)] s := hK
  subst hw
  refine lv_iconst (v := 4) hx hb dX10_manyNow_175 (by decide) ?_
  refine lv_idiv hx hb dX10_manyNow_176 (by decide) ?_
  refine lv_topi (fun f2 ef2 => ?_)
  obtain rfl : f2 = 0 := ef2.trans (by decide)
  refine va_iast hx hb hK hP hD hS 0 0 rfl rfl (by unfold vp_in; decide) dX10_manyNow_177 (fun H locs hP hD hS => ?_)
  have hP : va_P (dC, dI) vwCl [(q1, .inl (cAq1, 8, .inl (upd (upd (upd (upd (upd (upd (upd (upd (fun _ => 0) (Int32.toNatClampNeg 0) 7) (Int32.toNatClampNeg 1) 0) (Int32.toNatClampNeg 2) 0) (Int32.toNatClampNeg 3) 0) (Int32.toNatClampNeg 4) 0) (Int32.toNatClampNeg 5) 0) (Int32.toNatClampNeg 6) 0) (Int32.toNatClampNeg 7) 0))), (h0, .inr (13, [.int 0, .int 7, .int 0, .ref l1, .ref l2])), (l1, .inr (2, [.int 0, .ref dE, .int 0])), (l2, .inr (2, [.int 0, .ref dE, .int 0]))] H := hP
  have hD : va_D A [(q1, .inl (cAq1, 8, .inl (upd (upd (upd (upd (upd (upd (upd (upd (fun _ => 0) (Int32.toNatClampNeg 0) 7) (Int32.toNatClampNeg 1) 0) (Int32.toNatClampNeg 2) 0) (Int32.toNatClampNeg 3) 0) (Int32.toNatClampNeg 4) 0) (Int32.toNatClampNeg 5) 0) (Int32.toNatClampNeg 6) 0) (Int32.toNatClampNeg 7) 0))), (h0, .inr (13, [.int 0, .int 7, .int 0, .ref l1, .ref l2])), (l1, .inr (2, [.int 0, .ref dE, .int 0])), (l2, .inr (2, [.int 0, .ref dE, .int 0]))] := hD
  refine lv_astore (lv' := [(5, .ref q1), (4, .int 0), (3, .int 0), (2, .int 0), (0, .ref h0), (1, .int 6)]) hx hb dX10_manyNow_178 hl (by decide) rfl (fun ls hl => ?_)
  refine lv_aload hx hb dX10_manyNow_180 (lv_at hl 0 rfl) ?_
  refine lv_iload_n hx hb dX10_manyNow_182 rfl (lv_at hl 5 rfl) ?_
  refine va_iald hx hb hK hP 0 0 rfl rfl (by unfold vp_in; decide) dX10_manyNow_183 ?_
  refine lv_topi (fun f3 ef3 => ?_)
  obtain rfl : f3 = 0 := ef3.trans (by decide)
  have hP9 := hP.sub (ws' := [(h0, .inr (13, [.int 0, .int 7, .int 0, .ref l1, .ref l2])), (l1, .inr (2, [.int 0, .ref dE, .int 0])), (l2, .inr (2, [.int 0, .ref dE, .int 0]))]) [1, 2, 3] rfl
  have hD9 := hD.sub (ws' := [(h0, .inr (13, [.int 0, .int 7, .int 0, .ref l1, .ref l2])), (l1, .inr (2, [.int 0, .ref dE, .int 0])), (l2, .inr (2, [.int 0, .ref dE, .int 0]))]) [1, 2, 3] (by decide) rfl
  have hK9 := hK.sub (tys' := []) [] rfl
  refine W.widen (k := 1) (n := 8) (Nat.le_of_ble_eq_true rfl) (Nat.le_of_ble_eq_true rfl) ?_
  exact W.iret (v := 0) hx hb hr (fun t ht hW => ⟨⟨_, (), rfl, rfl, PE.mk hP9 hK9 hD9 ht hW⟩, hS.F ht⟩) hS.2.2 dX10_manyNow_184

set_option maxHeartbeats 4000000 in
set_option maxRecDepth 100000 in
/-- c_M_manyNow_7 -/
theorem c_M_manyNow_7 (l : Launch) (dC : Nat → ClassId) (dI : Nat → Nat → Nat) (dE : Nat) (h0 : Nat) (l1 : Nat) (l2 : Nat) (sz : Nat) : Met l yX10_manyNow wsX10_manyNow ({ frames := 2, cells := 1, slots := 8, locals := 42 }) (va_Pc [.ref h0, .int 7] (PB dC dI dE [] [(h0, .inr (13, [.int 0, .int 7, .int 0, .ref l1, .ref l2])), (l1, .inr (2, [.int 0, .ref dE, .int 0])), (l2, .inr (2, [.int 0, .ref dE, .int 0]))] sz)) (va_Qi (fun (r : Int32) (_ : Unit) => r = 0) (fun (_ : Unit) (t : State) => PE dC dI [] [(h0, .inr (13, [.int 0, .int 7, .int 0, .ref l1, .ref l2])), (l1, .inr (2, [.int 0, .ref dE, .int 0])), (l2, .inr (2, [.int 0, .ref dE, .int 0]))] (va_A [(h0, .inr (13, [.int 0, .int 7, .int 0, .ref l1, .ref l2])), (l1, .inr (2, [.int 0, .ref dE, .int 0])), (l2, .inr (2, [.int 0, .ref dE, .int 0]))] sz) t) (va_A [(h0, .inr (13, [.int 0, .int 7, .int 0, .ref l1, .ref l2])), (l1, .inr (2, [.int 0, .ref dE, .int 0])), (l2, .inr (2, [.int 0, .ref dE, .int 0]))] sz)) 1 8 (va_A [(h0, .inr (13, [.int 0, .int 7, .int 0, .ref l1, .ref l2])), (l1, .inr (2, [.int 0, .ref dE, .int 0])), (l2, .inr (2, [.int 0, .ref dE, .int 0]))] sz) := by
  refine Met.ofW (cc := cX10_manyNow) (maxL := 6) (ret := (some .int)) (by decide) rfl ?_
  intro p e s m args below meth c s₁ B hml hv
  obtain ⟨rfl, hsz, hP, hK, hD0, hTb, hZ⟩ := hv
  have hx := B.exec
  have hb := B.bytes
  have hr := B.returns
  have hts := atoms_spec (ws := wsX10_manyNow) B.pre
  have hown : s.vm.findClass RX10 = some m.cls := findClass_of_methodNamed B.named
  have hlocks := B.notSynchronized
  subst hsz
  have hD := hD0.self (sz := s.heap.size)
  generalize hAe : va_A [(h0, .inr (13, [.int 0, .int 7, .int 0, .ref l1, .ref l2])), (l1, .inr (2, [.int 0, .ref dE, .int 0])), (l2, .inr (2, [.int 0, .ref dE, .int 0]))] s.heap.size = A at hD hZ ⊢
  have hA : ∀ q : Nat, s.heap.size ≤ q → A q := fun q h => by rw [← hAe]; exact Or.inr h
  have hS : va_S A s.heap s.heap [] := va_S.rf
  have hP : va_P (dC, dI) vwCl [(h0, .inr (13, [.int 0, .int 7, .int 0, .ref l1, .ref l2])), (l1, .inr (2, [.int 0, .ref dE, .int 0])), (l2, .inr (2, [.int 0, .ref dE, .int 0]))] s.heap := hP
  have hl := lv_entry ([.ref h0, .int 7]) (n := 6) (Nat.le_of_ble_eq_true rfl)
  rw [lg_entry_eq]
  generalize (lg_sl ([.ref h0, .int 7]) ++ List.replicate (6 - (lg_sl ([.ref h0, .int 7])).length) Slot.unset).toArray = ls at hl ⊢
  have hl : lv_has ls 6 [(0, .ref h0), (1, .int 7)] := hl
  obtain ⟨H, eH⟩ : ∃ z, z = s.heap := ⟨_, rfl⟩
  rw [← eH] at hP ⊢
  have hS : va_S A s.heap H [] := by rw [eH]; exact va_S.rf
  refine lv_iconst (v := 0) hx hb dX10_manyNow_0 (by decide) ?_
  refine lv_istore_n (lv' := [(2, .int 0), (0, .ref h0), (1, .int 7)]) hx hb dX10_manyNow_1 rfl hl (by decide) rfl (fun ls hl => ?_)
  refine lv_iconst (v := 0) hx hb dX10_manyNow_2 (by decide) ?_
  refine lv_istore_n (lv' := [(3, .int 0), (2, .int 0), (0, .ref h0), (1, .int 7)]) hx hb dX10_manyNow_3 rfl hl (by decide) rfl (fun ls hl => ?_)
  refine lv_iconst (v := 0) hx hb dX10_manyNow_4 (by decide) ?_
  refine lv_istore (lv' := [(4, .int 0), (3, .int 0), (2, .int 0), (0, .ref h0), (1, .int 7)]) hx hb dX10_manyNow_5 hl (by decide) rfl (fun ls hl => ?_)
  refine lv_iconst (v := 0) hx hb dX10_manyNow_7 (by decide) ?_
  refine lv_istore (lv' := [(5, .int 0), (4, .int 0), (3, .int 0), (2, .int 0), (0, .ref h0), (1, .int 7)]) hx hb dX10_manyNow_8 hl (by decide) rfl (fun ls hl => ?_)
  refine lv_iload hx hb dX10_manyNow_10 (lv_at hl 0 rfl) ?_
  refine lv_aload_n hx hb dX10_manyNow_12 rfl (lv_at hl 4 rfl) ?_
  refine va_get (D := (dC, dI)) (ci := 13) (v := .ref l1) (C := RX10) (T := TX10) (N := 5) hx hb hts (by decide +kernel) hown hK hP 0 rfl rfl 3 (by decide) (hts (.fieldLink RX10 16 "VersorhallModel" "algebras" "Ljava/util/List;") (by decide +kernel)) (fun _ h9 => h9) rfl dX10_manyNow_13 ?_
  have hPc := hP.sub (ws' := [(l1, .inr (2, [.int 0, .ref dE, .int 0]))]) [1] rfl
  have hDc := hD.sub (ws' := [(l1, .inr (2, [.int 0, .ref dE, .int 0]))]) [1] (by decide) rfl
  have hKc := hK.sub (tys' := []) [] rfl
  have hFc := va_free (wc := [(l1, .inr (2, [.int 0, .ref dE, .int 0]))]) hD hS hA [1] rfl
  refine va_callFi (va_runF ((hK.1 2 _ rfl).2) (As := []) (rest := [.int 0]) ⟨hx, hb, hml, hown, hts⟩ (c_List_size l dC dI dE l1 0 dE 0 H.size) (va_cwF 0 hts gX10_manyNow_Jx4a65c_size_8abf5_f30Jx4a65c rfl rfl rfl (Tb_w1 hTb) (by decide +kernel) ⟨Nat.le_of_ble_eq_true rfl, Nat.le_of_ble_eq_true rfl⟩) ⟨fun a U g mk q => ⟨q.1, PB.blind q.2⟩, va_recv hKc hPc (ci := 2) (q0 := 0) rfl rfl, fun U hU hW => ⟨rfl, PB.call hPc hKc hDc hTb hZ hS hFc hU hW⟩⟩ rfl rfl hl.1 rfl (lv_room (Nat.le_of_ble_eq_true rfl)) dX10_manyNow_16 ⟨Nat.le_of_ble_eq_true rfl, Nat.le_of_ble_eq_true rfl⟩) hS (fun q _ h => hFc q h) hFc (fun r u t H locs ht hvm hw hB hz1 hk1 hS => ?_)
  obtain ⟨hP, hD, hK⟩ := PE.join (wc := [(l1, .inr (2, [.int 0, .ref dE, .int 0]))]) (wr := [(h0, .inr (13, [.int 0, .int 7, .int 0, .ref l1, .ref l2])), (l2, .inr (2, [.int 0, .ref dE, .int 0]))]) (w1 := [(l1, .inr (2, [.int 0, .ref dE, .int 0]))]) (tr := []) (t1 := []) hP hD hK [1] [0, 2] [] rfl rfl rfl (by decide) (by decide) hk1 hFc ht hvm hB
  have hP : va_P (dC, dI) vwCl [(h0, .inr (13, [.int 0, .int 7, .int 0, .ref l1, .ref l2])), (l2, .inr (2, [.int 0, .ref dE, .int 0])), (l1, .inr (2, [.int 0, .ref dE, .int 0]))] H := hP
  have hD : va_D A [(h0, .inr (13, [.int 0, .int 7, .int 0, .ref l1, .ref l2])), (l2, .inr (2, [.int 0, .ref dE, .int 0])), (l1, .inr (2, [.int 0, .ref dE, .int 0]))] := hD
  have hK : va_K (dC, dI) vwCl [] s := hK
  subst hw
  refine lv_icmp_ge (tgt := 50) hx hb dX10_manyNow_21 (by decide) (fun _ => ?_) (fun c9 => absurd (by decide) c9)
  refine lv_iconst (v := 0) hx hb dX10_manyNow_50 (by decide) ?_
  refine lv_istore (lv' := [(5, .int 0), (4, .int 0), (3, .int 0), (2, .int 0), (0, .ref h0), (1, .int 7)]) hx hb dX10_manyNow_51 hl (by decide) rfl (fun ls hl => ?_)
  refine lv_iload hx hb dX10_manyNow_53 (lv_at hl 0 rfl) ?_
  refine lv_aload_n hx hb dX10_manyNow_55 rfl (lv_at hl 4 rfl) ?_
  refine va_get (D := (dC, dI)) (ci := 13) (v := .ref l2) (C := RX10) (T := TX10) (N := 5) hx hb hts (by decide +kernel) hown hK hP 0 rfl rfl 4 (by decide) (hts (.fieldLink RX10 20 "VersorhallModel" "elements" "Ljava/util/List;") (by decide +kernel)) (fun _ h9 => h9) rfl dX10_manyNow_56 ?_
  have hPc := hP.sub (ws' := [(l2, .inr (2, [.int 0, .ref dE, .int 0]))]) [1] rfl
  have hDc := hD.sub (ws' := [(l2, .inr (2, [.int 0, .ref dE, .int 0]))]) [1] (by decide) rfl
  have hKc := hK.sub (tys' := []) [] rfl
  have hFc := va_free (wc := [(l2, .inr (2, [.int 0, .ref dE, .int 0]))]) hD hS hA [1] rfl
  refine va_callFi (va_runF ((hK.1 2 _ rfl).2) (As := []) (rest := [.int 0]) ⟨hx, hb, hml, hown, hts⟩ (c_List_size l dC dI dE l2 0 dE 0 H.size) (va_cwF 0 hts gX10_manyNow_Jx4a65c_size_8abf5_f30Jx4a65c rfl rfl rfl (Tb_w1 hTb) (by decide +kernel) ⟨Nat.le_of_ble_eq_true rfl, Nat.le_of_ble_eq_true rfl⟩) ⟨fun a U g mk q => ⟨q.1, PB.blind q.2⟩, va_recv hKc hPc (ci := 2) (q0 := 0) rfl rfl, fun U hU hW => ⟨rfl, PB.call hPc hKc hDc hTb hZ hS hFc hU hW⟩⟩ rfl rfl hl.1 rfl (lv_room (Nat.le_of_ble_eq_true rfl)) dX10_manyNow_59 ⟨Nat.le_of_ble_eq_true rfl, Nat.le_of_ble_eq_true rfl⟩) hS (fun q _ h => hFc q h) hFc (fun r u t H locs ht hvm hw hB hz1 hk1 hS => ?_)
  obtain ⟨hP, hD, hK⟩ := PE.join (wc := [(l2, .inr (2, [.int 0, .ref dE, .int 0]))]) (wr := [(h0, .inr (13, [.int 0, .int 7, .int 0, .ref l1, .ref l2])), (l1, .inr (2, [.int 0, .ref dE, .int 0]))]) (w1 := [(l2, .inr (2, [.int 0, .ref dE, .int 0]))]) (tr := []) (t1 := []) hP hD hK [1] [0, 2] [] rfl rfl rfl (by decide) (by decide) hk1 hFc ht hvm hB
  have hP : va_P (dC, dI) vwCl [(h0, .inr (13, [.int 0, .int 7, .int 0, .ref l1, .ref l2])), (l1, .inr (2, [.int 0, .ref dE, .int 0])), (l2, .inr (2, [.int 0, .ref dE, .int 0]))] H := hP
  have hD : va_D A [(h0, .inr (13, [.int 0, .int 7, .int 0, .ref l1, .ref l2])), (l1, .inr (2, [.int 0, .ref dE, .int 0])), (l2, .inr (2, [.int 0, .ref dE, .int 0]))] := hD
  have hK : va_K (dC, dI) vwCl [] s := hK
  subst hw
  refine lv_icmp_ge (tgt := 112) hx hb dX10_manyNow_64 (by decide) (fun _ => ?_) (fun c9 => absurd (by decide) c9)
  refine lv_bipush (v := 8) hx hb dX10_manyNow_112 (by decide) ?_
  refine va_newa (atype := .int) (ty := .int) (a0 := (8, .inl (fun _ => 0))) (n := 8) (N' := 8) hx hb (hts (.arrayClass .int) (by decide +kernel)) rfl hK hP hD hS hA (fun _ => rfl) (by decide) (by decide) (Nat.le_of_ble_eq_true rfl) (Nat.le_of_ble_eq_true rfl) (Nat.le_of_ble_eq_true rfl) dX10_manyNow_114 (fun q1 cAq1 H hK hP hD hS => ?_)
  have hP : va_P (dC, dI) vwCl [(h0, .inr (13, [.int 0, .int 7, .int 0, .ref l1, .ref l2])), (l1, .inr (2, [.int 0, .ref dE, .int 0])), (l2, .inr (2, [.int 0, .ref dE, .int 0])), (q1, .inl (cAq1, 8, .inl (fun _ => 0)))] H := hP
  have hD : va_D A [(h0, .inr (13, [.int 0, .int 7, .int 0, .ref l1, .ref l2])), (l1, .inr (2, [.int 0, .ref dE, .int 0])), (l2, .inr (2, [.int 0, .ref dE, .int 0])), (q1, .inl (cAq1, 8, .inl (fun _ => 0)))] := hD
  have hK : va_K (dC, dI) vwCl [(cAq1, .int)] s := hK
  refine W.widen (k := 1) (n := 8) (by omega) (by omega) ?_
  refine lv_dup hx hb dX10_manyNow_116 rfl ?_
  refine lv_iconst (v := 0) hx hb dX10_manyNow_117 (by decide) ?_
  refine lv_aload_n hx hb dX10_manyNow_118 rfl (lv_at hl 4 rfl) ?_
  refine va_get (D := (dC, dI)) (ci := 13) (v := .int 7) (C := RX10) (T := TX10) (N := 5) hx hb hts (by decide +kernel) hown hK hP 0 rfl rfl 1 (by decide) (hts (.fieldLink RX10 7 "VersorhallModel" "p" "I") (by decide +kernel)) (fun _ h9 => h9) rfl dX10_manyNow_119 ?_
  refine va_iast hx hb hK hP hD hS 3 0 rfl rfl (by unfold vp_in; decide) dX10_manyNow_122 (fun H locs hP hD hS => ?_)
  have hP : va_P (dC, dI) vwCl [(h0, .inr (13, [.int 0, .int 7, .int 0, .ref l1, .ref l2])), (l1, .inr (2, [.int 0, .ref dE, .int 0])), (l2, .inr (2, [.int 0, .ref dE, .int 0])), (q1, .inl (cAq1, 8, .inl (upd (fun _ => 0) (Int32.toNatClampNeg 0) 7)))] H := hP
  have hD : va_D A [(h0, .inr (13, [.int 0, .int 7, .int 0, .ref l1, .ref l2])), (l1, .inr (2, [.int 0, .ref dE, .int 0])), (l2, .inr (2, [.int 0, .ref dE, .int 0])), (q1, .inl (cAq1, 8, .inl (upd (fun _ => 0) (Int32.toNatClampNeg 0) 7)))] := hD
  refine lv_dup hx hb dX10_manyNow_123 rfl ?_
  refine lv_iconst (v := 1) hx hb dX10_manyNow_124 (by decide) ?_
  refine lv_aload_n hx hb dX10_manyNow_125 rfl (lv_at hl 4 rfl) ?_
  refine va_get (D := (dC, dI)) (ci := 13) (v := .ref l1) (C := RX10) (T := TX10) (N := 5) hx hb hts (by decide +kernel) hown hK hP 0 rfl rfl 3 (by decide) (hts (.fieldLink RX10 16 "VersorhallModel" "algebras" "Ljava/util/List;") (by decide +kernel)) (fun _ h9 => h9) rfl dX10_manyNow_126 ?_
  have hPc := hP.sub (ws' := [(l1, .inr (2, [.int 0, .ref dE, .int 0]))]) [1] rfl
  have hDc := hD.sub (ws' := [(l1, .inr (2, [.int 0, .ref dE, .int 0]))]) [1] (by decide) rfl
  have hKc := hK.sub (tys' := []) [] rfl
  have hFc := va_free (wc := [(l1, .inr (2, [.int 0, .ref dE, .int 0]))]) hD hS hA [1] rfl
  refine va_callFi (va_runF ((hK.1 2 _ rfl).2) (As := []) (rest := [.int 1, .ref q1, .ref q1]) ⟨hx, hb, hml, hown, hts⟩ (c_List_size l dC dI dE l1 0 dE 0 H.size) (va_cwF 0 hts gX10_manyNow_Jx4a65c_size_8abf5_f30Jx4a65c rfl rfl rfl (Tb_w1 hTb) (by decide +kernel) ⟨Nat.le_of_ble_eq_true rfl, Nat.le_of_ble_eq_true rfl⟩) ⟨fun a U g mk q => ⟨q.1, PB.blind q.2⟩, va_recv hKc hPc (ci := 2) (q0 := 0) rfl rfl, fun U hU hW => ⟨rfl, PB.call hPc hKc hDc hTb hZ hS hFc hU hW⟩⟩ rfl rfl hl.1 rfl (lv_room (Nat.le_of_ble_eq_true rfl)) dX10_manyNow_129 ⟨Nat.le_of_ble_eq_true rfl, Nat.le_of_ble_eq_true rfl⟩) hS (fun q _ h => hFc q h) hFc (fun r u t H locs ht hvm hw hB hz1 hk1 hS => ?_)
  obtain ⟨hP, hD, hK⟩ := PE.join (wc := [(l1, .inr (2, [.int 0, .ref dE, .int 0]))]) (wr := [(h0, .inr (13, [.int 0, .int 7, .int 0, .ref l1, .ref l2])), (l2, .inr (2, [.int 0, .ref dE, .int 0])), (q1, .inl (cAq1, 8, .inl (upd (fun _ => 0) (Int32.toNatClampNeg 0) 7)))]) (w1 := [(l1, .inr (2, [.int 0, .ref dE, .int 0]))]) (tr := [(cAq1, .int)]) (t1 := []) hP hD hK [1] [0, 2, 3] [0] rfl rfl rfl (by decide) (by decide) hk1 hFc ht hvm hB
  have hP : va_P (dC, dI) vwCl [(h0, .inr (13, [.int 0, .int 7, .int 0, .ref l1, .ref l2])), (l2, .inr (2, [.int 0, .ref dE, .int 0])), (q1, .inl (cAq1, 8, .inl (upd (fun _ => 0) (Int32.toNatClampNeg 0) 7))), (l1, .inr (2, [.int 0, .ref dE, .int 0]))] H := hP
  have hD : va_D A [(h0, .inr (13, [.int 0, .int 7, .int 0, .ref l1, .ref l2])), (l2, .inr (2, [.int 0, .ref dE, .int 0])), (q1, .inl (cAq1, 8, .inl (upd (fun _ => 0) (Int32.toNatClampNeg 0) 7))), (l1, .inr (2, [.int 0, .ref dE, .int 0]))] := hD
  have hK : va_K (dC, dI) vwCl [(cAq1, .int)] s := hK
  subst hw
  refine va_iast hx hb hK hP hD hS 2 0 rfl rfl (by unfold vp_in; decide) dX10_manyNow_134 (fun H locs hP hD hS => ?_)
  have hP : va_P (dC, dI) vwCl [(h0, .inr (13, [.int 0, .int 7, .int 0, .ref l1, .ref l2])), (l2, .inr (2, [.int 0, .ref dE, .int 0])), (q1, .inl (cAq1, 8, .inl (upd (upd (fun _ => 0) (Int32.toNatClampNeg 0) 7) (Int32.toNatClampNeg 1) 0))), (l1, .inr (2, [.int 0, .ref dE, .int 0]))] H := hP
  have hD : va_D A [(h0, .inr (13, [.int 0, .int 7, .int 0, .ref l1, .ref l2])), (l2, .inr (2, [.int 0, .ref dE, .int 0])), (q1, .inl (cAq1, 8, .inl (upd (upd (fun _ => 0) (Int32.toNatClampNeg 0) 7) (Int32.toNatClampNeg 1) 0))), (l1, .inr (2, [.int 0, .ref dE, .int 0]))] := hD
  refine lv_dup hx hb dX10_manyNow_135 rfl ?_
  refine lv_iconst (v := 2) hx hb dX10_manyNow_136 (by decide) ?_
  refine lv_aload_n hx hb dX10_manyNow_137 rfl (lv_at hl 4 rfl) ?_
  refine va_get (D := (dC, dI)) (ci := 13) (v := .ref l2) (C := RX10) (T := TX10) (N := 5) hx hb hts (by decide +kernel) hown hK hP 0 rfl rfl 4 (by decide) (hts (.fieldLink RX10 20 "VersorhallModel" "elements" "Ljava/util/List;") (by decide +kernel)) (fun _ h9 => h9) rfl dX10_manyNow_138 ?_
  have hPc := hP.sub (ws' := [(l2, .inr (2, [.int 0, .ref dE, .int 0]))]) [1] rfl
  have hDc := hD.sub (ws' := [(l2, .inr (2, [.int 0, .ref dE, .int 0]))]) [1] (by decide) rfl
  have hKc := hK.sub (tys' := []) [] rfl
  have hFc := va_free (wc := [(l2, .inr (2, [.int 0, .ref dE, .int 0]))]) hD hS hA [1] rfl
  refine va_callFi (va_runF ((hK.1 2 _ rfl).2) (As := []) (rest := [.int 2, .ref q1, .ref q1]) ⟨hx, hb, hml, hown, hts⟩ (c_List_size l dC dI dE l2 0 dE 0 H.size) (va_cwF 0 hts gX10_manyNow_Jx4a65c_size_8abf5_f30Jx4a65c rfl rfl rfl (Tb_w1 hTb) (by decide +kernel) ⟨Nat.le_of_ble_eq_true rfl, Nat.le_of_ble_eq_true rfl⟩) ⟨fun a U g mk q => ⟨q.1, PB.blind q.2⟩, va_recv hKc hPc (ci := 2) (q0 := 0) rfl rfl, fun U hU hW => ⟨rfl, PB.call hPc hKc hDc hTb hZ hS hFc hU hW⟩⟩ rfl rfl hl.1 rfl (lv_room (Nat.le_of_ble_eq_true rfl)) dX10_manyNow_141 ⟨Nat.le_of_ble_eq_true rfl, Nat.le_of_ble_eq_true rfl⟩) hS (fun q _ h => hFc q h) hFc (fun r u t H locs ht hvm hw hB hz1 hk1 hS => ?_)
  obtain ⟨hP, hD, hK⟩ := PE.join (wc := [(l2, .inr (2, [.int 0, .ref dE, .int 0]))]) (wr := [(h0, .inr (13, [.int 0, .int 7, .int 0, .ref l1, .ref l2])), (q1, .inl (cAq1, 8, .inl (upd (upd (fun _ => 0) (Int32.toNatClampNeg 0) 7) (Int32.toNatClampNeg 1) 0))), (l1, .inr (2, [.int 0, .ref dE, .int 0]))]) (w1 := [(l2, .inr (2, [.int 0, .ref dE, .int 0]))]) (tr := [(cAq1, .int)]) (t1 := []) hP hD hK [1] [0, 2, 3] [0] rfl rfl rfl (by decide) (by decide) hk1 hFc ht hvm hB
  have hP : va_P (dC, dI) vwCl [(h0, .inr (13, [.int 0, .int 7, .int 0, .ref l1, .ref l2])), (q1, .inl (cAq1, 8, .inl (upd (upd (fun _ => 0) (Int32.toNatClampNeg 0) 7) (Int32.toNatClampNeg 1) 0))), (l1, .inr (2, [.int 0, .ref dE, .int 0])), (l2, .inr (2, [.int 0, .ref dE, .int 0]))] H := hP
  have hD : va_D A [(h0, .inr (13, [.int 0, .int 7, .int 0, .ref l1, .ref l2])), (q1, .inl (cAq1, 8, .inl (upd (upd (fun _ => 0) (Int32.toNatClampNeg 0) 7) (Int32.toNatClampNeg 1) 0))), (l1, .inr (2, [.int 0, .ref dE, .int 0])), (l2, .inr (2, [.int 0, .ref dE, .int 0]))] := hD
  have hK : va_K (dC, dI) vwCl [(cAq1, .int)] s := hK
  subst hw
  refine va_iast hx hb hK hP hD hS 1 0 rfl rfl (by unfold vp_in; decide) dX10_manyNow_146 (fun H locs hP hD hS => ?_)
  have hP : va_P (dC, dI) vwCl [(h0, .inr (13, [.int 0, .int 7, .int 0, .ref l1, .ref l2])), (q1, .inl (cAq1, 8, .inl (upd (upd (upd (fun _ => 0) (Int32.toNatClampNeg 0) 7) (Int32.toNatClampNeg 1) 0) (Int32.toNatClampNeg 2) 0))), (l1, .inr (2, [.int 0, .ref dE, .int 0])), (l2, .inr (2, [.int 0, .ref dE, .int 0]))] H := hP
  have hD : va_D A [(h0, .inr (13, [.int 0, .int 7, .int 0, .ref l1, .ref l2])), (q1, .inl (cAq1, 8, .inl (upd (upd (upd (fun _ => 0) (Int32.toNatClampNeg 0) 7) (Int32.toNatClampNeg 1) 0) (Int32.toNatClampNeg 2) 0))), (l1, .inr (2, [.int 0, .ref dE, .int 0])), (l2, .inr (2, [.int 0, .ref dE, .int 0]))] := hD
  refine lv_dup hx hb dX10_manyNow_147 rfl ?_
  refine lv_iconst (v := 3) hx hb dX10_manyNow_148 (by decide) ?_
  refine lv_iload_n hx hb dX10_manyNow_149 rfl (lv_at hl 3 rfl) ?_
  refine va_iast hx hb hK hP hD hS 1 0 rfl rfl (by unfold vp_in; decide) dX10_manyNow_150 (fun H locs hP hD hS => ?_)
  have hP : va_P (dC, dI) vwCl [(h0, .inr (13, [.int 0, .int 7, .int 0, .ref l1, .ref l2])), (q1, .inl (cAq1, 8, .inl (upd (upd (upd (upd (fun _ => 0) (Int32.toNatClampNeg 0) 7) (Int32.toNatClampNeg 1) 0) (Int32.toNatClampNeg 2) 0) (Int32.toNatClampNeg 3) 0))), (l1, .inr (2, [.int 0, .ref dE, .int 0])), (l2, .inr (2, [.int 0, .ref dE, .int 0]))] H := hP
  have hD : va_D A [(h0, .inr (13, [.int 0, .int 7, .int 0, .ref l1, .ref l2])), (q1, .inl (cAq1, 8, .inl (upd (upd (upd (upd (fun _ => 0) (Int32.toNatClampNeg 0) 7) (Int32.toNatClampNeg 1) 0) (Int32.toNatClampNeg 2) 0) (Int32.toNatClampNeg 3) 0))), (l1, .inr (2, [.int 0, .ref dE, .int 0])), (l2, .inr (2, [.int 0, .ref dE, .int 0]))] := hD
  refine lv_dup hx hb dX10_manyNow_151 rfl ?_
  refine lv_iconst (v := 4) hx hb dX10_manyNow_152 (by decide) ?_
  refine lv_iload_n hx hb dX10_manyNow_153 rfl (lv_at hl 2 rfl) ?_
  refine va_iast hx hb hK hP hD hS 1 0 rfl rfl (by unfold vp_in; decide) dX10_manyNow_154 (fun H locs hP hD hS => ?_)
  have hP : va_P (dC, dI) vwCl [(h0, .inr (13, [.int 0, .int 7, .int 0, .ref l1, .ref l2])), (q1, .inl (cAq1, 8, .inl (upd (upd (upd (upd (upd (fun _ => 0) (Int32.toNatClampNeg 0) 7) (Int32.toNatClampNeg 1) 0) (Int32.toNatClampNeg 2) 0) (Int32.toNatClampNeg 3) 0) (Int32.toNatClampNeg 4) 0))), (l1, .inr (2, [.int 0, .ref dE, .int 0])), (l2, .inr (2, [.int 0, .ref dE, .int 0]))] H := hP
  have hD : va_D A [(h0, .inr (13, [.int 0, .int 7, .int 0, .ref l1, .ref l2])), (q1, .inl (cAq1, 8, .inl (upd (upd (upd (upd (upd (fun _ => 0) (Int32.toNatClampNeg 0) 7) (Int32.toNatClampNeg 1) 0) (Int32.toNatClampNeg 2) 0) (Int32.toNatClampNeg 3) 0) (Int32.toNatClampNeg 4) 0))), (l1, .inr (2, [.int 0, .ref dE, .int 0])), (l2, .inr (2, [.int 0, .ref dE, .int 0]))] := hD
  refine lv_dup hx hb dX10_manyNow_155 rfl ?_
  refine lv_iconst (v := 5) hx hb dX10_manyNow_156 (by decide) ?_
  refine lv_iload hx hb dX10_manyNow_157 (lv_at hl 1 rfl) ?_
  refine va_iast hx hb hK hP hD hS 1 0 rfl rfl (by unfold vp_in; decide) dX10_manyNow_159 (fun H locs hP hD hS => ?_)
  have hP : va_P (dC, dI) vwCl [(h0, .inr (13, [.int 0, .int 7, .int 0, .ref l1, .ref l2])), (q1, .inl (cAq1, 8, .inl (upd (upd (upd (upd (upd (upd (fun _ => 0) (Int32.toNatClampNeg 0) 7) (Int32.toNatClampNeg 1) 0) (Int32.toNatClampNeg 2) 0) (Int32.toNatClampNeg 3) 0) (Int32.toNatClampNeg 4) 0) (Int32.toNatClampNeg 5) 0))), (l1, .inr (2, [.int 0, .ref dE, .int 0])), (l2, .inr (2, [.int 0, .ref dE, .int 0]))] H := hP
  have hD : va_D A [(h0, .inr (13, [.int 0, .int 7, .int 0, .ref l1, .ref l2])), (q1, .inl (cAq1, 8, .inl (upd (upd (upd (upd (upd (upd (fun _ => 0) (Int32.toNatClampNeg 0) 7) (Int32.toNatClampNeg 1) 0) (Int32.toNatClampNeg 2) 0) (Int32.toNatClampNeg 3) 0) (Int32.toNatClampNeg 4) 0) (Int32.toNatClampNeg 5) 0))), (l1, .inr (2, [.int 0, .ref dE, .int 0])), (l2, .inr (2, [.int 0, .ref dE, .int 0]))] := hD
  refine lv_dup hx hb dX10_manyNow_160 rfl ?_
  refine lv_bipush (v := 6) hx hb dX10_manyNow_161 (by decide) ?_
  refine lv_aload_n hx hb dX10_manyNow_163 rfl (lv_at hl 4 rfl) ?_
  refine va_get (D := (dC, dI)) (ci := 13) (v := .int 0) (C := RX10) (T := TX10) (N := 5) hx hb hts (by decide +kernel) hown hK hP 0 rfl rfl 2 (by decide) (hts (.fieldLink RX10 169 "VersorhallModel" "knocks" "I") (by decide +kernel)) (fun _ h9 => h9) rfl dX10_manyNow_164 ?_
  refine va_iast hx hb hK hP hD hS 1 0 rfl rfl (by unfold vp_in; decide) dX10_manyNow_167 (fun H locs hP hD hS => ?_)
  have hP : va_P (dC, dI) vwCl [(h0, .inr (13, [.int 0, .int 7, .int 0, .ref l1, .ref l2])), (q1, .inl (cAq1, 8, .inl (upd (upd (upd (upd (upd (upd (upd (fun _ => 0) (Int32.toNatClampNeg 0) 7) (Int32.toNatClampNeg 1) 0) (Int32.toNatClampNeg 2) 0) (Int32.toNatClampNeg 3) 0) (Int32.toNatClampNeg 4) 0) (Int32.toNatClampNeg 5) 0) (Int32.toNatClampNeg 6) 0))), (l1, .inr (2, [.int 0, .ref dE, .int 0])), (l2, .inr (2, [.int 0, .ref dE, .int 0]))] H := hP
  have hD : va_D A [(h0, .inr (13, [.int 0, .int 7, .int 0, .ref l1, .ref l2])), (q1, .inl (cAq1, 8, .inl (upd (upd (upd (upd (upd (upd (upd (fun _ => 0) (Int32.toNatClampNeg 0) 7) (Int32.toNatClampNeg 1) 0) (Int32.toNatClampNeg 2) 0) (Int32.toNatClampNeg 3) 0) (Int32.toNatClampNeg 4) 0) (Int32.toNatClampNeg 5) 0) (Int32.toNatClampNeg 6) 0))), (l1, .inr (2, [.int 0, .ref dE, .int 0])), (l2, .inr (2, [.int 0, .ref dE, .int 0]))] := hD
  refine lv_dup hx hb dX10_manyNow_168 rfl ?_
  refine lv_bipush (v := 7) hx hb dX10_manyNow_169 (by decide) ?_
  refine lv_aload_n hx hb dX10_manyNow_171 rfl (lv_at hl 4 rfl) ?_
  have hPc := hP.sub (ws' := [(h0, .inr (13, [.int 0, .int 7, .int 0, .ref l1, .ref l2])), (l1, .inr (2, [.int 0, .ref dE, .int 0])), (l2, .inr (2, [.int 0, .ref dE, .int 0]))]) [0, 2, 3] rfl
  have hDc := hD.sub (ws' := [(h0, .inr (13, [.int 0, .int 7, .int 0, .ref l1, .ref l2])), (l1, .inr (2, [.int 0, .ref dE, .int 0])), (l2, .inr (2, [.int 0, .ref dE, .int 0]))]) [0, 2, 3] (by decide) rfl
  have hKc := hK.sub (tys' := []) [] rfl
  have hFc := va_free (wc := [(h0, .inr (13, [.int 0, .int 7, .int 0, .ref l1, .ref l2])), (l1, .inr (2, [.int 0, .ref dE, .int 0])), (l2, .inr (2, [.int 0, .ref dE, .int 0]))]) hD hS hA [0, 2, 3] rfl
  refine va_calli (va_runV (As := []) (rest := [.int 7, .ref q1, .ref q1]) ⟨hx, hb, hml, hown, hts⟩ (c_M_allQuarters l dC dI dE h0 l1 l2 H.size) (cwV 0 hts gX10_manyNow_X10_allQuarters rfl rfl rfl (by decide +kernel) ⟨Nat.le_of_ble_eq_true rfl, Nat.le_of_ble_eq_true rfl⟩) ⟨fun a U g mk q => ⟨q.1, PB.blind q.2⟩, va_recv hKc hPc (ci := 13) (q0 := 0) rfl rfl, fun U hU hW => ⟨rfl, PB.call hPc hKc hDc hTb hZ hS hFc hU hW⟩⟩ rfl rfl hl.1 rfl (lv_room (Nat.le_of_ble_eq_true rfl)) dX10_manyNow_172 ⟨Nat.le_of_ble_eq_true rfl, Nat.le_of_ble_eq_true rfl⟩) hS (fun q _ h => hFc q h) hFc (fun r u t H locs ht hvm hw hB hz1 hk1 hS => ?_)
  obtain ⟨hP, hD, hK⟩ := PE.join (wc := [(h0, .inr (13, [.int 0, .int 7, .int 0, .ref l1, .ref l2])), (l1, .inr (2, [.int 0, .ref dE, .int 0])), (l2, .inr (2, [.int 0, .ref dE, .int 0]))]) (wr := [(q1, .inl (cAq1, 8, .inl (upd (upd (upd (upd (upd (upd (upd (fun _ => 0) (Int32.toNatClampNeg 0) 7) (Int32.toNatClampNeg 1) 0) (Int32.toNatClampNeg 2) 0) (Int32.toNatClampNeg 3) 0) (Int32.toNatClampNeg 4) 0) (Int32.toNatClampNeg 5) 0) (Int32.toNatClampNeg 6) 0)))]) (w1 := [(h0, .inr (13, [.int 0, .int 7, .int 0, .ref l1, .ref l2])), (l1, .inr (2, [.int 0, .ref dE, .int 0])), (l2, .inr (2, [.int 0, .ref dE, .int 0]))]) (tr := [(cAq1, .int)]) (t1 := []) hP hD hK [0, 2, 3] [1] [0] rfl rfl rfl (by decide) (by decide) hk1 hFc ht hvm hB
  have hP : va_P (dC, dI) vwCl [(q1, .inl (cAq1, 8, .inl (upd (upd (upd (upd (upd (upd (upd (fun _ => 0) (Int32.toNatClampNeg 0) 7) (Int32.toNatClampNeg 1) 0) (Int32.toNatClampNeg 2) 0) (Int32.toNatClampNeg 3) 0) (Int32.toNatClampNeg 4) 0) (Int32.toNatClampNeg 5) 0) (Int32.toNatClampNeg 6) 0))), (h0, .inr (13, [.int 0, .int 7, .int 0, .ref l1, .ref l2])), (l1, .inr (2, [.int 0, .ref dE, .int 0])), (l2, .inr (2, [.int 0, .ref dE, .int 0]))] H := hP
  have hD : va_D A [(q1, .inl (cAq1, 8, .inl (upd (upd (upd (upd (upd (upd (upd (fun _ => 0) (Int32.toNatClampNeg 0) 7) (Int32.toNatClampNeg 1) 0) (Int32.toNatClampNeg 2) 0) (Int32.toNatClampNeg 3) 0) (Int32.toNatClampNeg 4) 0) (Int32.toNatClampNeg 5) 0) (Int32.toNatClampNeg 6) 0))), (h0, .inr (13, [.int 0, .int 7, .int 0, .ref l1, .ref l2])), (l1, .inr (2, [.int 0, .ref dE, .int 0])), (l2, .inr (2, [.int 0, .ref dE, .int 0]))] := hD
  have hK : va_K (dC, dI) vwCl [(cAq1, .int)] s := hK
  subst hw
  refine lv_iconst (v := 4) hx hb dX10_manyNow_175 (by decide) ?_
  refine lv_idiv hx hb dX10_manyNow_176 (by decide) ?_
  refine lv_topi (fun f2 ef2 => ?_)
  obtain rfl : f2 = 0 := ef2.trans (by decide)
  refine va_iast hx hb hK hP hD hS 0 0 rfl rfl (by unfold vp_in; decide) dX10_manyNow_177 (fun H locs hP hD hS => ?_)
  have hP : va_P (dC, dI) vwCl [(q1, .inl (cAq1, 8, .inl (upd (upd (upd (upd (upd (upd (upd (upd (fun _ => 0) (Int32.toNatClampNeg 0) 7) (Int32.toNatClampNeg 1) 0) (Int32.toNatClampNeg 2) 0) (Int32.toNatClampNeg 3) 0) (Int32.toNatClampNeg 4) 0) (Int32.toNatClampNeg 5) 0) (Int32.toNatClampNeg 6) 0) (Int32.toNatClampNeg 7) 0))), (h0, .inr (13, [.int 0, .int 7, .int 0, .ref l1, .ref l2])), (l1, .inr (2, [.int 0, .ref dE, .int 0])), (l2, .inr (2, [.int 0, .ref dE, .int 0]))] H := hP
  have hD : va_D A [(q1, .inl (cAq1, 8, .inl (upd (upd (upd (upd (upd (upd (upd (upd (fun _ => 0) (Int32.toNatClampNeg 0) 7) (Int32.toNatClampNeg 1) 0) (Int32.toNatClampNeg 2) 0) (Int32.toNatClampNeg 3) 0) (Int32.toNatClampNeg 4) 0) (Int32.toNatClampNeg 5) 0) (Int32.toNatClampNeg 6) 0) (Int32.toNatClampNeg 7) 0))), (h0, .inr (13, [.int 0, .int 7, .int 0, .ref l1, .ref l2])), (l1, .inr (2, [.int 0, .ref dE, .int 0])), (l2, .inr (2, [.int 0, .ref dE, .int 0]))] := hD
  refine lv_astore (lv' := [(5, .ref q1), (4, .int 0), (3, .int 0), (2, .int 0), (0, .ref h0), (1, .int 7)]) hx hb dX10_manyNow_178 hl (by decide) rfl (fun ls hl => ?_)
  refine lv_aload hx hb dX10_manyNow_180 (lv_at hl 0 rfl) ?_
  refine lv_iload_n hx hb dX10_manyNow_182 rfl (lv_at hl 5 rfl) ?_
  refine va_iald hx hb hK hP 0 0 rfl rfl (by unfold vp_in; decide) dX10_manyNow_183 ?_
  refine lv_topi (fun f3 ef3 => ?_)
  obtain rfl : f3 = 0 := ef3.trans (by decide)
  have hP9 := hP.sub (ws' := [(h0, .inr (13, [.int 0, .int 7, .int 0, .ref l1, .ref l2])), (l1, .inr (2, [.int 0, .ref dE, .int 0])), (l2, .inr (2, [.int 0, .ref dE, .int 0]))]) [1, 2, 3] rfl
  have hD9 := hD.sub (ws' := [(h0, .inr (13, [.int 0, .int 7, .int 0, .ref l1, .ref l2])), (l1, .inr (2, [.int 0, .ref dE, .int 0])), (l2, .inr (2, [.int 0, .ref dE, .int 0]))]) [1, 2, 3] (by decide) rfl
  have hK9 := hK.sub (tys' := []) [] rfl
  refine W.widen (k := 1) (n := 8) (Nat.le_of_ble_eq_true rfl) (Nat.le_of_ble_eq_true rfl) ?_
  exact W.iret (v := 0) hx hb hr (fun t ht hW => ⟨⟨_, (), rfl, rfl, PE.mk hP9 hK9 hD9 ht hW⟩, hS.F ht⟩) hS.2.2 dX10_manyNow_184

set_option maxHeartbeats 4000000 in
set_option maxRecDepth 100000 in
/-- c_M_many_0 -/
theorem c_M_many_0 (l : Launch) (dC : Nat → ClassId) (dI : Nat → Nat → Nat) (dE : Nat) (h0 : Nat) (l1 : Nat) (l2 : Nat) (sz : Nat) : Met l yX10_many wsX10_many ({ frames := 3, cells := 1, slots := 8, locals := 67 }) (va_Pc [.ref h0, .int 0] (PB dC dI dE [] [(h0, .inr (13, [.int 0, .int 7, .int 0, .ref l1, .ref l2])), (l1, .inr (2, [.int 0, .ref dE, .int 0])), (l2, .inr (2, [.int 0, .ref dE, .int 0]))] sz)) (va_Qi (fun (r : Int32) (_ : Unit) => r = 7) (fun (_ : Unit) (t : State) => PE dC dI [] [(h0, .inr (13, [.int 0, .int 7, .int 0, .ref l1, .ref l2])), (l1, .inr (2, [.int 0, .ref dE, .int 0])), (l2, .inr (2, [.int 0, .ref dE, .int 0]))] (va_A [(h0, .inr (13, [.int 0, .int 7, .int 0, .ref l1, .ref l2])), (l1, .inr (2, [.int 0, .ref dE, .int 0])), (l2, .inr (2, [.int 0, .ref dE, .int 0]))] sz) t) (va_A [(h0, .inr (13, [.int 0, .int 7, .int 0, .ref l1, .ref l2])), (l1, .inr (2, [.int 0, .ref dE, .int 0])), (l2, .inr (2, [.int 0, .ref dE, .int 0]))] sz)) 1 8 (va_A [(h0, .inr (13, [.int 0, .int 7, .int 0, .ref l1, .ref l2])), (l1, .inr (2, [.int 0, .ref dE, .int 0])), (l2, .inr (2, [.int 0, .ref dE, .int 0]))] sz) := by
  refine Met.ofW (cc := cX10_many) (maxL := 2) (ret := (some .int)) (by decide) rfl ?_
  intro p e s m args below meth c s₁ B hml hv
  obtain ⟨rfl, hsz, hP, hK, hD0, hTb, hZ⟩ := hv
  have hx := B.exec
  have hb := B.bytes
  have hr := B.returns
  have hts := atoms_spec (ws := wsX10_many) B.pre
  have hown : s.vm.findClass RX10 = some m.cls := findClass_of_methodNamed B.named
  have hlocks := B.notSynchronized
  subst hsz
  have hD := hD0.self (sz := s.heap.size)
  generalize hAe : va_A [(h0, .inr (13, [.int 0, .int 7, .int 0, .ref l1, .ref l2])), (l1, .inr (2, [.int 0, .ref dE, .int 0])), (l2, .inr (2, [.int 0, .ref dE, .int 0]))] s.heap.size = A at hD hZ ⊢
  have hA : ∀ q : Nat, s.heap.size ≤ q → A q := fun q h => by rw [← hAe]; exact Or.inr h
  have hS : va_S A s.heap s.heap [] := va_S.rf
  have hP : va_P (dC, dI) vwCl [(h0, .inr (13, [.int 0, .int 7, .int 0, .ref l1, .ref l2])), (l1, .inr (2, [.int 0, .ref dE, .int 0])), (l2, .inr (2, [.int 0, .ref dE, .int 0]))] s.heap := hP
  have hl := lv_entry ([.ref h0, .int 0]) (n := 2) (Nat.le_of_ble_eq_true rfl)
  rw [lg_entry_eq]
  generalize (lg_sl ([.ref h0, .int 0]) ++ List.replicate (2 - (lg_sl ([.ref h0, .int 0])).length) Slot.unset).toArray = ls at hl ⊢
  have hl : lv_has ls 2 [(0, .ref h0), (1, .int 0)] := hl
  obtain ⟨H, eH⟩ : ∃ z, z = s.heap := ⟨_, rfl⟩
  rw [← eH] at hP ⊢
  have hS : va_S A s.heap H [] := by rw [eH]; exact va_S.rf
  refine lv_aload_n hx hb dX10_many_0 rfl (lv_at hl 0 rfl) ?_
  refine lv_iconst (v := 0) hx hb dX10_many_1 (by decide) ?_
  refine va_put (D := (dC, dI)) (ci := 13) (v := .int 0) (ty := .int) (C := RX10) (T := TX10) (N := 5) hx hb hts (by decide +kernel) tyX10 tyX10_ok nmX10 hown hK hP hD hS 0 rfl rfl 0 (by decide) (hts (.fieldLink RX10 23 "VersorhallModel" "thrown" "I") (by decide +kernel)) (fun _ h9 => h9) rfl (by decide +kernel) rfl rfl (Nat.le_of_ble_eq_true rfl) dX10_many_2 (fun H locs hP hD hS => ?_)
  have hP : va_P (dC, dI) vwCl [(h0, .inr (13, [.int 0, .int 7, .int 0, .ref l1, .ref l2])), (l1, .inr (2, [.int 0, .ref dE, .int 0])), (l2, .inr (2, [.int 0, .ref dE, .int 0]))] H := hP
  have hD : va_D A [(h0, .inr (13, [.int 0, .int 7, .int 0, .ref l1, .ref l2])), (l1, .inr (2, [.int 0, .ref dE, .int 0])), (l2, .inr (2, [.int 0, .ref dE, .int 0]))] := hD
  refine lv_iload_n hx hb dX10_many_5 rfl (lv_at hl 1 rfl) ?_
  refine lv_iconst (v := 0) hx hb dX10_many_6 (by decide) ?_
  refine lv_bipush (v := 7) hx hb dX10_many_7 (by decide) ?_
  have hPc := hP.sub (ws' := []) [] rfl
  have hDc := hD.sub (ws' := []) [] (by decide) rfl
  have hKc := hK.sub (tys' := []) [] rfl
  have hFc := va_free (wc := []) hD hS hA [] rfl
  refine va_calli (va_runS (As := [.int 0, .int 0, .int 7]) (rest := []) ⟨hx, hb, hml, hown, hts⟩ (c_M_in_7_0 l dC dI dE H.size) (va_cwS 3 hts gX10_many_X10_in rfl rfl rfl (by decide +kernel) ⟨Nat.le_of_ble_eq_true rfl, Nat.le_of_ble_eq_true rfl⟩) ⟨fun a U g mk q => ⟨q.1, PB.blind q.2⟩, fun U hU hW => ⟨rfl, PB.call hPc hKc hDc hTb hZ hS hFc hU hW⟩⟩ rfl rfl hl.1 rfl (lv_room (Nat.le_of_ble_eq_true rfl)) dX10_many_9 ⟨Nat.le_of_ble_eq_true rfl, Nat.le_of_ble_eq_true rfl⟩) hS (fun q _ h => hFc q h) hFc (fun r u t H locs ht hvm hw hB hz1 hk1 hS => ?_)
  obtain ⟨hP, hD, hK⟩ := PE.join (wc := []) (wr := [(h0, .inr (13, [.int 0, .int 7, .int 0, .ref l1, .ref l2])), (l1, .inr (2, [.int 0, .ref dE, .int 0])), (l2, .inr (2, [.int 0, .ref dE, .int 0]))]) (w1 := []) (tr := []) (t1 := []) hP hD hK [] [0, 1, 2] [] rfl rfl rfl (by decide) (by decide) hk1 hFc ht hvm hB
  have hP : va_P (dC, dI) vwCl [(h0, .inr (13, [.int 0, .int 7, .int 0, .ref l1, .ref l2])), (l1, .inr (2, [.int 0, .ref dE, .int 0])), (l2, .inr (2, [.int 0, .ref dE, .int 0]))] H := hP
  have hD : va_D A [(h0, .inr (13, [.int 0, .int 7, .int 0, .ref l1, .ref l2])), (l1, .inr (2, [.int 0, .ref dE, .int 0])), (l2, .inr (2, [.int 0, .ref dE, .int 0]))] := hD
  have hK : va_K (dC, dI) vwCl [] s := hK
  subst hw
  refine lv_if_ne (tgt := 21) hx hb dX10_many_12 (by decide) (fun _ => ?_) (fun c9 => absurd c9 (by decide))
  refine lv_aload_n hx hb dX10_many_21 rfl (lv_at hl 0 rfl) ?_
  refine lv_iload_n hx hb dX10_many_22 rfl (lv_at hl 1 rfl) ?_
  have hPc := hP.sub (ws' := [(h0, .inr (13, [.int 0, .int 7, .int 0, .ref l1, .ref l2])), (l1, .inr (2, [.int 0, .ref dE, .int 0])), (l2, .inr (2, [.int 0, .ref dE, .int 0]))]) [0, 1, 2] rfl
  have hDc := hD.sub (ws' := [(h0, .inr (13, [.int 0, .int 7, .int 0, .ref l1, .ref l2])), (l1, .inr (2, [.int 0, .ref dE, .int 0])), (l2, .inr (2, [.int 0, .ref dE, .int 0]))]) [0, 1, 2] (by decide) rfl
  have hKc := hK.sub (tys' := []) [] rfl
  have hFc := va_free (wc := [(h0, .inr (13, [.int 0, .int 7, .int 0, .ref l1, .ref l2])), (l1, .inr (2, [.int 0, .ref dE, .int 0])), (l2, .inr (2, [.int 0, .ref dE, .int 0]))]) hD hS hA [0, 1, 2] rfl
  refine va_calli (va_runV (As := [.int 0]) (rest := []) ⟨hx, hb, hml, hown, hts⟩ (c_M_manyNow_0 l dC dI dE h0 l1 l2 H.size) (cwV 1 hts gX10_many_X10_manyNow rfl rfl rfl (by decide +kernel) ⟨Nat.le_of_ble_eq_true rfl, Nat.le_of_ble_eq_true rfl⟩) ⟨fun a U g mk q => ⟨q.1, PB.blind q.2⟩, va_recv hKc hPc (ci := 13) (q0 := 0) rfl rfl, fun U hU hW => ⟨rfl, PB.call hPc hKc hDc hTb hZ hS hFc hU hW⟩⟩ rfl rfl hl.1 rfl (lv_room (Nat.le_of_ble_eq_true rfl)) dX10_many_23 ⟨Nat.le_of_ble_eq_true rfl, Nat.le_of_ble_eq_true rfl⟩) hS (fun q _ h => hFc q h) hFc (fun r u t H locs ht hvm hw hB hz1 hk1 hS => ?_)
  obtain ⟨hP, hD, hK⟩ := PE.join (wc := [(h0, .inr (13, [.int 0, .int 7, .int 0, .ref l1, .ref l2])), (l1, .inr (2, [.int 0, .ref dE, .int 0])), (l2, .inr (2, [.int 0, .ref dE, .int 0]))]) (wr := []) (w1 := [(h0, .inr (13, [.int 0, .int 7, .int 0, .ref l1, .ref l2])), (l1, .inr (2, [.int 0, .ref dE, .int 0])), (l2, .inr (2, [.int 0, .ref dE, .int 0]))]) (tr := []) (t1 := []) hP hD hK [0, 1, 2] [] [] rfl rfl rfl (by decide) (by decide) hk1 hFc ht hvm hB
  have hP : va_P (dC, dI) vwCl [(h0, .inr (13, [.int 0, .int 7, .int 0, .ref l1, .ref l2])), (l1, .inr (2, [.int 0, .ref dE, .int 0])), (l2, .inr (2, [.int 0, .ref dE, .int 0]))] H := hP
  have hD : va_D A [(h0, .inr (13, [.int 0, .int 7, .int 0, .ref l1, .ref l2])), (l1, .inr (2, [.int 0, .ref dE, .int 0])), (l2, .inr (2, [.int 0, .ref dE, .int 0]))] := hD
  have hK : va_K (dC, dI) vwCl [] s := hK
  subst hw
  refine W.widen (k := 1) (n := 8) (by omega) (by omega) ?_
  have hP9 := hP.sub (ws' := [(h0, .inr (13, [.int 0, .int 7, .int 0, .ref l1, .ref l2])), (l1, .inr (2, [.int 0, .ref dE, .int 0])), (l2, .inr (2, [.int 0, .ref dE, .int 0]))]) [0, 1, 2] rfl
  have hD9 := hD.sub (ws' := [(h0, .inr (13, [.int 0, .int 7, .int 0, .ref l1, .ref l2])), (l1, .inr (2, [.int 0, .ref dE, .int 0])), (l2, .inr (2, [.int 0, .ref dE, .int 0]))]) [0, 1, 2] (by decide) rfl
  have hK9 := hK.sub (tys' := []) [] rfl
  refine W.widen (k := 1) (n := 8) (Nat.le_of_ble_eq_true rfl) (Nat.le_of_ble_eq_true rfl) ?_
  exact W.iret (v := 7) hx hb hr (fun t ht hW => ⟨⟨_, (), rfl, rfl, PE.mk hP9 hK9 hD9 ht hW⟩, hS.F ht⟩) hS.2.2 dX10_many_26

set_option maxHeartbeats 4000000 in
set_option maxRecDepth 100000 in
/-- c_M_many_1 -/
theorem c_M_many_1 (l : Launch) (dC : Nat → ClassId) (dI : Nat → Nat → Nat) (dE : Nat) (h0 : Nat) (l1 : Nat) (l2 : Nat) (sz : Nat) : Met l yX10_many wsX10_many ({ frames := 3, cells := 1, slots := 8, locals := 67 }) (va_Pc [.ref h0, .int 1] (PB dC dI dE [] [(h0, .inr (13, [.int 0, .int 7, .int 0, .ref l1, .ref l2])), (l1, .inr (2, [.int 0, .ref dE, .int 0])), (l2, .inr (2, [.int 0, .ref dE, .int 0]))] sz)) (va_Qi (fun (r : Int32) (_ : Unit) => r = 0) (fun (_ : Unit) (t : State) => PE dC dI [] [(h0, .inr (13, [.int 0, .int 7, .int 0, .ref l1, .ref l2])), (l1, .inr (2, [.int 0, .ref dE, .int 0])), (l2, .inr (2, [.int 0, .ref dE, .int 0]))] (va_A [(h0, .inr (13, [.int 0, .int 7, .int 0, .ref l1, .ref l2])), (l1, .inr (2, [.int 0, .ref dE, .int 0])), (l2, .inr (2, [.int 0, .ref dE, .int 0]))] sz) t) (va_A [(h0, .inr (13, [.int 0, .int 7, .int 0, .ref l1, .ref l2])), (l1, .inr (2, [.int 0, .ref dE, .int 0])), (l2, .inr (2, [.int 0, .ref dE, .int 0]))] sz)) 1 8 (va_A [(h0, .inr (13, [.int 0, .int 7, .int 0, .ref l1, .ref l2])), (l1, .inr (2, [.int 0, .ref dE, .int 0])), (l2, .inr (2, [.int 0, .ref dE, .int 0]))] sz) := by
  refine Met.ofW (cc := cX10_many) (maxL := 2) (ret := (some .int)) (by decide) rfl ?_
  intro p e s m args below meth c s₁ B hml hv
  obtain ⟨rfl, hsz, hP, hK, hD0, hTb, hZ⟩ := hv
  have hx := B.exec
  have hb := B.bytes
  have hr := B.returns
  have hts := atoms_spec (ws := wsX10_many) B.pre
  have hown : s.vm.findClass RX10 = some m.cls := findClass_of_methodNamed B.named
  have hlocks := B.notSynchronized
  subst hsz
  have hD := hD0.self (sz := s.heap.size)
  generalize hAe : va_A [(h0, .inr (13, [.int 0, .int 7, .int 0, .ref l1, .ref l2])), (l1, .inr (2, [.int 0, .ref dE, .int 0])), (l2, .inr (2, [.int 0, .ref dE, .int 0]))] s.heap.size = A at hD hZ ⊢
  have hA : ∀ q : Nat, s.heap.size ≤ q → A q := fun q h => by rw [← hAe]; exact Or.inr h
  have hS : va_S A s.heap s.heap [] := va_S.rf
  have hP : va_P (dC, dI) vwCl [(h0, .inr (13, [.int 0, .int 7, .int 0, .ref l1, .ref l2])), (l1, .inr (2, [.int 0, .ref dE, .int 0])), (l2, .inr (2, [.int 0, .ref dE, .int 0]))] s.heap := hP
  have hl := lv_entry ([.ref h0, .int 1]) (n := 2) (Nat.le_of_ble_eq_true rfl)
  rw [lg_entry_eq]
  generalize (lg_sl ([.ref h0, .int 1]) ++ List.replicate (2 - (lg_sl ([.ref h0, .int 1])).length) Slot.unset).toArray = ls at hl ⊢
  have hl : lv_has ls 2 [(0, .ref h0), (1, .int 1)] := hl
  obtain ⟨H, eH⟩ : ∃ z, z = s.heap := ⟨_, rfl⟩
  rw [← eH] at hP ⊢
  have hS : va_S A s.heap H [] := by rw [eH]; exact va_S.rf
  refine lv_aload_n hx hb dX10_many_0 rfl (lv_at hl 0 rfl) ?_
  refine lv_iconst (v := 0) hx hb dX10_many_1 (by decide) ?_
  refine va_put (D := (dC, dI)) (ci := 13) (v := .int 0) (ty := .int) (C := RX10) (T := TX10) (N := 5) hx hb hts (by decide +kernel) tyX10 tyX10_ok nmX10 hown hK hP hD hS 0 rfl rfl 0 (by decide) (hts (.fieldLink RX10 23 "VersorhallModel" "thrown" "I") (by decide +kernel)) (fun _ h9 => h9) rfl (by decide +kernel) rfl rfl (Nat.le_of_ble_eq_true rfl) dX10_many_2 (fun H locs hP hD hS => ?_)
  have hP : va_P (dC, dI) vwCl [(h0, .inr (13, [.int 0, .int 7, .int 0, .ref l1, .ref l2])), (l1, .inr (2, [.int 0, .ref dE, .int 0])), (l2, .inr (2, [.int 0, .ref dE, .int 0]))] H := hP
  have hD : va_D A [(h0, .inr (13, [.int 0, .int 7, .int 0, .ref l1, .ref l2])), (l1, .inr (2, [.int 0, .ref dE, .int 0])), (l2, .inr (2, [.int 0, .ref dE, .int 0]))] := hD
  refine lv_iload_n hx hb dX10_many_5 rfl (lv_at hl 1 rfl) ?_
  refine lv_iconst (v := 0) hx hb dX10_many_6 (by decide) ?_
  refine lv_bipush (v := 7) hx hb dX10_many_7 (by decide) ?_
  have hPc := hP.sub (ws' := []) [] rfl
  have hDc := hD.sub (ws' := []) [] (by decide) rfl
  have hKc := hK.sub (tys' := []) [] rfl
  have hFc := va_free (wc := []) hD hS hA [] rfl
  refine va_calli (va_runS (As := [.int 1, .int 0, .int 7]) (rest := []) ⟨hx, hb, hml, hown, hts⟩ (c_M_in_7_1 l dC dI dE H.size) (va_cwS 3 hts gX10_many_X10_in rfl rfl rfl (by decide +kernel) ⟨Nat.le_of_ble_eq_true rfl, Nat.le_of_ble_eq_true rfl⟩) ⟨fun a U g mk q => ⟨q.1, PB.blind q.2⟩, fun U hU hW => ⟨rfl, PB.call hPc hKc hDc hTb hZ hS hFc hU hW⟩⟩ rfl rfl hl.1 rfl (lv_room (Nat.le_of_ble_eq_true rfl)) dX10_many_9 ⟨Nat.le_of_ble_eq_true rfl, Nat.le_of_ble_eq_true rfl⟩) hS (fun q _ h => hFc q h) hFc (fun r u t H locs ht hvm hw hB hz1 hk1 hS => ?_)
  obtain ⟨hP, hD, hK⟩ := PE.join (wc := []) (wr := [(h0, .inr (13, [.int 0, .int 7, .int 0, .ref l1, .ref l2])), (l1, .inr (2, [.int 0, .ref dE, .int 0])), (l2, .inr (2, [.int 0, .ref dE, .int 0]))]) (w1 := []) (tr := []) (t1 := []) hP hD hK [] [0, 1, 2] [] rfl rfl rfl (by decide) (by decide) hk1 hFc ht hvm hB
  have hP : va_P (dC, dI) vwCl [(h0, .inr (13, [.int 0, .int 7, .int 0, .ref l1, .ref l2])), (l1, .inr (2, [.int 0, .ref dE, .int 0])), (l2, .inr (2, [.int 0, .ref dE, .int 0]))] H := hP
  have hD : va_D A [(h0, .inr (13, [.int 0, .int 7, .int 0, .ref l1, .ref l2])), (l1, .inr (2, [.int 0, .ref dE, .int 0])), (l2, .inr (2, [.int 0, .ref dE, .int 0]))] := hD
  have hK : va_K (dC, dI) vwCl [] s := hK
  subst hw
  refine lv_if_ne (tgt := 21) hx hb dX10_many_12 (by decide) (fun _ => ?_) (fun c9 => absurd c9 (by decide))
  refine lv_aload_n hx hb dX10_many_21 rfl (lv_at hl 0 rfl) ?_
  refine lv_iload_n hx hb dX10_many_22 rfl (lv_at hl 1 rfl) ?_
  have hPc := hP.sub (ws' := [(h0, .inr (13, [.int 0, .int 7, .int 0, .ref l1, .ref l2])), (l1, .inr (2, [.int 0, .ref dE, .int 0])), (l2, .inr (2, [.int 0, .ref dE, .int 0]))]) [0, 1, 2] rfl
  have hDc := hD.sub (ws' := [(h0, .inr (13, [.int 0, .int 7, .int 0, .ref l1, .ref l2])), (l1, .inr (2, [.int 0, .ref dE, .int 0])), (l2, .inr (2, [.int 0, .ref dE, .int 0]))]) [0, 1, 2] (by decide) rfl
  have hKc := hK.sub (tys' := []) [] rfl
  have hFc := va_free (wc := [(h0, .inr (13, [.int 0, .int 7, .int 0, .ref l1, .ref l2])), (l1, .inr (2, [.int 0, .ref dE, .int 0])), (l2, .inr (2, [.int 0, .ref dE, .int 0]))]) hD hS hA [0, 1, 2] rfl
  refine va_calli (va_runV (As := [.int 1]) (rest := []) ⟨hx, hb, hml, hown, hts⟩ (c_M_manyNow_1 l dC dI dE h0 l1 l2 H.size) (cwV 1 hts gX10_many_X10_manyNow rfl rfl rfl (by decide +kernel) ⟨Nat.le_of_ble_eq_true rfl, Nat.le_of_ble_eq_true rfl⟩) ⟨fun a U g mk q => ⟨q.1, PB.blind q.2⟩, va_recv hKc hPc (ci := 13) (q0 := 0) rfl rfl, fun U hU hW => ⟨rfl, PB.call hPc hKc hDc hTb hZ hS hFc hU hW⟩⟩ rfl rfl hl.1 rfl (lv_room (Nat.le_of_ble_eq_true rfl)) dX10_many_23 ⟨Nat.le_of_ble_eq_true rfl, Nat.le_of_ble_eq_true rfl⟩) hS (fun q _ h => hFc q h) hFc (fun r u t H locs ht hvm hw hB hz1 hk1 hS => ?_)
  obtain ⟨hP, hD, hK⟩ := PE.join (wc := [(h0, .inr (13, [.int 0, .int 7, .int 0, .ref l1, .ref l2])), (l1, .inr (2, [.int 0, .ref dE, .int 0])), (l2, .inr (2, [.int 0, .ref dE, .int 0]))]) (wr := []) (w1 := [(h0, .inr (13, [.int 0, .int 7, .int 0, .ref l1, .ref l2])), (l1, .inr (2, [.int 0, .ref dE, .int 0])), (l2, .inr (2, [.int 0, .ref dE, .int 0]))]) (tr := []) (t1 := []) hP hD hK [0, 1, 2] [] [] rfl rfl rfl (by decide) (by decide) hk1 hFc ht hvm hB
  have hP : va_P (dC, dI) vwCl [(h0, .inr (13, [.int 0, .int 7, .int 0, .ref l1, .ref l2])), (l1, .inr (2, [.int 0, .ref dE, .int 0])), (l2, .inr (2, [.int 0, .ref dE, .int 0]))] H := hP
  have hD : va_D A [(h0, .inr (13, [.int 0, .int 7, .int 0, .ref l1, .ref l2])), (l1, .inr (2, [.int 0, .ref dE, .int 0])), (l2, .inr (2, [.int 0, .ref dE, .int 0]))] := hD
  have hK : va_K (dC, dI) vwCl [] s := hK
  subst hw
  refine W.widen (k := 1) (n := 8) (by omega) (by omega) ?_
  have hP9 := hP.sub (ws' := [(h0, .inr (13, [.int 0, .int 7, .int 0, .ref l1, .ref l2])), (l1, .inr (2, [.int 0, .ref dE, .int 0])), (l2, .inr (2, [.int 0, .ref dE, .int 0]))]) [0, 1, 2] rfl
  have hD9 := hD.sub (ws' := [(h0, .inr (13, [.int 0, .int 7, .int 0, .ref l1, .ref l2])), (l1, .inr (2, [.int 0, .ref dE, .int 0])), (l2, .inr (2, [.int 0, .ref dE, .int 0]))]) [0, 1, 2] (by decide) rfl
  have hK9 := hK.sub (tys' := []) [] rfl
  refine W.widen (k := 1) (n := 8) (Nat.le_of_ble_eq_true rfl) (Nat.le_of_ble_eq_true rfl) ?_
  exact W.iret (v := 0) hx hb hr (fun t ht hW => ⟨⟨_, (), rfl, rfl, PE.mk hP9 hK9 hD9 ht hW⟩, hS.F ht⟩) hS.2.2 dX10_many_26

set_option maxHeartbeats 4000000 in
set_option maxRecDepth 100000 in
/-- c_M_many_2 -/
theorem c_M_many_2 (l : Launch) (dC : Nat → ClassId) (dI : Nat → Nat → Nat) (dE : Nat) (h0 : Nat) (l1 : Nat) (l2 : Nat) (sz : Nat) : Met l yX10_many wsX10_many ({ frames := 3, cells := 1, slots := 8, locals := 67 }) (va_Pc [.ref h0, .int 2] (PB dC dI dE [] [(h0, .inr (13, [.int 0, .int 7, .int 0, .ref l1, .ref l2])), (l1, .inr (2, [.int 0, .ref dE, .int 0])), (l2, .inr (2, [.int 0, .ref dE, .int 0]))] sz)) (va_Qi (fun (r : Int32) (_ : Unit) => r = 0) (fun (_ : Unit) (t : State) => PE dC dI [] [(h0, .inr (13, [.int 0, .int 7, .int 0, .ref l1, .ref l2])), (l1, .inr (2, [.int 0, .ref dE, .int 0])), (l2, .inr (2, [.int 0, .ref dE, .int 0]))] (va_A [(h0, .inr (13, [.int 0, .int 7, .int 0, .ref l1, .ref l2])), (l1, .inr (2, [.int 0, .ref dE, .int 0])), (l2, .inr (2, [.int 0, .ref dE, .int 0]))] sz) t) (va_A [(h0, .inr (13, [.int 0, .int 7, .int 0, .ref l1, .ref l2])), (l1, .inr (2, [.int 0, .ref dE, .int 0])), (l2, .inr (2, [.int 0, .ref dE, .int 0]))] sz)) 1 8 (va_A [(h0, .inr (13, [.int 0, .int 7, .int 0, .ref l1, .ref l2])), (l1, .inr (2, [.int 0, .ref dE, .int 0])), (l2, .inr (2, [.int 0, .ref dE, .int 0]))] sz) := by
  refine Met.ofW (cc := cX10_many) (maxL := 2) (ret := (some .int)) (by decide) rfl ?_
  intro p e s m args below meth c s₁ B hml hv
  obtain ⟨rfl, hsz, hP, hK, hD0, hTb, hZ⟩ := hv
  have hx := B.exec
  have hb := B.bytes
  have hr := B.returns
  have hts := atoms_spec (ws := wsX10_many) B.pre
  have hown : s.vm.findClass RX10 = some m.cls := findClass_of_methodNamed B.named
  have hlocks := B.notSynchronized
  subst hsz
  have hD := hD0.self (sz := s.heap.size)
  generalize hAe : va_A [(h0, .inr (13, [.int 0, .int 7, .int 0, .ref l1, .ref l2])), (l1, .inr (2, [.int 0, .ref dE, .int 0])), (l2, .inr (2, [.int 0, .ref dE, .int 0]))] s.heap.size = A at hD hZ ⊢
  have hA : ∀ q : Nat, s.heap.size ≤ q → A q := fun q h => by rw [← hAe]; exact Or.inr h
  have hS : va_S A s.heap s.heap [] := va_S.rf
  have hP : va_P (dC, dI) vwCl [(h0, .inr (13, [.int 0, .int 7, .int 0, .ref l1, .ref l2])), (l1, .inr (2, [.int 0, .ref dE, .int 0])), (l2, .inr (2, [.int 0, .ref dE, .int 0]))] s.heap := hP
  have hl := lv_entry ([.ref h0, .int 2]) (n := 2) (Nat.le_of_ble_eq_true rfl)
  rw [lg_entry_eq]
  generalize (lg_sl ([.ref h0, .int 2]) ++ List.replicate (2 - (lg_sl ([.ref h0, .int 2])).length) Slot.unset).toArray = ls at hl ⊢
  have hl : lv_has ls 2 [(0, .ref h0), (1, .int 2)] := hl
  obtain ⟨H, eH⟩ : ∃ z, z = s.heap := ⟨_, rfl⟩
  rw [← eH] at hP ⊢
  have hS : va_S A s.heap H [] := by rw [eH]; exact va_S.rf
  refine lv_aload_n hx hb dX10_many_0 rfl (lv_at hl 0 rfl) ?_
  refine lv_iconst (v := 0) hx hb dX10_many_1 (by decide) ?_
  refine va_put (D := (dC, dI)) (ci := 13) (v := .int 0) (ty := .int) (C := RX10) (T := TX10) (N := 5) hx hb hts (by decide +kernel) tyX10 tyX10_ok nmX10 hown hK hP hD hS 0 rfl rfl 0 (by decide) (hts (.fieldLink RX10 23 "VersorhallModel" "thrown" "I") (by decide +kernel)) (fun _ h9 => h9) rfl (by decide +kernel) rfl rfl (Nat.le_of_ble_eq_true rfl) dX10_many_2 (fun H locs hP hD hS => ?_)
  have hP : va_P (dC, dI) vwCl [(h0, .inr (13, [.int 0, .int 7, .int 0, .ref l1, .ref l2])), (l1, .inr (2, [.int 0, .ref dE, .int 0])), (l2, .inr (2, [.int 0, .ref dE, .int 0]))] H := hP
  have hD : va_D A [(h0, .inr (13, [.int 0, .int 7, .int 0, .ref l1, .ref l2])), (l1, .inr (2, [.int 0, .ref dE, .int 0])), (l2, .inr (2, [.int 0, .ref dE, .int 0]))] := hD
  refine lv_iload_n hx hb dX10_many_5 rfl (lv_at hl 1 rfl) ?_
  refine lv_iconst (v := 0) hx hb dX10_many_6 (by decide) ?_
  refine lv_bipush (v := 7) hx hb dX10_many_7 (by decide) ?_
  have hPc := hP.sub (ws' := []) [] rfl
  have hDc := hD.sub (ws' := []) [] (by decide) rfl
  have hKc := hK.sub (tys' := []) [] rfl
  have hFc := va_free (wc := []) hD hS hA [] rfl
  refine va_calli (va_runS (As := [.int 2, .int 0, .int 7]) (rest := []) ⟨hx, hb, hml, hown, hts⟩ (c_M_in_7_2 l dC dI dE H.size) (va_cwS 3 hts gX10_many_X10_in rfl rfl rfl (by decide +kernel) ⟨Nat.le_of_ble_eq_true rfl, Nat.le_of_ble_eq_true rfl⟩) ⟨fun a U g mk q => ⟨q.1, PB.blind q.2⟩, fun U hU hW => ⟨rfl, PB.call hPc hKc hDc hTb hZ hS hFc hU hW⟩⟩ rfl rfl hl.1 rfl (lv_room (Nat.le_of_ble_eq_true rfl)) dX10_many_9 ⟨Nat.le_of_ble_eq_true rfl, Nat.le_of_ble_eq_true rfl⟩) hS (fun q _ h => hFc q h) hFc (fun r u t H locs ht hvm hw hB hz1 hk1 hS => ?_)
  obtain ⟨hP, hD, hK⟩ := PE.join (wc := []) (wr := [(h0, .inr (13, [.int 0, .int 7, .int 0, .ref l1, .ref l2])), (l1, .inr (2, [.int 0, .ref dE, .int 0])), (l2, .inr (2, [.int 0, .ref dE, .int 0]))]) (w1 := []) (tr := []) (t1 := []) hP hD hK [] [0, 1, 2] [] rfl rfl rfl (by decide) (by decide) hk1 hFc ht hvm hB
  have hP : va_P (dC, dI) vwCl [(h0, .inr (13, [.int 0, .int 7, .int 0, .ref l1, .ref l2])), (l1, .inr (2, [.int 0, .ref dE, .int 0])), (l2, .inr (2, [.int 0, .ref dE, .int 0]))] H := hP
  have hD : va_D A [(h0, .inr (13, [.int 0, .int 7, .int 0, .ref l1, .ref l2])), (l1, .inr (2, [.int 0, .ref dE, .int 0])), (l2, .inr (2, [.int 0, .ref dE, .int 0]))] := hD
  have hK : va_K (dC, dI) vwCl [] s := hK
  subst hw
  refine lv_if_ne (tgt := 21) hx hb dX10_many_12 (by decide) (fun _ => ?_) (fun c9 => absurd c9 (by decide))
  refine lv_aload_n hx hb dX10_many_21 rfl (lv_at hl 0 rfl) ?_
  refine lv_iload_n hx hb dX10_many_22 rfl (lv_at hl 1 rfl) ?_
  have hPc := hP.sub (ws' := [(h0, .inr (13, [.int 0, .int 7, .int 0, .ref l1, .ref l2])), (l1, .inr (2, [.int 0, .ref dE, .int 0])), (l2, .inr (2, [.int 0, .ref dE, .int 0]))]) [0, 1, 2] rfl
  have hDc := hD.sub (ws' := [(h0, .inr (13, [.int 0, .int 7, .int 0, .ref l1, .ref l2])), (l1, .inr (2, [.int 0, .ref dE, .int 0])), (l2, .inr (2, [.int 0, .ref dE, .int 0]))]) [0, 1, 2] (by decide) rfl
  have hKc := hK.sub (tys' := []) [] rfl
  have hFc := va_free (wc := [(h0, .inr (13, [.int 0, .int 7, .int 0, .ref l1, .ref l2])), (l1, .inr (2, [.int 0, .ref dE, .int 0])), (l2, .inr (2, [.int 0, .ref dE, .int 0]))]) hD hS hA [0, 1, 2] rfl
  refine va_calli (va_runV (As := [.int 2]) (rest := []) ⟨hx, hb, hml, hown, hts⟩ (c_M_manyNow_2 l dC dI dE h0 l1 l2 H.size) (cwV 1 hts gX10_many_X10_manyNow rfl rfl rfl (by decide +kernel) ⟨Nat.le_of_ble_eq_true rfl, Nat.le_of_ble_eq_true rfl⟩) ⟨fun a U g mk q => ⟨q.1, PB.blind q.2⟩, va_recv hKc hPc (ci := 13) (q0 := 0) rfl rfl, fun U hU hW => ⟨rfl, PB.call hPc hKc hDc hTb hZ hS hFc hU hW⟩⟩ rfl rfl hl.1 rfl (lv_room (Nat.le_of_ble_eq_true rfl)) dX10_many_23 ⟨Nat.le_of_ble_eq_true rfl, Nat.le_of_ble_eq_true rfl⟩) hS (fun q _ h => hFc q h) hFc (fun r u t H locs ht hvm hw hB hz1 hk1 hS => ?_)
  obtain ⟨hP, hD, hK⟩ := PE.join (wc := [(h0, .inr (13, [.int 0, .int 7, .int 0, .ref l1, .ref l2])), (l1, .inr (2, [.int 0, .ref dE, .int 0])), (l2, .inr (2, [.int 0, .ref dE, .int 0]))]) (wr := []) (w1 := [(h0, .inr (13, [.int 0, .int 7, .int 0, .ref l1, .ref l2])), (l1, .inr (2, [.int 0, .ref dE, .int 0])), (l2, .inr (2, [.int 0, .ref dE, .int 0]))]) (tr := []) (t1 := []) hP hD hK [0, 1, 2] [] [] rfl rfl rfl (by decide) (by decide) hk1 hFc ht hvm hB
  have hP : va_P (dC, dI) vwCl [(h0, .inr (13, [.int 0, .int 7, .int 0, .ref l1, .ref l2])), (l1, .inr (2, [.int 0, .ref dE, .int 0])), (l2, .inr (2, [.int 0, .ref dE, .int 0]))] H := hP
  have hD : va_D A [(h0, .inr (13, [.int 0, .int 7, .int 0, .ref l1, .ref l2])), (l1, .inr (2, [.int 0, .ref dE, .int 0])), (l2, .inr (2, [.int 0, .ref dE, .int 0]))] := hD
  have hK : va_K (dC, dI) vwCl [] s := hK
  subst hw
  refine W.widen (k := 1) (n := 8) (by omega) (by omega) ?_
  have hP9 := hP.sub (ws' := [(h0, .inr (13, [.int 0, .int 7, .int 0, .ref l1, .ref l2])), (l1, .inr (2, [.int 0, .ref dE, .int 0])), (l2, .inr (2, [.int 0, .ref dE, .int 0]))]) [0, 1, 2] rfl
  have hD9 := hD.sub (ws' := [(h0, .inr (13, [.int 0, .int 7, .int 0, .ref l1, .ref l2])), (l1, .inr (2, [.int 0, .ref dE, .int 0])), (l2, .inr (2, [.int 0, .ref dE, .int 0]))]) [0, 1, 2] (by decide) rfl
  have hK9 := hK.sub (tys' := []) [] rfl
  refine W.widen (k := 1) (n := 8) (Nat.le_of_ble_eq_true rfl) (Nat.le_of_ble_eq_true rfl) ?_
  exact W.iret (v := 0) hx hb hr (fun t ht hW => ⟨⟨_, (), rfl, rfl, PE.mk hP9 hK9 hD9 ht hW⟩, hS.F ht⟩) hS.2.2 dX10_many_26

set_option maxHeartbeats 4000000 in
set_option maxRecDepth 100000 in
/-- c_M_many_3 -/
theorem c_M_many_3 (l : Launch) (dC : Nat → ClassId) (dI : Nat → Nat → Nat) (dE : Nat) (h0 : Nat) (l1 : Nat) (l2 : Nat) (sz : Nat) : Met l yX10_many wsX10_many ({ frames := 3, cells := 1, slots := 8, locals := 67 }) (va_Pc [.ref h0, .int 3] (PB dC dI dE [] [(h0, .inr (13, [.int 0, .int 7, .int 0, .ref l1, .ref l2])), (l1, .inr (2, [.int 0, .ref dE, .int 0])), (l2, .inr (2, [.int 0, .ref dE, .int 0]))] sz)) (va_Qi (fun (r : Int32) (_ : Unit) => r = 0) (fun (_ : Unit) (t : State) => PE dC dI [] [(h0, .inr (13, [.int 0, .int 7, .int 0, .ref l1, .ref l2])), (l1, .inr (2, [.int 0, .ref dE, .int 0])), (l2, .inr (2, [.int 0, .ref dE, .int 0]))] (va_A [(h0, .inr (13, [.int 0, .int 7, .int 0, .ref l1, .ref l2])), (l1, .inr (2, [.int 0, .ref dE, .int 0])), (l2, .inr (2, [.int 0, .ref dE, .int 0]))] sz) t) (va_A [(h0, .inr (13, [.int 0, .int 7, .int 0, .ref l1, .ref l2])), (l1, .inr (2, [.int 0, .ref dE, .int 0])), (l2, .inr (2, [.int 0, .ref dE, .int 0]))] sz)) 1 8 (va_A [(h0, .inr (13, [.int 0, .int 7, .int 0, .ref l1, .ref l2])), (l1, .inr (2, [.int 0, .ref dE, .int 0])), (l2, .inr (2, [.int 0, .ref dE, .int 0]))] sz) := by
  refine Met.ofW (cc := cX10_many) (maxL := 2) (ret := (some .int)) (by decide) rfl ?_
  intro p e s m args below meth c s₁ B hml hv
  obtain ⟨rfl, hsz, hP, hK, hD0, hTb, hZ⟩ := hv
  have hx := B.exec
  have hb := B.bytes
  have hr := B.returns
  have hts := atoms_spec (ws := wsX10_many) B.pre
  have hown : s.vm.findClass RX10 = some m.cls := findClass_of_methodNamed B.named
  have hlocks := B.notSynchronized
  subst hsz
  have hD := hD0.self (sz := s.heap.size)
  generalize hAe : va_A [(h0, .inr (13, [.int 0, .int 7, .int 0, .ref l1, .ref l2])), (l1, .inr (2, [.int 0, .ref dE, .int 0])), (l2, .inr (2, [.int 0, .ref dE, .int 0]))] s.heap.size = A at hD hZ ⊢
  have hA : ∀ q : Nat, s.heap.size ≤ q → A q := fun q h => by rw [← hAe]; exact Or.inr h
  have hS : va_S A s.heap s.heap [] := va_S.rf
  have hP : va_P (dC, dI) vwCl [(h0, .inr (13, [.int 0, .int 7, .int 0, .ref l1, .ref l2])), (l1, .inr (2, [.int 0, .ref dE, .int 0])), (l2, .inr (2, [.int 0, .ref dE, .int 0]))] s.heap := hP
  have hl := lv_entry ([.ref h0, .int 3]) (n := 2) (Nat.le_of_ble_eq_true rfl)
  rw [lg_entry_eq]
  generalize (lg_sl ([.ref h0, .int 3]) ++ List.replicate (2 - (lg_sl ([.ref h0, .int 3])).length) Slot.unset).toArray = ls at hl ⊢
  have hl : lv_has ls 2 [(0, .ref h0), (1, .int 3)] := hl
  obtain ⟨H, eH⟩ : ∃ z, z = s.heap := ⟨_, rfl⟩
  rw [← eH] at hP ⊢
  have hS : va_S A s.heap H [] := by rw [eH]; exact va_S.rf
  refine lv_aload_n hx hb dX10_many_0 rfl (lv_at hl 0 rfl) ?_
  refine lv_iconst (v := 0) hx hb dX10_many_1 (by decide) ?_
  refine va_put (D := (dC, dI)) (ci := 13) (v := .int 0) (ty := .int) (C := RX10) (T := TX10) (N := 5) hx hb hts (by decide +kernel) tyX10 tyX10_ok nmX10 hown hK hP hD hS 0 rfl rfl 0 (by decide) (hts (.fieldLink RX10 23 "VersorhallModel" "thrown" "I") (by decide +kernel)) (fun _ h9 => h9) rfl (by decide +kernel) rfl rfl (Nat.le_of_ble_eq_true rfl) dX10_many_2 (fun H locs hP hD hS => ?_)
  have hP : va_P (dC, dI) vwCl [(h0, .inr (13, [.int 0, .int 7, .int 0, .ref l1, .ref l2])), (l1, .inr (2, [.int 0, .ref dE, .int 0])), (l2, .inr (2, [.int 0, .ref dE, .int 0]))] H := hP
  have hD : va_D A [(h0, .inr (13, [.int 0, .int 7, .int 0, .ref l1, .ref l2])), (l1, .inr (2, [.int 0, .ref dE, .int 0])), (l2, .inr (2, [.int 0, .ref dE, .int 0]))] := hD
  refine lv_iload_n hx hb dX10_many_5 rfl (lv_at hl 1 rfl) ?_
  refine lv_iconst (v := 0) hx hb dX10_many_6 (by decide) ?_
  refine lv_bipush (v := 7) hx hb dX10_many_7 (by decide) ?_
  have hPc := hP.sub (ws' := []) [] rfl
  have hDc := hD.sub (ws' := []) [] (by decide) rfl
  have hKc := hK.sub (tys' := []) [] rfl
  have hFc := va_free (wc := []) hD hS hA [] rfl
  refine va_calli (va_runS (As := [.int 3, .int 0, .int 7]) (rest := []) ⟨hx, hb, hml, hown, hts⟩ (c_M_in_7_3 l dC dI dE H.size) (va_cwS 3 hts gX10_many_X10_in rfl rfl rfl (by decide +kernel) ⟨Nat.le_of_ble_eq_true rfl, Nat.le_of_ble_eq_true rfl⟩) ⟨fun a U g mk q => ⟨q.1, PB.blind q.2⟩, fun U hU hW => ⟨rfl, PB.call hPc hKc hDc hTb hZ hS hFc hU hW⟩⟩ rfl rfl hl.1 rfl (lv_room (Nat.le_of_ble_eq_true rfl)) dX10_many_9 ⟨Nat.le_of_ble_eq_true rfl, Nat.le_of_ble_eq_true rfl⟩) hS (fun q _ h => hFc q h) hFc (fun r u t H locs ht hvm hw hB hz1 hk1 hS => ?_)
  obtain ⟨hP, hD, hK⟩ := PE.join (wc := []) (wr := [(h0, .inr (13, [.int 0, .int 7, .int 0, .ref l1, .ref l2])), (l1, .inr (2, [.int 0, .ref dE, .int 0])), (l2, .inr (2, [.int 0, .ref dE, .int 0]))]) (w1 := []) (tr := []) (t1 := []) hP hD hK [] [0, 1, 2] [] rfl rfl rfl (by decide) (by decide) hk1 hFc ht hvm hB
  have hP : va_P (dC, dI) vwCl [(h0, .inr (13, [.int 0, .int 7, .int 0, .ref l1, .ref l2])), (l1, .inr (2, [.int 0, .ref dE, .int 0])), (l2, .inr (2, [.int 0, .ref dE, .int 0]))] H := hP
  have hD : va_D A [(h0, .inr (13, [.int 0, .int 7, .int 0, .ref l1, .ref l2])), (l1, .inr (2, [.int 0, .ref dE, .int 0])), (l2, .inr (2, [.int 0, .ref dE, .int 0]))] := hD
  have hK : va_K (dC, dI) vwCl [] s := hK
  subst hw
  refine lv_if_ne (tgt := 21) hx hb dX10_many_12 (by decide) (fun _ => ?_) (fun c9 => absurd c9 (by decide))
  refine lv_aload_n hx hb dX10_many_21 rfl (lv_at hl 0 rfl) ?_
  refine lv_iload_n hx hb dX10_many_22 rfl (lv_at hl 1 rfl) ?_
  have hPc := hP.sub (ws' := [(h0, .inr (13, [.int 0, .int 7, .int 0, .ref l1, .ref l2])), (l1, .inr (2, [.int 0, .ref dE, .int 0])), (l2, .inr (2, [.int 0, .ref dE, .int 0]))]) [0, 1, 2] rfl
  have hDc := hD.sub (ws' := [(h0, .inr (13, [.int 0, .int 7, .int 0, .ref l1, .ref l2])), (l1, .inr (2, [.int 0, .ref dE, .int 0])), (l2, .inr (2, [.int 0, .ref dE, .int 0]))]) [0, 1, 2] (by decide) rfl
  have hKc := hK.sub (tys' := []) [] rfl
  have hFc := va_free (wc := [(h0, .inr (13, [.int 0, .int 7, .int 0, .ref l1, .ref l2])), (l1, .inr (2, [.int 0, .ref dE, .int 0])), (l2, .inr (2, [.int 0, .ref dE, .int 0]))]) hD hS hA [0, 1, 2] rfl
  refine va_calli (va_runV (As := [.int 3]) (rest := []) ⟨hx, hb, hml, hown, hts⟩ (c_M_manyNow_3 l dC dI dE h0 l1 l2 H.size) (cwV 1 hts gX10_many_X10_manyNow rfl rfl rfl (by decide +kernel) ⟨Nat.le_of_ble_eq_true rfl, Nat.le_of_ble_eq_true rfl⟩) ⟨fun a U g mk q => ⟨q.1, PB.blind q.2⟩, va_recv hKc hPc (ci := 13) (q0 := 0) rfl rfl, fun U hU hW => ⟨rfl, PB.call hPc hKc hDc hTb hZ hS hFc hU hW⟩⟩ rfl rfl hl.1 rfl (lv_room (Nat.le_of_ble_eq_true rfl)) dX10_many_23 ⟨Nat.le_of_ble_eq_true rfl, Nat.le_of_ble_eq_true rfl⟩) hS (fun q _ h => hFc q h) hFc (fun r u t H locs ht hvm hw hB hz1 hk1 hS => ?_)
  obtain ⟨hP, hD, hK⟩ := PE.join (wc := [(h0, .inr (13, [.int 0, .int 7, .int 0, .ref l1, .ref l2])), (l1, .inr (2, [.int 0, .ref dE, .int 0])), (l2, .inr (2, [.int 0, .ref dE, .int 0]))]) (wr := []) (w1 := [(h0, .inr (13, [.int 0, .int 7, .int 0, .ref l1, .ref l2])), (l1, .inr (2, [.int 0, .ref dE, .int 0])), (l2, .inr (2, [.int 0, .ref dE, .int 0]))]) (tr := []) (t1 := []) hP hD hK [0, 1, 2] [] [] rfl rfl rfl (by decide) (by decide) hk1 hFc ht hvm hB
  have hP : va_P (dC, dI) vwCl [(h0, .inr (13, [.int 0, .int 7, .int 0, .ref l1, .ref l2])), (l1, .inr (2, [.int 0, .ref dE, .int 0])), (l2, .inr (2, [.int 0, .ref dE, .int 0]))] H := hP
  have hD : va_D A [(h0, .inr (13, [.int 0, .int 7, .int 0, .ref l1, .ref l2])), (l1, .inr (2, [.int 0, .ref dE, .int 0])), (l2, .inr (2, [.int 0, .ref dE, .int 0]))] := hD
  have hK : va_K (dC, dI) vwCl [] s := hK
  subst hw
  refine W.widen (k := 1) (n := 8) (by omega) (by omega) ?_
  have hP9 := hP.sub (ws' := [(h0, .inr (13, [.int 0, .int 7, .int 0, .ref l1, .ref l2])), (l1, .inr (2, [.int 0, .ref dE, .int 0])), (l2, .inr (2, [.int 0, .ref dE, .int 0]))]) [0, 1, 2] rfl
  have hD9 := hD.sub (ws' := [(h0, .inr (13, [.int 0, .int 7, .int 0, .ref l1, .ref l2])), (l1, .inr (2, [.int 0, .ref dE, .int 0])), (l2, .inr (2, [.int 0, .ref dE, .int 0]))]) [0, 1, 2] (by decide) rfl
  have hK9 := hK.sub (tys' := []) [] rfl
  refine W.widen (k := 1) (n := 8) (Nat.le_of_ble_eq_true rfl) (Nat.le_of_ble_eq_true rfl) ?_
  exact W.iret (v := 0) hx hb hr (fun t ht hW => ⟨⟨_, (), rfl, rfl, PE.mk hP9 hK9 hD9 ht hW⟩, hS.F ht⟩) hS.2.2 dX10_many_26

set_option maxHeartbeats 4000000 in
set_option maxRecDepth 100000 in
/-- c_M_many_4 -/
theorem c_M_many_4 (l : Launch) (dC : Nat → ClassId) (dI : Nat → Nat → Nat) (dE : Nat) (h0 : Nat) (l1 : Nat) (l2 : Nat) (sz : Nat) : Met l yX10_many wsX10_many ({ frames := 3, cells := 1, slots := 8, locals := 67 }) (va_Pc [.ref h0, .int 4] (PB dC dI dE [] [(h0, .inr (13, [.int 0, .int 7, .int 0, .ref l1, .ref l2])), (l1, .inr (2, [.int 0, .ref dE, .int 0])), (l2, .inr (2, [.int 0, .ref dE, .int 0]))] sz)) (va_Qi (fun (r : Int32) (_ : Unit) => r = 0) (fun (_ : Unit) (t : State) => PE dC dI [] [(h0, .inr (13, [.int 0, .int 7, .int 0, .ref l1, .ref l2])), (l1, .inr (2, [.int 0, .ref dE, .int 0])), (l2, .inr (2, [.int 0, .ref dE, .int 0]))] (va_A [(h0, .inr (13, [.int 0, .int 7, .int 0, .ref l1, .ref l2])), (l1, .inr (2, [.int 0, .ref dE, .int 0])), (l2, .inr (2, [.int 0, .ref dE, .int 0]))] sz) t) (va_A [(h0, .inr (13, [.int 0, .int 7, .int 0, .ref l1, .ref l2])), (l1, .inr (2, [.int 0, .ref dE, .int 0])), (l2, .inr (2, [.int 0, .ref dE, .int 0]))] sz)) 1 8 (va_A [(h0, .inr (13, [.int 0, .int 7, .int 0, .ref l1, .ref l2])), (l1, .inr (2, [.int 0, .ref dE, .int 0])), (l2, .inr (2, [.int 0, .ref dE, .int 0]))] sz) := by
  refine Met.ofW (cc := cX10_many) (maxL := 2) (ret := (some .int)) (by decide) rfl ?_
  intro p e s m args below meth c s₁ B hml hv
  obtain ⟨rfl, hsz, hP, hK, hD0, hTb, hZ⟩ := hv
  have hx := B.exec
  have hb := B.bytes
  have hr := B.returns
  have hts := atoms_spec (ws := wsX10_many) B.pre
  have hown : s.vm.findClass RX10 = some m.cls := findClass_of_methodNamed B.named
  have hlocks := B.notSynchronized
  subst hsz
  have hD := hD0.self (sz := s.heap.size)
  generalize hAe : va_A [(h0, .inr (13, [.int 0, .int 7, .int 0, .ref l1, .ref l2])), (l1, .inr (2, [.int 0, .ref dE, .int 0])), (l2, .inr (2, [.int 0, .ref dE, .int 0]))] s.heap.size = A at hD hZ ⊢
  have hA : ∀ q : Nat, s.heap.size ≤ q → A q := fun q h => by rw [← hAe]; exact Or.inr h
  have hS : va_S A s.heap s.heap [] := va_S.rf
  have hP : va_P (dC, dI) vwCl [(h0, .inr (13, [.int 0, .int 7, .int 0, .ref l1, .ref l2])), (l1, .inr (2, [.int 0, .ref dE, .int 0])), (l2, .inr (2, [.int 0, .ref dE, .int 0]))] s.heap := hP
  have hl := lv_entry ([.ref h0, .int 4]) (n := 2) (Nat.le_of_ble_eq_true rfl)
  rw [lg_entry_eq]
  generalize (lg_sl ([.ref h0, .int 4]) ++ List.replicate (2 - (lg_sl ([.ref h0, .int 4])).length) Slot.unset).toArray = ls at hl ⊢
  have hl : lv_has ls 2 [(0, .ref h0), (1, .int 4)] := hl
  obtain ⟨H, eH⟩ : ∃ z, z = s.heap := ⟨_, rfl⟩
  rw [← eH] at hP ⊢
  have hS : va_S A s.heap H [] := by rw [eH]; exact va_S.rf
  refine lv_aload_n hx hb dX10_many_0 rfl (lv_at hl 0 rfl) ?_
  refine lv_iconst (v := 0) hx hb dX10_many_1 (by decide) ?_
  refine va_put (D := (dC, dI)) (ci := 13) (v := .int 0) (ty := .int) (C := RX10) (T := TX10) (N := 5) hx hb hts (by decide +kernel) tyX10 tyX10_ok nmX10 hown hK hP hD hS 0 rfl rfl 0 (by decide) (hts (.fieldLink RX10 23 "VersorhallModel" "thrown" "I") (by decide +kernel)) (fun _ h9 => h9) rfl (by decide +kernel) rfl rfl (Nat.le_of_ble_eq_true rfl) dX10_many_2 (fun H locs hP hD hS => ?_)
  have hP : va_P (dC, dI) vwCl [(h0, .inr (13, [.int 0, .int 7, .int 0, .ref l1, .ref l2])), (l1, .inr (2, [.int 0, .ref dE, .int 0])), (l2, .inr (2, [.int 0, .ref dE, .int 0]))] H := hP
  have hD : va_D A [(h0, .inr (13, [.int 0, .int 7, .int 0, .ref l1, .ref l2])), (l1, .inr (2, [.int 0, .ref dE, .int 0])), (l2, .inr (2, [.int 0, .ref dE, .int 0]))] := hD
  refine lv_iload_n hx hb dX10_many_5 rfl (lv_at hl 1 rfl) ?_
  refine lv_iconst (v := 0) hx hb dX10_many_6 (by decide) ?_
  refine lv_bipush (v := 7) hx hb dX10_many_7 (by decide) ?_
  have hPc := hP.sub (ws' := []) [] rfl
  have hDc := hD.sub (ws' := []) [] (by decide) rfl
  have hKc := hK.sub (tys' := []) [] rfl
  have hFc := va_free (wc := []) hD hS hA [] rfl
  refine va_calli (va_runS (As := [.int 4, .int 0, .int 7]) (rest := []) ⟨hx, hb, hml, hown, hts⟩ (c_M_in_7_4 l dC dI dE H.size) (va_cwS 3 hts gX10_many_X10_in rfl rfl rfl (by decide +kernel) ⟨Nat.le_of_ble_eq_true rfl, Nat.le_of_ble_eq_true rfl⟩) ⟨fun a U g mk q => ⟨q.1, PB.blind q.2⟩, fun U hU hW => ⟨rfl, PB.call hPc hKc hDc hTb hZ hS hFc hU hW⟩⟩ rfl rfl hl.1 rfl (lv_room (Nat.le_of_ble_eq_true rfl)) dX10_many_9 ⟨Nat.le_of_ble_eq_true rfl, Nat.le_of_ble_eq_true rfl⟩) hS (fun q _ h => hFc q h) hFc (fun r u t H locs ht hvm hw hB hz1 hk1 hS => ?_)
  obtain ⟨hP, hD, hK⟩ := PE.join (wc := []) (wr := [(h0, .inr (13, [.int 0, .int 7, .int 0, .ref l1, .ref l2])), (l1, .inr (2, [.int 0, .ref dE, .int 0])), (l2, .inr (2, [.int 0, .ref dE, .int 0]))]) (w1 := []) (tr := []) (t1 := []) hP hD hK [] [0, 1, 2] [] rfl rfl rfl (by decide) (by decide) hk1 hFc ht hvm hB
  have hP : va_P (dC, dI) vwCl [(h0, .inr (13, [.int 0, .int 7, .int 0, .ref l1, .ref l2])), (l1, .inr (2, [.int 0, .ref dE, .int 0])), (l2, .inr (2, [.int 0, .ref dE, .int 0]))] H := hP
  have hD : va_D A [(h0, .inr (13, [.int 0, .int 7, .int 0, .ref l1, .ref l2])), (l1, .inr (2, [.int 0, .ref dE, .int 0])), (l2, .inr (2, [.int 0, .ref dE, .int 0]))] := hD
  have hK : va_K (dC, dI) vwCl [] s := hK
  subst hw
  refine lv_if_ne (tgt := 21) hx hb dX10_many_12 (by decide) (fun _ => ?_) (fun c9 => absurd c9 (by decide))
  refine lv_aload_n hx hb dX10_many_21 rfl (lv_at hl 0 rfl) ?_
  refine lv_iload_n hx hb dX10_many_22 rfl (lv_at hl 1 rfl) ?_
  have hPc := hP.sub (ws' := [(h0, .inr (13, [.int 0, .int 7, .int 0, .ref l1, .ref l2])), (l1, .inr (2, [.int 0, .ref dE, .int 0])), (l2, .inr (2, [.int 0, .ref dE, .int 0]))]) [0, 1, 2] rfl
  have hDc := hD.sub (ws' := [(h0, .inr (13, [.int 0, .int 7, .int 0, .ref l1, .ref l2])), (l1, .inr (2, [.int 0, .ref dE, .int 0])), (l2, .inr (2, [.int 0, .ref dE, .int 0]))]) [0, 1, 2] (by decide) rfl
  have hKc := hK.sub (tys' := []) [] rfl
  have hFc := va_free (wc := [(h0, .inr (13, [.int 0, .int 7, .int 0, .ref l1, .ref l2])), (l1, .inr (2, [.int 0, .ref dE, .int 0])), (l2, .inr (2, [.int 0, .ref dE, .int 0]))]) hD hS hA [0, 1, 2] rfl
  refine va_calli (va_runV (As := [.int 4]) (rest := []) ⟨hx, hb, hml, hown, hts⟩ (c_M_manyNow_4 l dC dI dE h0 l1 l2 H.size) (cwV 1 hts gX10_many_X10_manyNow rfl rfl rfl (by decide +kernel) ⟨Nat.le_of_ble_eq_true rfl, Nat.le_of_ble_eq_true rfl⟩) ⟨fun a U g mk q => ⟨q.1, PB.blind q.2⟩, va_recv hKc hPc (ci := 13) (q0 := 0) rfl rfl, fun U hU hW => ⟨rfl, PB.call hPc hKc hDc hTb hZ hS hFc hU hW⟩⟩ rfl rfl hl.1 rfl (lv_room (Nat.le_of_ble_eq_true rfl)) dX10_many_23 ⟨Nat.le_of_ble_eq_true rfl, Nat.le_of_ble_eq_true rfl⟩) hS (fun q _ h => hFc q h) hFc (fun r u t H locs ht hvm hw hB hz1 hk1 hS => ?_)
  obtain ⟨hP, hD, hK⟩ := PE.join (wc := [(h0, .inr (13, [.int 0, .int 7, .int 0, .ref l1, .ref l2])), (l1, .inr (2, [.int 0, .ref dE, .int 0])), (l2, .inr (2, [.int 0, .ref dE, .int 0]))]) (wr := []) (w1 := [(h0, .inr (13, [.int 0, .int 7, .int 0, .ref l1, .ref l2])), (l1, .inr (2, [.int 0, .ref dE, .int 0])), (l2, .inr (2, [.int 0, .ref dE, .int 0]))]) (tr := []) (t1 := []) hP hD hK [0, 1, 2] [] [] rfl rfl rfl (by decide) (by decide) hk1 hFc ht hvm hB
  have hP : va_P (dC, dI) vwCl [(h0, .inr (13, [.int 0, .int 7, .int 0, .ref l1, .ref l2])), (l1, .inr (2, [.int 0, .ref dE, .int 0])), (l2, .inr (2, [.int 0, .ref dE, .int 0]))] H := hP
  have hD : va_D A [(h0, .inr (13, [.int 0, .int 7, .int 0, .ref l1, .ref l2])), (l1, .inr (2, [.int 0, .ref dE, .int 0])), (l2, .inr (2, [.int 0, .ref dE, .int 0]))] := hD
  have hK : va_K (dC, dI) vwCl [] s := hK
  subst hw
  refine W.widen (k := 1) (n := 8) (by omega) (by omega) ?_
  have hP9 := hP.sub (ws' := [(h0, .inr (13, [.int 0, .int 7, .int 0, .ref l1, .ref l2])), (l1, .inr (2, [.int 0, .ref dE, .int 0])), (l2, .inr (2, [.int 0, .ref dE, .int 0]))]) [0, 1, 2] rfl
  have hD9 := hD.sub (ws' := [(h0, .inr (13, [.int 0, .int 7, .int 0, .ref l1, .ref l2])), (l1, .inr (2, [.int 0, .ref dE, .int 0])), (l2, .inr (2, [.int 0, .ref dE, .int 0]))]) [0, 1, 2] (by decide) rfl
  have hK9 := hK.sub (tys' := []) [] rfl
  refine W.widen (k := 1) (n := 8) (Nat.le_of_ble_eq_true rfl) (Nat.le_of_ble_eq_true rfl) ?_
  exact W.iret (v := 0) hx hb hr (fun t ht hW => ⟨⟨_, (), rfl, rfl, PE.mk hP9 hK9 hD9 ht hW⟩, hS.F ht⟩) hS.2.2 dX10_many_26

set_option maxHeartbeats 4000000 in
set_option maxRecDepth 100000 in
/-- c_M_many_5 -/
theorem c_M_many_5 (l : Launch) (dC : Nat → ClassId) (dI : Nat → Nat → Nat) (dE : Nat) (h0 : Nat) (l1 : Nat) (l2 : Nat) (sz : Nat) : Met l yX10_many wsX10_many ({ frames := 3, cells := 1, slots := 8, locals := 67 }) (va_Pc [.ref h0, .int 5] (PB dC dI dE [] [(h0, .inr (13, [.int 0, .int 7, .int 0, .ref l1, .ref l2])), (l1, .inr (2, [.int 0, .ref dE, .int 0])), (l2, .inr (2, [.int 0, .ref dE, .int 0]))] sz)) (va_Qi (fun (r : Int32) (_ : Unit) => r = 0) (fun (_ : Unit) (t : State) => PE dC dI [] [(h0, .inr (13, [.int 0, .int 7, .int 0, .ref l1, .ref l2])), (l1, .inr (2, [.int 0, .ref dE, .int 0])), (l2, .inr (2, [.int 0, .ref dE, .int 0]))] (va_A [(h0, .inr (13, [.int 0, .int 7, .int 0, .ref l1, .ref l2])), (l1, .inr (2, [.int 0, .ref dE, .int 0])), (l2, .inr (2, [.int 0, .ref dE, .int 0]))] sz) t) (va_A [(h0, .inr (13, [.int 0, .int 7, .int 0, .ref l1, .ref l2])), (l1, .inr (2, [.int 0, .ref dE, .int 0])), (l2, .inr (2, [.int 0, .ref dE, .int 0]))] sz)) 1 8 (va_A [(h0, .inr (13, [.int 0, .int 7, .int 0, .ref l1, .ref l2])), (l1, .inr (2, [.int 0, .ref dE, .int 0])), (l2, .inr (2, [.int 0, .ref dE, .int 0]))] sz) := by
  refine Met.ofW (cc := cX10_many) (maxL := 2) (ret := (some .int)) (by decide) rfl ?_
  intro p e s m args below meth c s₁ B hml hv
  obtain ⟨rfl, hsz, hP, hK, hD0, hTb, hZ⟩ := hv
  have hx := B.exec
  have hb := B.bytes
  have hr := B.returns
  have hts := atoms_spec (ws := wsX10_many) B.pre
  have hown : s.vm.findClass RX10 = some m.cls := findClass_of_methodNamed B.named
  have hlocks := B.notSynchronized
  subst hsz
  have hD := hD0.self (sz := s.heap.size)
  generalize hAe : va_A [(h0, .inr (13, [.int 0, .int 7, .int 0, .ref l1, .ref l2])), (l1, .inr (2, [.int 0, .ref dE, .int 0])), (l2, .inr (2, [.int 0, .ref dE, .int 0]))] s.heap.size = A at hD hZ ⊢
  have hA : ∀ q : Nat, s.heap.size ≤ q → A q := fun q h => by rw [← hAe]; exact Or.inr h
  have hS : va_S A s.heap s.heap [] := va_S.rf
  have hP : va_P (dC, dI) vwCl [(h0, .inr (13, [.int 0, .int 7, .int 0, .ref l1, .ref l2])), (l1, .inr (2, [.int 0, .ref dE, .int 0])), (l2, .inr (2, [.int 0, .ref dE, .int 0]))] s.heap := hP
  have hl := lv_entry ([.ref h0, .int 5]) (n := 2) (Nat.le_of_ble_eq_true rfl)
  rw [lg_entry_eq]
  generalize (lg_sl ([.ref h0, .int 5]) ++ List.replicate (2 - (lg_sl ([.ref h0, .int 5])).length) Slot.unset).toArray = ls at hl ⊢
  have hl : lv_has ls 2 [(0, .ref h0), (1, .int 5)] := hl
  obtain ⟨H, eH⟩ : ∃ z, z = s.heap := ⟨_, rfl⟩
  rw [← eH] at hP ⊢
  have hS : va_S A s.heap H [] := by rw [eH]; exact va_S.rf
  refine lv_aload_n hx hb dX10_many_0 rfl (lv_at hl 0 rfl) ?_
  refine lv_iconst (v := 0) hx hb dX10_many_1 (by decide) ?_
  refine va_put (D := (dC, dI)) (ci := 13) (v := .int 0) (ty := .int) (C := RX10) (T := TX10) (N := 5) hx hb hts (by decide +kernel) tyX10 tyX10_ok nmX10 hown hK hP hD hS 0 rfl rfl 0 (by decide) (hts (.fieldLink RX10 23 "VersorhallModel" "thrown" "I") (by decide +kernel)) (fun _ h9 => h9) rfl (by decide +kernel) rfl rfl (Nat.le_of_ble_eq_true rfl) dX10_many_2 (fun H locs hP hD hS => ?_)
  have hP : va_P (dC, dI) vwCl [(h0, .inr (13, [.int 0, .int 7, .int 0, .ref l1, .ref l2])), (l1, .inr (2, [.int 0, .ref dE, .int 0])), (l2, .inr (2, [.int 0, .ref dE, .int 0]))] H := hP
  have hD : va_D A [(h0, .inr (13, [.int 0, .int 7, .int 0, .ref l1, .ref l2])), (l1, .inr (2, [.int 0, .ref dE, .int 0])), (l2, .inr (2, [.int 0, .ref dE, .int 0]))] := hD
  refine lv_iload_n hx hb dX10_many_5 rfl (lv_at hl 1 rfl) ?_
  refine lv_iconst (v := 0) hx hb dX10_many_6 (by decide) ?_
  refine lv_bipush (v := 7) hx hb dX10_many_7 (by decide) ?_
  have hPc := hP.sub (ws' := []) [] rfl
  have hDc := hD.sub (ws' := []) [] (by decide) rfl
  have hKc := hK.sub (tys' := []) [] rfl
  have hFc := va_free (wc := []) hD hS hA [] rfl
  refine va_calli (va_runS (As := [.int 5, .int 0, .int 7]) (rest := []) ⟨hx, hb, hml, hown, hts⟩ (c_M_in_7_5 l dC dI dE H.size) (va_cwS 3 hts gX10_many_X10_in rfl rfl rfl (by decide +kernel) ⟨Nat.le_of_ble_eq_true rfl, Nat.le_of_ble_eq_true rfl⟩) ⟨fun a U g mk q => ⟨q.1, PB.blind q.2⟩, fun U hU hW => ⟨rfl, PB.call hPc hKc hDc hTb hZ hS hFc hU hW⟩⟩ rfl rfl hl.1 rfl (lv_room (Nat.le_of_ble_eq_true rfl)) dX10_many_9 ⟨Nat.le_of_ble_eq_true rfl, Nat.le_of_ble_eq_true rfl⟩) hS (fun q _ h => hFc q h) hFc (fun r u t H locs ht hvm hw hB hz1 hk1 hS => ?_)
  obtain ⟨hP, hD, hK⟩ := PE.join (wc := []) (wr := [(h0, .inr (13, [.int 0, .int 7, .int 0, .ref l1, .ref l2])), (l1, .inr (2, [.int 0, .ref dE, .int 0])), (l2, .inr (2, [.int 0, .ref dE, .int 0]))]) (w1 := []) (tr := []) (t1 := []) hP hD hK [] [0, 1, 2] [] rfl rfl rfl (by decide) (by decide) hk1 hFc ht hvm hB
  have hP : va_P (dC, dI) vwCl [(h0, .inr (13, [.int 0, .int 7, .int 0, .ref l1, .ref l2])), (l1, .inr (2, [.int 0, .ref dE, .int 0])), (l2, .inr (2, [.int 0, .ref dE, .int 0]))] H := hP
  have hD : va_D A [(h0, .inr (13, [.int 0, .int 7, .int 0, .ref l1, .ref l2])), (l1, .inr (2, [.int 0, .ref dE, .int 0])), (l2, .inr (2, [.int 0, .ref dE, .int 0]))] := hD
  have hK : va_K (dC, dI) vwCl [] s := hK
  subst hw
  refine lv_if_ne (tgt := 21) hx hb dX10_many_12 (by decide) (fun _ => ?_) (fun c9 => absurd c9 (by decide))
  refine lv_aload_n hx hb dX10_many_21 rfl (lv_at hl 0 rfl) ?_
  refine lv_iload_n hx hb dX10_many_22 rfl (lv_at hl 1 rfl) ?_
  have hPc := hP.sub (ws' := [(h0, .inr (13, [.int 0, .int 7, .int 0, .ref l1, .ref l2])), (l1, .inr (2, [.int 0, .ref dE, .int 0])), (l2, .inr (2, [.int 0, .ref dE, .int 0]))]) [0, 1, 2] rfl
  have hDc := hD.sub (ws' := [(h0, .inr (13, [.int 0, .int 7, .int 0, .ref l1, .ref l2])), (l1, .inr (2, [.int 0, .ref dE, .int 0])), (l2, .inr (2, [.int 0, .ref dE, .int 0]))]) [0, 1, 2] (by decide) rfl
  have hKc := hK.sub (tys' := []) [] rfl
  have hFc := va_free (wc := [(h0, .inr (13, [.int 0, .int 7, .int 0, .ref l1, .ref l2])), (l1, .inr (2, [.int 0, .ref dE, .int 0])), (l2, .inr (2, [.int 0, .ref dE, .int 0]))]) hD hS hA [0, 1, 2] rfl
  refine va_calli (va_runV (As := [.int 5]) (rest := []) ⟨hx, hb, hml, hown, hts⟩ (c_M_manyNow_5 l dC dI dE h0 l1 l2 H.size) (cwV 1 hts gX10_many_X10_manyNow rfl rfl rfl (by decide +kernel) ⟨Nat.le_of_ble_eq_true rfl, Nat.le_of_ble_eq_true rfl⟩) ⟨fun a U g mk q => ⟨q.1, PB.blind q.2⟩, va_recv hKc hPc (ci := 13) (q0 := 0) rfl rfl, fun U hU hW => ⟨rfl, PB.call hPc hKc hDc hTb hZ hS hFc hU hW⟩⟩ rfl rfl hl.1 rfl (lv_room (Nat.le_of_ble_eq_true rfl)) dX10_many_23 ⟨Nat.le_of_ble_eq_true rfl, Nat.le_of_ble_eq_true rfl⟩) hS (fun q _ h => hFc q h) hFc (fun r u t H locs ht hvm hw hB hz1 hk1 hS => ?_)
  obtain ⟨hP, hD, hK⟩ := PE.join (wc := [(h0, .inr (13, [.int 0, .int 7, .int 0, .ref l1, .ref l2])), (l1, .inr (2, [.int 0, .ref dE, .int 0])), (l2, .inr (2, [.int 0, .ref dE, .int 0]))]) (wr := []) (w1 := [(h0, .inr (13, [.int 0, .int 7, .int 0, .ref l1, .ref l2])), (l1, .inr (2, [.int 0, .ref dE, .int 0])), (l2, .inr (2, [.int 0, .ref dE, .int 0]))]) (tr := []) (t1 := []) hP hD hK [0, 1, 2] [] [] rfl rfl rfl (by decide) (by decide) hk1 hFc ht hvm hB
  have hP : va_P (dC, dI) vwCl [(h0, .inr (13, [.int 0, .int 7, .int 0, .ref l1, .ref l2])), (l1, .inr (2, [.int 0, .ref dE, .int 0])), (l2, .inr (2, [.int 0, .ref dE, .int 0]))] H := hP
  have hD : va_D A [(h0, .inr (13, [.int 0, .int 7, .int 0, .ref l1, .ref l2])), (l1, .inr (2, [.int 0, .ref dE, .int 0])), (l2, .inr (2, [.int 0, .ref dE, .int 0]))] := hD
  have hK : va_K (dC, dI) vwCl [] s := hK
  subst hw
  refine W.widen (k := 1) (n := 8) (by omega) (by omega) ?_
  have hP9 := hP.sub (ws' := [(h0, .inr (13, [.int 0, .int 7, .int 0, .ref l1, .ref l2])), (l1, .inr (2, [.int 0, .ref dE, .int 0])), (l2, .inr (2, [.int 0, .ref dE, .int 0]))]) [0, 1, 2] rfl
  have hD9 := hD.sub (ws' := [(h0, .inr (13, [.int 0, .int 7, .int 0, .ref l1, .ref l2])), (l1, .inr (2, [.int 0, .ref dE, .int 0])), (l2, .inr (2, [.int 0, .ref dE, .int 0]))]) [0, 1, 2] (by decide) rfl
  have hK9 := hK.sub (tys' := []) [] rfl
  refine W.widen (k := 1) (n := 8) (Nat.le_of_ble_eq_true rfl) (Nat.le_of_ble_eq_true rfl) ?_
  exact W.iret (v := 0) hx hb hr (fun t ht hW => ⟨⟨_, (), rfl, rfl, PE.mk hP9 hK9 hD9 ht hW⟩, hS.F ht⟩) hS.2.2 dX10_many_26

set_option maxHeartbeats 4000000 in
set_option maxRecDepth 100000 in
/-- c_M_many_6 -/
theorem c_M_many_6 (l : Launch) (dC : Nat → ClassId) (dI : Nat → Nat → Nat) (dE : Nat) (h0 : Nat) (l1 : Nat) (l2 : Nat) (sz : Nat) : Met l yX10_many wsX10_many ({ frames := 3, cells := 1, slots := 8, locals := 67 }) (va_Pc [.ref h0, .int 6] (PB dC dI dE [] [(h0, .inr (13, [.int 0, .int 7, .int 0, .ref l1, .ref l2])), (l1, .inr (2, [.int 0, .ref dE, .int 0])), (l2, .inr (2, [.int 0, .ref dE, .int 0]))] sz)) (va_Qi (fun (r : Int32) (_ : Unit) => r = 0) (fun (_ : Unit) (t : State) => PE dC dI [] [(h0, .inr (13, [.int 0, .int 7, .int 0, .ref l1, .ref l2])), (l1, .inr (2, [.int 0, .ref dE, .int 0])), (l2, .inr (2, [.int 0, .ref dE, .int 0]))] (va_A [(h0, .inr (13, [.int 0, .int 7, .int 0, .ref l1, .ref l2])), (l1, .inr (2, [.int 0, .ref dE, .int 0])), (l2, .inr (2, [.int 0, .ref dE, .int 0]))] sz) t) (va_A [(h0, .inr (13, [.int 0, .int 7, .int 0, .ref l1, .ref l2])), (l1, .inr (2, [.int 0, .ref dE, .int 0])), (l2, .inr (2, [.int 0, .ref dE, .int 0]))] sz)) 1 8 (va_A [(h0, .inr (13, [.int 0, .int 7, .int 0, .ref l1, .ref l2])), (l1, .inr (2, [.int 0, .ref dE, .int 0])), (l2, .inr (2, [.int 0, .ref dE, .int 0]))] sz) := by
  refine Met.ofW (cc := cX10_many) (maxL := 2) (ret := (some .int)) (by decide) rfl ?_
  intro p e s m args below meth c s₁ B hml hv
  obtain ⟨rfl, hsz, hP, hK, hD0, hTb, hZ⟩ := hv
  have hx := B.exec
  have hb := B.bytes
  have hr := B.returns
  have hts := atoms_spec (ws := wsX10_many) B.pre
  have hown : s.vm.findClass RX10 = some m.cls := findClass_of_methodNamed B.named
  have hlocks := B.notSynchronized
  subst hsz
  have hD := hD0.self (sz := s.heap.size)
  generalize hAe : va_A [(h0, .inr (13, [.int 0, .int 7, .int 0, .ref l1, .ref l2])), (l1, .inr (2, [.int 0, .ref dE, .int 0])), (l2, .inr (2, [.int 0, .ref dE, .int 0]))] s.heap.size = A at hD hZ ⊢
  have hA : ∀ q : Nat, s.heap.size ≤ q → A q := fun q h => by rw [← hAe]; exact Or.inr h
  have hS : va_S A s.heap s.heap [] := va_S.rf
  have hP : va_P (dC, dI) vwCl [(h0, .inr (13, [.int 0, .int 7, .int 0, .ref l1, .ref l2])), (l1, .inr (2, [.int 0, .ref dE, .int 0])), (l2, .inr (2, [.int 0, .ref dE, .int 0]))] s.heap := hP
  have hl := lv_entry ([.ref h0, .int 6]) (n := 2) (Nat.le_of_ble_eq_true rfl)
  rw [lg_entry_eq]
  generalize (lg_sl ([.ref h0, .int 6]) ++ List.replicate (2 - (lg_sl ([.ref h0, .int 6])).length) Slot.unset).toArray = ls at hl ⊢
  have hl : lv_has ls 2 [(0, .ref h0), (1, .int 6)] := hl
  obtain ⟨H, eH⟩ : ∃ z, z = s.heap := ⟨_, rfl⟩
  rw [← eH] at hP ⊢
  have hS : va_S A s.heap H [] := by rw [eH]; exact va_S.rf
  refine lv_aload_n hx hb dX10_many_0 rfl (lv_at hl 0 rfl) ?_
  refine lv_iconst (v := 0) hx hb dX10_many_1 (by decide) ?_
  refine va_put (D := (dC, dI)) (ci := 13) (v := .int 0) (ty := .int) (C := RX10) (T := TX10) (N := 5) hx hb hts (by decide +kernel) tyX10 tyX10_ok nmX10 hown hK hP hD hS 0 rfl rfl 0 (by decide) (hts (.fieldLink RX10 23 "VersorhallModel" "thrown" "I") (by decide +kernel)) (fun _ h9 => h9) rfl (by decide +kernel) rfl rfl (Nat.le_of_ble_eq_true rfl) dX10_many_2 (fun H locs hP hD hS => ?_)
  have hP : va_P (dC, dI) vwCl [(h0, .inr (13, [.int 0, .int 7, .int 0, .ref l1, .ref l2])), (l1, .inr (2, [.int 0, .ref dE, .int 0])), (l2, .inr (2, [.int 0, .ref dE, .int 0]))] H := hP
  have hD : va_D A [(h0, .inr (13, [.int 0, .int 7, .int 0, .ref l1, .ref l2])), (l1, .inr (2, [.int 0, .ref dE, .int 0])), (l2, .inr (2, [.int 0, .ref dE, .int 0]))] := hD
  refine lv_iload_n hx hb dX10_many_5 rfl (lv_at hl 1 rfl) ?_
  refine lv_iconst (v := 0) hx hb dX10_many_6 (by decide) ?_
  refine lv_bipush (v := 7) hx hb dX10_many_7 (by decide) ?_
  have hPc := hP.sub (ws' := []) [] rfl
  have hDc := hD.sub (ws' := []) [] (by decide) rfl
  have hKc := hK.sub (tys' := []) [] rfl
  have hFc := va_free (wc := []) hD hS hA [] rfl
  refine va_calli (va_runS (As := [.int 6, .int 0, .int 7]) (rest := []) ⟨hx, hb, hml, hown, hts⟩ (c_M_in_7_6 l dC dI dE H.size) (va_cwS 3 hts gX10_many_X10_in rfl rfl rfl (by decide +kernel) ⟨Nat.le_of_ble_eq_true rfl, Nat.le_of_ble_eq_true rfl⟩) ⟨fun a U g mk q => ⟨q.1, PB.blind q.2⟩, fun U hU hW => ⟨rfl, PB.call hPc hKc hDc hTb hZ hS hFc hU hW⟩⟩ rfl rfl hl.1 rfl (lv_room (Nat.le_of_ble_eq_true rfl)) dX10_many_9 ⟨Nat.le_of_ble_eq_true rfl, Nat.le_of_ble_eq_true rfl⟩) hS (fun q _ h => hFc q h) hFc (fun r u t H locs ht hvm hw hB hz1 hk1 hS => ?_)
  obtain ⟨hP, hD, hK⟩ := PE.join (wc := []) (wr := [(h0, .inr (13, [.int 0, .int 7, .int 0, .ref l1, .ref l2])), (l1, .inr (2, [.int 0, .ref dE, .int 0])), (l2, .inr (2, [.int 0, .ref dE, .int 0]))]) (w1 := []) (tr := []) (t1 := []) hP hD hK [] [0, 1, 2] [] rfl rfl rfl (by decide) (by decide) hk1 hFc ht hvm hB
  have hP : va_P (dC, dI) vwCl [(h0, .inr (13, [.int 0, .int 7, .int 0, .ref l1, .ref l2])), (l1, .inr (2, [.int 0, .ref dE, .int 0])), (l2, .inr (2, [.int 0, .ref dE, .int 0]))] H := hP
  have hD : va_D A [(h0, .inr (13, [.int 0, .int 7, .int 0, .ref l1, .ref l2])), (l1, .inr (2, [.int 0, .ref dE, .int 0])), (l2, .inr (2, [.int 0, .ref dE, .int 0]))] := hD
  have hK : va_K (dC, dI) vwCl [] s := hK
  subst hw
  refine lv_if_ne (tgt := 21) hx hb dX10_many_12 (by decide) (fun _ => ?_) (fun c9 => absurd c9 (by decide))
  refine lv_aload_n hx hb dX10_many_21 rfl (lv_at hl 0 rfl) ?_
  refine lv_iload_n hx hb dX10_many_22 rfl (lv_at hl 1 rfl) ?_
  have hPc := hP.sub (ws' := [(h0, .inr (13, [.int 0, .int 7, .int 0, .ref l1, .ref l2])), (l1, .inr (2, [.int 0, .ref dE, .int 0])), (l2, .inr (2, [.int 0, .ref dE, .int 0]))]) [0, 1, 2] rfl
  have hDc := hD.sub (ws' := [(h0, .inr (13, [.int 0, .int 7, .int 0, .ref l1, .ref l2])), (l1, .inr (2, [.int 0, .ref dE, .int 0])), (l2, .inr (2, [.int 0, .ref dE, .int 0]))]) [0, 1, 2] (by decide) rfl
  have hKc := hK.sub (tys' := []) [] rfl
  have hFc := va_free (wc := [(h0, .inr (13, [.int 0, .int 7, .int 0, .ref l1, .ref l2])), (l1, .inr (2, [.int 0, .ref dE, .int 0])), (l2, .inr (2, [.int 0, .ref dE, .int 0]))]) hD hS hA [0, 1, 2] rfl
  refine va_calli (va_runV (As := [.int 6]) (rest := []) ⟨hx, hb, hml, hown, hts⟩ (c_M_manyNow_6 l dC dI dE h0 l1 l2 H.size) (cwV 1 hts gX10_many_X10_manyNow rfl rfl rfl (by decide +kernel) ⟨Nat.le_of_ble_eq_true rfl, Nat.le_of_ble_eq_true rfl⟩) ⟨fun a U g mk q => ⟨q.1, PB.blind q.2⟩, va_recv hKc hPc (ci := 13) (q0 := 0) rfl rfl, fun U hU hW => ⟨rfl, PB.call hPc hKc hDc hTb hZ hS hFc hU hW⟩⟩ rfl rfl hl.1 rfl (lv_room (Nat.le_of_ble_eq_true rfl)) dX10_many_23 ⟨Nat.le_of_ble_eq_true rfl, Nat.le_of_ble_eq_true rfl⟩) hS (fun q _ h => hFc q h) hFc (fun r u t H locs ht hvm hw hB hz1 hk1 hS => ?_)
  obtain ⟨hP, hD, hK⟩ := PE.join (wc := [(h0, .inr (13, [.int 0, .int 7, .int 0, .ref l1, .ref l2])), (l1, .inr (2, [.int 0, .ref dE, .int 0])), (l2, .inr (2, [.int 0, .ref dE, .int 0]))]) (wr := []) (w1 := [(h0, .inr (13, [.int 0, .int 7, .int 0, .ref l1, .ref l2])), (l1, .inr (2, [.int 0, .ref dE, .int 0])), (l2, .inr (2, [.int 0, .ref dE, .int 0]))]) (tr := []) (t1 := []) hP hD hK [0, 1, 2] [] [] rfl rfl rfl (by decide) (by decide) hk1 hFc ht hvm hB
  have hP : va_P (dC, dI) vwCl [(h0, .inr (13, [.int 0, .int 7, .int 0, .ref l1, .ref l2])), (l1, .inr (2, [.int 0, .ref dE, .int 0])), (l2, .inr (2, [.int 0, .ref dE, .int 0]))] H := hP
  have hD : va_D A [(h0, .inr (13, [.int 0, .int 7, .int 0, .ref l1, .ref l2])), (l1, .inr (2, [.int 0, .ref dE, .int 0])), (l2, .inr (2, [.int 0, .ref dE, .int 0]))] := hD
  have hK : va_K (dC, dI) vwCl [] s := hK
  subst hw
  refine W.widen (k := 1) (n := 8) (by omega) (by omega) ?_
  have hP9 := hP.sub (ws' := [(h0, .inr (13, [.int 0, .int 7, .int 0, .ref l1, .ref l2])), (l1, .inr (2, [.int 0, .ref dE, .int 0])), (l2, .inr (2, [.int 0, .ref dE, .int 0]))]) [0, 1, 2] rfl
  have hD9 := hD.sub (ws' := [(h0, .inr (13, [.int 0, .int 7, .int 0, .ref l1, .ref l2])), (l1, .inr (2, [.int 0, .ref dE, .int 0])), (l2, .inr (2, [.int 0, .ref dE, .int 0]))]) [0, 1, 2] (by decide) rfl
  have hK9 := hK.sub (tys' := []) [] rfl
  refine W.widen (k := 1) (n := 8) (Nat.le_of_ble_eq_true rfl) (Nat.le_of_ble_eq_true rfl) ?_
  exact W.iret (v := 0) hx hb hr (fun t ht hW => ⟨⟨_, (), rfl, rfl, PE.mk hP9 hK9 hD9 ht hW⟩, hS.F ht⟩) hS.2.2 dX10_many_26

set_option maxHeartbeats 4000000 in
set_option maxRecDepth 100000 in
/-- c_M_many_7 -/
theorem c_M_many_7 (l : Launch) (dC : Nat → ClassId) (dI : Nat → Nat → Nat) (dE : Nat) (h0 : Nat) (l1 : Nat) (l2 : Nat) (sz : Nat) : Met l yX10_many wsX10_many ({ frames := 3, cells := 1, slots := 8, locals := 67 }) (va_Pc [.ref h0, .int 7] (PB dC dI dE [] [(h0, .inr (13, [.int 0, .int 7, .int 0, .ref l1, .ref l2])), (l1, .inr (2, [.int 0, .ref dE, .int 0])), (l2, .inr (2, [.int 0, .ref dE, .int 0]))] sz)) (va_Qi (fun (r : Int32) (_ : Unit) => r = 0) (fun (_ : Unit) (t : State) => PE dC dI [] [(h0, .inr (13, [.int 0, .int 7, .int 0, .ref l1, .ref l2])), (l1, .inr (2, [.int 0, .ref dE, .int 0])), (l2, .inr (2, [.int 0, .ref dE, .int 0]))] (va_A [(h0, .inr (13, [.int 0, .int 7, .int 0, .ref l1, .ref l2])), (l1, .inr (2, [.int 0, .ref dE, .int 0])), (l2, .inr (2, [.int 0, .ref dE, .int 0]))] sz) t) (va_A [(h0, .inr (13, [.int 0, .int 7, .int 0, .ref l1, .ref l2])), (l1, .inr (2, [.int 0, .ref dE, .int 0])), (l2, .inr (2, [.int 0, .ref dE, .int 0]))] sz)) 1 8 (va_A [(h0, .inr (13, [.int 0, .int 7, .int 0, .ref l1, .ref l2])), (l1, .inr (2, [.int 0, .ref dE, .int 0])), (l2, .inr (2, [.int 0, .ref dE, .int 0]))] sz) := by
  refine Met.ofW (cc := cX10_many) (maxL := 2) (ret := (some .int)) (by decide) rfl ?_
  intro p e s m args below meth c s₁ B hml hv
  obtain ⟨rfl, hsz, hP, hK, hD0, hTb, hZ⟩ := hv
  have hx := B.exec
  have hb := B.bytes
  have hr := B.returns
  have hts := atoms_spec (ws := wsX10_many) B.pre
  have hown : s.vm.findClass RX10 = some m.cls := findClass_of_methodNamed B.named
  have hlocks := B.notSynchronized
  subst hsz
  have hD := hD0.self (sz := s.heap.size)
  generalize hAe : va_A [(h0, .inr (13, [.int 0, .int 7, .int 0, .ref l1, .ref l2])), (l1, .inr (2, [.int 0, .ref dE, .int 0])), (l2, .inr (2, [.int 0, .ref dE, .int 0]))] s.heap.size = A at hD hZ ⊢
  have hA : ∀ q : Nat, s.heap.size ≤ q → A q := fun q h => by rw [← hAe]; exact Or.inr h
  have hS : va_S A s.heap s.heap [] := va_S.rf
  have hP : va_P (dC, dI) vwCl [(h0, .inr (13, [.int 0, .int 7, .int 0, .ref l1, .ref l2])), (l1, .inr (2, [.int 0, .ref dE, .int 0])), (l2, .inr (2, [.int 0, .ref dE, .int 0]))] s.heap := hP
  have hl := lv_entry ([.ref h0, .int 7]) (n := 2) (Nat.le_of_ble_eq_true rfl)
  rw [lg_entry_eq]
  generalize (lg_sl ([.ref h0, .int 7]) ++ List.replicate (2 - (lg_sl ([.ref h0, .int 7])).length) Slot.unset).toArray = ls at hl ⊢
  have hl : lv_has ls 2 [(0, .ref h0), (1, .int 7)] := hl
  obtain ⟨H, eH⟩ : ∃ z, z = s.heap := ⟨_, rfl⟩
  rw [← eH] at hP ⊢
  have hS : va_S A s.heap H [] := by rw [eH]; exact va_S.rf
  refine lv_aload_n hx hb dX10_many_0 rfl (lv_at hl 0 rfl) ?_
  refine lv_iconst (v := 0) hx hb dX10_many_1 (by decide) ?_
  refine va_put (D := (dC, dI)) (ci := 13) (v := .int 0) (ty := .int) (C := RX10) (T := TX10) (N := 5) hx hb hts (by decide +kernel) tyX10 tyX10_ok nmX10 hown hK hP hD hS 0 rfl rfl 0 (by decide) (hts (.fieldLink RX10 23 "VersorhallModel" "thrown" "I") (by decide +kernel)) (fun _ h9 => h9) rfl (by decide +kernel) rfl rfl (Nat.le_of_ble_eq_true rfl) dX10_many_2 (fun H locs hP hD hS => ?_)
  have hP : va_P (dC, dI) vwCl [(h0, .inr (13, [.int 0, .int 7, .int 0, .ref l1, .ref l2])), (l1, .inr (2, [.int 0, .ref dE, .int 0])), (l2, .inr (2, [.int 0, .ref dE, .int 0]))] H := hP
  have hD : va_D A [(h0, .inr (13, [.int 0, .int 7, .int 0, .ref l1, .ref l2])), (l1, .inr (2, [.int 0, .ref dE, .int 0])), (l2, .inr (2, [.int 0, .ref dE, .int 0]))] := hD
  refine lv_iload_n hx hb dX10_many_5 rfl (lv_at hl 1 rfl) ?_
  refine lv_iconst (v := 0) hx hb dX10_many_6 (by decide) ?_
  refine lv_bipush (v := 7) hx hb dX10_many_7 (by decide) ?_
  have hPc := hP.sub (ws' := []) [] rfl
  have hDc := hD.sub (ws' := []) [] (by decide) rfl
  have hKc := hK.sub (tys' := []) [] rfl
  have hFc := va_free (wc := []) hD hS hA [] rfl
  refine va_calli (va_runS (As := [.int 7, .int 0, .int 7]) (rest := []) ⟨hx, hb, hml, hown, hts⟩ (c_M_in_7_7 l dC dI dE H.size) (va_cwS 3 hts gX10_many_X10_in rfl rfl rfl (by decide +kernel) ⟨Nat.le_of_ble_eq_true rfl, Nat.le_of_ble_eq_true rfl⟩) ⟨fun a U g mk q => ⟨q.1, PB.blind q.2⟩, fun U hU hW => ⟨rfl, PB.call hPc hKc hDc hTb hZ hS hFc hU hW⟩⟩ rfl rfl hl.1 rfl (lv_room (Nat.le_of_ble_eq_true rfl)) dX10_many_9 ⟨Nat.le_of_ble_eq_true rfl, Nat.le_of_ble_eq_true rfl⟩) hS (fun q _ h => hFc q h) hFc (fun r u t H locs ht hvm hw hB hz1 hk1 hS => ?_)
  obtain ⟨hP, hD, hK⟩ := PE.join (wc := []) (wr := [(h0, .inr (13, [.int 0, .int 7, .int 0, .ref l1, .ref l2])), (l1, .inr (2, [.int 0, .ref dE, .int 0])), (l2, .inr (2, [.int 0, .ref dE, .int 0]))]) (w1 := []) (tr := []) (t1 := []) hP hD hK [] [0, 1, 2] [] rfl rfl rfl (by decide) (by decide) hk1 hFc ht hvm hB
  have hP : va_P (dC, dI) vwCl [(h0, .inr (13, [.int 0, .int 7, .int 0, .ref l1, .ref l2])), (l1, .inr (2, [.int 0, .ref dE, .int 0])), (l2, .inr (2, [.int 0, .ref dE, .int 0]))] H := hP
  have hD : va_D A [(h0, .inr (13, [.int 0, .int 7, .int 0, .ref l1, .ref l2])), (l1, .inr (2, [.int 0, .ref dE, .int 0])), (l2, .inr (2, [.int 0, .ref dE, .int 0]))] := hD
  have hK : va_K (dC, dI) vwCl [] s := hK
  subst hw
  refine lv_if_ne (tgt := 21) hx hb dX10_many_12 (by decide) (fun _ => ?_) (fun c9 => absurd c9 (by decide))
  refine lv_aload_n hx hb dX10_many_21 rfl (lv_at hl 0 rfl) ?_
  refine lv_iload_n hx hb dX10_many_22 rfl (lv_at hl 1 rfl) ?_
  have hPc := hP.sub (ws' := [(h0, .inr (13, [.int 0, .int 7, .int 0, .ref l1, .ref l2])), (l1, .inr (2, [.int 0, .ref dE, .int 0])), (l2, .inr (2, [.int 0, .ref dE, .int 0]))]) [0, 1, 2] rfl
  have hDc := hD.sub (ws' := [(h0, .inr (13, [.int 0, .int 7, .int 0, .ref l1, .ref l2])), (l1, .inr (2, [.int 0, .ref dE, .int 0])), (l2, .inr (2, [.int 0, .ref dE, .int 0]))]) [0, 1, 2] (by decide) rfl
  have hKc := hK.sub (tys' := []) [] rfl
  have hFc := va_free (wc := [(h0, .inr (13, [.int 0, .int 7, .int 0, .ref l1, .ref l2])), (l1, .inr (2, [.int 0, .ref dE, .int 0])), (l2, .inr (2, [.int 0, .ref dE, .int 0]))]) hD hS hA [0, 1, 2] rfl
  refine va_calli (va_runV (As := [.int 7]) (rest := []) ⟨hx, hb, hml, hown, hts⟩ (c_M_manyNow_7 l dC dI dE h0 l1 l2 H.size) (cwV 1 hts gX10_many_X10_manyNow rfl rfl rfl (by decide +kernel) ⟨Nat.le_of_ble_eq_true rfl, Nat.le_of_ble_eq_true rfl⟩) ⟨fun a U g mk q => ⟨q.1, PB.blind q.2⟩, va_recv hKc hPc (ci := 13) (q0 := 0) rfl rfl, fun U hU hW => ⟨rfl, PB.call hPc hKc hDc hTb hZ hS hFc hU hW⟩⟩ rfl rfl hl.1 rfl (lv_room (Nat.le_of_ble_eq_true rfl)) dX10_many_23 ⟨Nat.le_of_ble_eq_true rfl, Nat.le_of_ble_eq_true rfl⟩) hS (fun q _ h => hFc q h) hFc (fun r u t H locs ht hvm hw hB hz1 hk1 hS => ?_)
  obtain ⟨hP, hD, hK⟩ := PE.join (wc := [(h0, .inr (13, [.int 0, .int 7, .int 0, .ref l1, .ref l2])), (l1, .inr (2, [.int 0, .ref dE, .int 0])), (l2, .inr (2, [.int 0, .ref dE, .int 0]))]) (wr := []) (w1 := [(h0, .inr (13, [.int 0, .int 7, .int 0, .ref l1, .ref l2])), (l1, .inr (2, [.int 0, .ref dE, .int 0])), (l2, .inr (2, [.int 0, .ref dE, .int 0]))]) (tr := []) (t1 := []) hP hD hK [0, 1, 2] [] [] rfl rfl rfl (by decide) (by decide) hk1 hFc ht hvm hB
  have hP : va_P (dC, dI) vwCl [(h0, .inr (13, [.int 0, .int 7, .int 0, .ref l1, .ref l2])), (l1, .inr (2, [.int 0, .ref dE, .int 0])), (l2, .inr (2, [.int 0, .ref dE, .int 0]))] H := hP
  have hD : va_D A [(h0, .inr (13, [.int 0, .int 7, .int 0, .ref l1, .ref l2])), (l1, .inr (2, [.int 0, .ref dE, .int 0])), (l2, .inr (2, [.int 0, .ref dE, .int 0]))] := hD
  have hK : va_K (dC, dI) vwCl [] s := hK
  subst hw
  refine W.widen (k := 1) (n := 8) (by omega) (by omega) ?_
  have hP9 := hP.sub (ws' := [(h0, .inr (13, [.int 0, .int 7, .int 0, .ref l1, .ref l2])), (l1, .inr (2, [.int 0, .ref dE, .int 0])), (l2, .inr (2, [.int 0, .ref dE, .int 0]))]) [0, 1, 2] rfl
  have hD9 := hD.sub (ws' := [(h0, .inr (13, [.int 0, .int 7, .int 0, .ref l1, .ref l2])), (l1, .inr (2, [.int 0, .ref dE, .int 0])), (l2, .inr (2, [.int 0, .ref dE, .int 0]))]) [0, 1, 2] (by decide) rfl
  have hK9 := hK.sub (tys' := []) [] rfl
  refine W.widen (k := 1) (n := 8) (Nat.le_of_ble_eq_true rfl) (Nat.le_of_ble_eq_true rfl) ?_
  exact W.iret (v := 0) hx hb hr (fun t ht hW => ⟨⟨_, (), rfl, rfl, PE.mk hP9 hK9 hD9 ht hW⟩, hS.F ht⟩) hS.2.2 dX10_many_26

set_option maxHeartbeats 4000000 in
set_option maxRecDepth 100000 in
/-- c_M_many_no -/
theorem c_M_many_no (l : Launch) (dC : Nat → ClassId) (dI : Nat → Nat → Nat) (dE : Nat) (h0 : Nat) (l1 : Nat) (l2 : Nat) (k : Int32) (sz : Nat) (hm : k.toInt < 0 ∨ 7 < k.toInt) : Met l yX10_many wsX10_many ({ frames := 1, cells := 0, slots := 0, locals := 22 }) (va_Pc [.ref h0, .int k] (PB dC dI dE [] [(h0, .inr (13, [.int 0, .int 7, .int 0, .ref l1, .ref l2])), (l1, .inr (2, [.int 0, .ref dE, .int 0])), (l2, .inr (2, [.int 0, .ref dE, .int 0]))] sz)) (va_Qi (fun (r : Int32) (_ : Unit) => r = 0) (fun (_ : Unit) (t : State) => PE dC dI [] [(h0, .inr (13, [.int 1, .int 7, .int 0, .ref l1, .ref l2])), (l1, .inr (2, [.int 0, .ref dE, .int 0])), (l2, .inr (2, [.int 0, .ref dE, .int 0]))] (va_A [(h0, .inr (13, [.int 0, .int 7, .int 0, .ref l1, .ref l2])), (l1, .inr (2, [.int 0, .ref dE, .int 0])), (l2, .inr (2, [.int 0, .ref dE, .int 0]))] sz) t) (va_A [(h0, .inr (13, [.int 0, .int 7, .int 0, .ref l1, .ref l2])), (l1, .inr (2, [.int 0, .ref dE, .int 0])), (l2, .inr (2, [.int 0, .ref dE, .int 0]))] sz)) 0 0 (va_A [(h0, .inr (13, [.int 0, .int 7, .int 0, .ref l1, .ref l2])), (l1, .inr (2, [.int 0, .ref dE, .int 0])), (l2, .inr (2, [.int 0, .ref dE, .int 0]))] sz) := by
  refine Met.ofW (cc := cX10_many) (maxL := 2) (ret := (some .int)) (by decide) rfl ?_
  intro p e s m args below meth c s₁ B hml hv
  obtain ⟨rfl, hsz, hP, hK, hD0, hTb, hZ⟩ := hv
  have hx := B.exec
  have hb := B.bytes
  have hr := B.returns
  have hts := atoms_spec (ws := wsX10_many) B.pre
  have hown : s.vm.findClass RX10 = some m.cls := findClass_of_methodNamed B.named
  have hlocks := B.notSynchronized
  subst hsz
  have hD := hD0.self (sz := s.heap.size)
  generalize hAe : va_A [(h0, .inr (13, [.int 0, .int 7, .int 0, .ref l1, .ref l2])), (l1, .inr (2, [.int 0, .ref dE, .int 0])), (l2, .inr (2, [.int 0, .ref dE, .int 0]))] s.heap.size = A at hD hZ ⊢
  have hA : ∀ q : Nat, s.heap.size ≤ q → A q := fun q h => by rw [← hAe]; exact Or.inr h
  have hS : va_S A s.heap s.heap [] := va_S.rf
  have hP : va_P (dC, dI) vwCl [(h0, .inr (13, [.int 0, .int 7, .int 0, .ref l1, .ref l2])), (l1, .inr (2, [.int 0, .ref dE, .int 0])), (l2, .inr (2, [.int 0, .ref dE, .int 0]))] s.heap := hP
  have hl := lv_entry ([.ref h0, .int k]) (n := 2) (Nat.le_of_ble_eq_true rfl)
  rw [lg_entry_eq]
  generalize (lg_sl ([.ref h0, .int k]) ++ List.replicate (2 - (lg_sl ([.ref h0, .int k])).length) Slot.unset).toArray = ls at hl ⊢
  have hl : lv_has ls 2 [(0, .ref h0), (1, .int k)] := hl
  obtain ⟨H, eH⟩ : ∃ z, z = s.heap := ⟨_, rfl⟩
  rw [← eH] at hP ⊢
  have hS : va_S A s.heap H [] := by rw [eH]; exact va_S.rf
  refine lv_aload_n hx hb dX10_many_0 rfl (lv_at hl 0 rfl) ?_
  refine lv_iconst (v := 0) hx hb dX10_many_1 (by decide) ?_
  refine va_put (D := (dC, dI)) (ci := 13) (v := .int 0) (ty := .int) (C := RX10) (T := TX10) (N := 5) hx hb hts (by decide +kernel) tyX10 tyX10_ok nmX10 hown hK hP hD hS 0 rfl rfl 0 (by decide) (hts (.fieldLink RX10 23 "VersorhallModel" "thrown" "I") (by decide +kernel)) (fun _ h9 => h9) rfl (by decide +kernel) rfl rfl (Nat.le_of_ble_eq_true rfl) dX10_many_2 (fun H locs hP hD hS => ?_)
  have hP : va_P (dC, dI) vwCl [(h0, .inr (13, [.int 0, .int 7, .int 0, .ref l1, .ref l2])), (l1, .inr (2, [.int 0, .ref dE, .int 0])), (l2, .inr (2, [.int 0, .ref dE, .int 0]))] H := hP
  have hD : va_D A [(h0, .inr (13, [.int 0, .int 7, .int 0, .ref l1, .ref l2])), (l1, .inr (2, [.int 0, .ref dE, .int 0])), (l2, .inr (2, [.int 0, .ref dE, .int 0]))] := hD
  refine lv_iload_n hx hb dX10_many_5 rfl (lv_at hl 1 rfl) ?_
  refine lv_iconst (v := 0) hx hb dX10_many_6 (by decide) ?_
  refine lv_bipush (v := 7) hx hb dX10_many_7 (by decide) ?_
  have hPc := hP.sub (ws' := []) [] rfl
  have hDc := hD.sub (ws' := []) [] (by decide) rfl
  have hKc := hK.sub (tys' := []) [] rfl
  have hFc := va_free (wc := []) hD hS hA [] rfl
  refine va_calli (va_runS (As := [.int k, .int 0, .int 7]) (rest := []) ⟨hx, hb, hml, hown, hts⟩ (c_M_in_7_no l dC dI dE k H.size hm) (va_cwS 3 hts gX10_many_X10_in rfl rfl rfl (by decide +kernel) ⟨Nat.le_of_ble_eq_true rfl, Nat.le_of_ble_eq_true rfl⟩) ⟨fun a U g mk q => ⟨q.1, PB.blind q.2⟩, fun U hU hW => ⟨rfl, PB.call hPc hKc hDc hTb hZ hS hFc hU hW⟩⟩ rfl rfl hl.1 rfl (lv_room (Nat.le_of_ble_eq_true rfl)) dX10_many_9 ⟨Nat.le_of_ble_eq_true rfl, Nat.le_of_ble_eq_true rfl⟩) hS (fun q _ h => hFc q h) hFc (fun r u t H locs ht hvm hw hB hz1 hk1 hS => ?_)
  obtain ⟨hP, hD, hK⟩ := PE.join (wc := []) (wr := [(h0, .inr (13, [.int 0, .int 7, .int 0, .ref l1, .ref l2])), (l1, .inr (2, [.int 0, .ref dE, .int 0])), (l2, .inr (2, [.int 0, .ref dE, .int 0]))]) (w1 := []) (tr := []) (t1 := []) hP hD hK [] [0, 1, 2] [] rfl rfl rfl (by decide) (by decide) hk1 hFc ht hvm hB
  have hP : va_P (dC, dI) vwCl [(h0, .inr (13, [.int 0, .int 7, .int 0, .ref l1, .ref l2])), (l1, .inr (2, [.int 0, .ref dE, .int 0])), (l2, .inr (2, [.int 0, .ref dE, .int 0]))] H := hP
  have hD : va_D A [(h0, .inr (13, [.int 0, .int 7, .int 0, .ref l1, .ref l2])), (l1, .inr (2, [.int 0, .ref dE, .int 0])), (l2, .inr (2, [.int 0, .ref dE, .int 0]))] := hD
  have hK : va_K (dC, dI) vwCl [] s := hK
  subst hw
  refine lv_if_ne (tgt := 21) hx hb dX10_many_12 (by decide) (fun c9 => absurd (by decide) c9) (fun _ => ?_)
  refine lv_aload_n hx hb dX10_many_15 rfl (lv_at hl 0 rfl) ?_
  refine lv_iconst (v := 1) hx hb dX10_many_16 (by decide) ?_
  have hPc := hP.sub (ws' := [(h0, .inr (13, [.int 0, .int 7, .int 0, .ref l1, .ref l2])), (l1, .inr (2, [.int 0, .ref dE, .int 0])), (l2, .inr (2, [.int 0, .ref dE, .int 0]))]) [0, 1, 2] rfl
  have hDc := hD.sub (ws' := [(h0, .inr (13, [.int 0, .int 7, .int 0, .ref l1, .ref l2])), (l1, .inr (2, [.int 0, .ref dE, .int 0])), (l2, .inr (2, [.int 0, .ref dE, .int 0]))]) [0, 1, 2] (by decide) rfl
  have hKc := hK.sub (tys' := []) [] rfl
  have hFc := va_free (wc := [(h0, .inr (13, [.int 0, .int 7, .int 0, .ref l1, .ref l2])), (l1, .inr (2, [.int 0, .ref dE, .int 0])), (l2, .inr (2, [.int 0, .ref dE, .int 0]))]) hD hS hA [0, 1, 2] rfl
  refine va_calli (va_runV (As := [.int 1]) (rest := []) ⟨hx, hb, hml, hown, hts⟩ (c_M_no l dC dI dE h0 l1 l2 H.size) (cwV 1 hts gX10_many_X10_no rfl rfl rfl (by decide +kernel) ⟨Nat.le_of_ble_eq_true rfl, Nat.le_of_ble_eq_true rfl⟩) ⟨fun a U g mk q => ⟨q.1, PB.blind q.2⟩, va_recv hKc hPc (ci := 13) (q0 := 0) rfl rfl, fun U hU hW => ⟨rfl, PB.call hPc hKc hDc hTb hZ hS hFc hU hW⟩⟩ rfl rfl hl.1 rfl (lv_room (Nat.le_of_ble_eq_true rfl)) dX10_many_17 ⟨Nat.le_of_ble_eq_true rfl, Nat.le_of_ble_eq_true rfl⟩) hS (fun q _ h => hFc q h) hFc (fun r u t H locs ht hvm hw hB hz1 hk1 hS => ?_)
  obtain ⟨hP, hD, hK⟩ := PE.join (wc := [(h0, .inr (13, [.int 0, .int 7, .int 0, .ref l1, .ref l2])), (l1, .inr (2, [.int 0, .ref dE, .int 0])), (l2, .inr (2, [.int 0, .ref dE, .int 0]))]) (wr := []) (w1 := [(h0, .inr (13, [.int 1, .int 7, .int 0, .ref l1, .ref l2])), (l1, .inr (2, [.int 0, .ref dE, .int 0])), (l2, .inr (2, [.int 0, .ref dE, .int 0]))]) (tr := []) (t1 := []) hP hD hK [0, 1, 2] [] [] rfl rfl rfl (by decide) (by decide) hk1 hFc ht hvm hB
  have hP : va_P (dC, dI) vwCl [(h0, .inr (13, [.int 1, .int 7, .int 0, .ref l1, .ref l2])), (l1, .inr (2, [.int 0, .ref dE, .int 0])), (l2, .inr (2, [.int 0, .ref dE, .int 0]))] H := hP
  have hD : va_D A [(h0, .inr (13, [.int 1, .int 7, .int 0, .ref l1, .ref l2])), (l1, .inr (2, [.int 0, .ref dE, .int 0])), (l2, .inr (2, [.int 0, .ref dE, .int 0]))] := hD
  have hK : va_K (dC, dI) vwCl [] s := hK
  subst hw
  have hP9 := hP.sub (ws' := [(h0, .inr (13, [.int 1, .int 7, .int 0, .ref l1, .ref l2])), (l1, .inr (2, [.int 0, .ref dE, .int 0])), (l2, .inr (2, [.int 0, .ref dE, .int 0]))]) [0, 1, 2] rfl
  have hD9 := hD.sub (ws' := [(h0, .inr (13, [.int 1, .int 7, .int 0, .ref l1, .ref l2])), (l1, .inr (2, [.int 0, .ref dE, .int 0])), (l2, .inr (2, [.int 0, .ref dE, .int 0]))]) [0, 1, 2] (by decide) rfl
  have hK9 := hK.sub (tys' := []) [] rfl
  refine W.widen (k := 0) (n := 0) (Nat.le_of_ble_eq_true rfl) (Nat.le_of_ble_eq_true rfl) ?_
  exact W.iret (v := 0) hx hb hr (fun t ht hW => ⟨⟨_, (), rfl, rfl, PE.mk hP9 hK9 hD9 ht hW⟩, hS.F ht⟩) hS.2.2 dX10_many_20

set_option maxHeartbeats 4000000 in
set_option maxRecDepth 100000 in
/-- c_M_prime_3 -/
theorem c_M_prime_3 (l : Launch) (dC : Nat → ClassId) (dI : Nat → Nat → Nat) (dE : Nat) (h0 : Nat) (l1 : Nat) (l2 : Nat) (sz : Nat) : Met l yX10_prime wsX10_prime ({ frames := 1, cells := 0, slots := 0, locals := 20 }) (va_Pc [.ref h0, .int 3] (PB dC dI dE [] [(h0, .inr (13, [.int 0, .int 7, .int 0, .ref l1, .ref l2])), (l1, .inr (2, [.int 0, .ref dE, .int 0])), (l2, .inr (2, [.int 0, .ref dE, .int 0]))] sz)) (va_Qi (fun (r : Int32) (_ : Unit) => r = 7) (fun (_ : Unit) (t : State) => PE dC dI [] [(h0, .inr (13, [.int 0, .int 3, .int 0, .ref l1, .ref l2])), (l2, .inr (2, [.int 0, .ref dE, .int 0])), (l1, .inr (2, [.int 0, .ref dE, .int 0]))] (va_A [(h0, .inr (13, [.int 0, .int 7, .int 0, .ref l1, .ref l2])), (l1, .inr (2, [.int 0, .ref dE, .int 0])), (l2, .inr (2, [.int 0, .ref dE, .int 0]))] sz) t) (va_A [(h0, .inr (13, [.int 0, .int 7, .int 0, .ref l1, .ref l2])), (l1, .inr (2, [.int 0, .ref dE, .int 0])), (l2, .inr (2, [.int 0, .ref dE, .int 0]))] sz)) 0 0 (va_A [(h0, .inr (13, [.int 0, .int 7, .int 0, .ref l1, .ref l2])), (l1, .inr (2, [.int 0, .ref dE, .int 0])), (l2, .inr (2, [.int 0, .ref dE, .int 0]))] sz) := by
  refine Met.ofW (cc := cX10_prime) (maxL := 3) (ret := (some .int)) (by decide) rfl ?_
  intro p e s m args below meth c s₁ B hml hv
  obtain ⟨rfl, hsz, hP, hK, hD0, hTb, hZ⟩ := hv
  have hx := B.exec
  have hb := B.bytes
  have hr := B.returns
  have hts := atoms_spec (ws := wsX10_prime) B.pre
  have hown : s.vm.findClass RX10 = some m.cls := findClass_of_methodNamed B.named
  have hlocks := B.notSynchronized
  subst hsz
  have hD := hD0.self (sz := s.heap.size)
  generalize hAe : va_A [(h0, .inr (13, [.int 0, .int 7, .int 0, .ref l1, .ref l2])), (l1, .inr (2, [.int 0, .ref dE, .int 0])), (l2, .inr (2, [.int 0, .ref dE, .int 0]))] s.heap.size = A at hD hZ ⊢
  have hA : ∀ q : Nat, s.heap.size ≤ q → A q := fun q h => by rw [← hAe]; exact Or.inr h
  have hS : va_S A s.heap s.heap [] := va_S.rf
  have hP : va_P (dC, dI) vwCl [(h0, .inr (13, [.int 0, .int 7, .int 0, .ref l1, .ref l2])), (l1, .inr (2, [.int 0, .ref dE, .int 0])), (l2, .inr (2, [.int 0, .ref dE, .int 0]))] s.heap := hP
  have hl := lv_entry ([.ref h0, .int 3]) (n := 3) (Nat.le_of_ble_eq_true rfl)
  rw [lg_entry_eq]
  generalize (lg_sl ([.ref h0, .int 3]) ++ List.replicate (3 - (lg_sl ([.ref h0, .int 3])).length) Slot.unset).toArray = ls at hl ⊢
  have hl : lv_has ls 3 [(0, .ref h0), (1, .int 3)] := hl
  obtain ⟨H, eH⟩ : ∃ z, z = s.heap := ⟨_, rfl⟩
  rw [← eH] at hP ⊢
  have hS : va_S A s.heap H [] := by rw [eH]; exact va_S.rf
  refine lv_aload_n hx hb dX10_prime_0 rfl (lv_at hl 0 rfl) ?_
  refine lv_iconst (v := 0) hx hb dX10_prime_1 (by decide) ?_
  refine va_put (D := (dC, dI)) (ci := 13) (v := .int 0) (ty := .int) (C := RX10) (T := TX10) (N := 5) hx hb hts (by decide +kernel) tyX10 tyX10_ok nmX10 hown hK hP hD hS 0 rfl rfl 0 (by decide) (hts (.fieldLink RX10 23 "VersorhallModel" "thrown" "I") (by decide +kernel)) (fun _ h9 => h9) rfl (by decide +kernel) rfl rfl (Nat.le_of_ble_eq_true rfl) dX10_prime_2 (fun H locs hP hD hS => ?_)
  have hP : va_P (dC, dI) vwCl [(h0, .inr (13, [.int 0, .int 7, .int 0, .ref l1, .ref l2])), (l1, .inr (2, [.int 0, .ref dE, .int 0])), (l2, .inr (2, [.int 0, .ref dE, .int 0]))] H := hP
  have hD : va_D A [(h0, .inr (13, [.int 0, .int 7, .int 0, .ref l1, .ref l2])), (l1, .inr (2, [.int 0, .ref dE, .int 0])), (l2, .inr (2, [.int 0, .ref dE, .int 0]))] := hD
  refine lv_iload_n hx hb dX10_prime_5 rfl (lv_at hl 1 rfl) ?_
  refine lv_iconst (v := 3) hx hb dX10_prime_6 (by decide) ?_
  refine lv_icmp_eq (tgt := 27) hx hb dX10_prime_7 (by decide) (fun _ => ?_) (fun c9 => absurd (by decide) c9)
  refine lv_aload_n hx hb dX10_prime_27 rfl (lv_at hl 0 rfl) ?_
  refine va_get (D := (dC, dI)) (ci := 13) (v := .ref l1) (C := RX10) (T := TX10) (N := 5) hx hb hts (by decide +kernel) hown hK hP 0 rfl rfl 3 (by decide) (hts (.fieldLink RX10 16 "VersorhallModel" "algebras" "Ljava/util/List;") (by decide +kernel)) (fun _ h9 => h9) rfl dX10_prime_28 ?_
  have hPc := hP.sub (ws' := [(l1, .inr (2, [.int 0, .ref dE, .int 0]))]) [1] rfl
  have hDc := hD.sub (ws' := [(l1, .inr (2, [.int 0, .ref dE, .int 0]))]) [1] (by decide) rfl
  have hKc := hK.sub (tys' := []) [] rfl
  have hFc := va_free (wc := [(l1, .inr (2, [.int 0, .ref dE, .int 0]))]) hD hS hA [1] rfl
  refine va_callFi (va_runF ((hK.1 2 _ rfl).2) (As := []) (rest := []) ⟨hx, hb, hml, hown, hts⟩ (c_List_size l dC dI dE l1 0 dE 0 H.size) (va_cwF 0 hts gX10_prime_Jx4a65c_size_8abf5_f30Jx4a65c rfl rfl rfl (Tb_w1 hTb) (by decide +kernel) ⟨Nat.le_of_ble_eq_true rfl, Nat.le_of_ble_eq_true rfl⟩) ⟨fun a U g mk q => ⟨q.1, PB.blind q.2⟩, va_recv hKc hPc (ci := 2) (q0 := 0) rfl rfl, fun U hU hW => ⟨rfl, PB.call hPc hKc hDc hTb hZ hS hFc hU hW⟩⟩ rfl rfl hl.1 rfl (lv_room (Nat.le_of_ble_eq_true rfl)) dX10_prime_31 ⟨Nat.le_of_ble_eq_true rfl, Nat.le_of_ble_eq_true rfl⟩) hS (fun q _ h => hFc q h) hFc (fun r u t H locs ht hvm hw hB hz1 hk1 hS => ?_)
  obtain ⟨hP, hD, hK⟩ := PE.join (wc := [(l1, .inr (2, [.int 0, .ref dE, .int 0]))]) (wr := [(h0, .inr (13, [.int 0, .int 7, .int 0, .ref l1, .ref l2])), (l2, .inr (2, [.int 0, .ref dE, .int 0]))]) (w1 := [(l1, .inr (2, [.int 0, .ref dE, .int 0]))]) (tr := []) (t1 := []) hP hD hK [1] [0, 2] [] rfl rfl rfl (by decide) (by decide) hk1 hFc ht hvm hB
  have hP : va_P (dC, dI) vwCl [(h0, .inr (13, [.int 0, .int 7, .int 0, .ref l1, .ref l2])), (l2, .inr (2, [.int 0, .ref dE, .int 0])), (l1, .inr (2, [.int 0, .ref dE, .int 0]))] H := hP
  have hD : va_D A [(h0, .inr (13, [.int 0, .int 7, .int 0, .ref l1, .ref l2])), (l2, .inr (2, [.int 0, .ref dE, .int 0])), (l1, .inr (2, [.int 0, .ref dE, .int 0]))] := hD
  have hK : va_K (dC, dI) vwCl [] s := hK
  subst hw
  refine lv_if_le (tgt := 45) hx hb dX10_prime_36 (by decide) (fun _ => ?_) (fun c9 => absurd (by decide) c9)
  refine lv_aload_n hx hb dX10_prime_45 rfl (lv_at hl 0 rfl) ?_
  refine va_get (D := (dC, dI)) (ci := 13) (v := .int 7) (C := RX10) (T := TX10) (N := 5) hx hb hts (by decide +kernel) hown hK hP 0 rfl rfl 1 (by decide) (hts (.fieldLink RX10 7 "VersorhallModel" "p" "I") (by decide +kernel)) (fun _ h9 => h9) rfl dX10_prime_46 ?_
  refine lv_istore_n (lv' := [(2, .int 7), (0, .ref h0), (1, .int 3)]) hx hb dX10_prime_49 rfl hl (by decide) rfl (fun ls hl => ?_)
  refine lv_aload_n hx hb dX10_prime_50 rfl (lv_at hl 1 rfl) ?_
  refine lv_iload_n hx hb dX10_prime_51 rfl (lv_at hl 2 rfl) ?_
  refine va_put (D := (dC, dI)) (ci := 13) (v := .int 3) (ty := .int) (C := RX10) (T := TX10) (N := 5) hx hb hts (by decide +kernel) tyX10 tyX10_ok nmX10 hown hK hP hD hS 0 rfl rfl 1 (by decide) (hts (.fieldLink RX10 7 "VersorhallModel" "p" "I") (by decide +kernel)) (fun _ h9 => h9) rfl (by decide +kernel) rfl rfl (Nat.le_of_ble_eq_true rfl) dX10_prime_52 (fun H locs hP hD hS => ?_)
  have hP : va_P (dC, dI) vwCl [(h0, .inr (13, [.int 0, .int 3, .int 0, .ref l1, .ref l2])), (l2, .inr (2, [.int 0, .ref dE, .int 0])), (l1, .inr (2, [.int 0, .ref dE, .int 0]))] H := hP
  have hD : va_D A [(h0, .inr (13, [.int 0, .int 3, .int 0, .ref l1, .ref l2])), (l2, .inr (2, [.int 0, .ref dE, .int 0])), (l1, .inr (2, [.int 0, .ref dE, .int 0]))] := hD
  refine lv_iload_n hx hb dX10_prime_55 rfl (lv_at hl 0 rfl) ?_
  have hP9 := hP.sub (ws' := [(h0, .inr (13, [.int 0, .int 3, .int 0, .ref l1, .ref l2])), (l2, .inr (2, [.int 0, .ref dE, .int 0])), (l1, .inr (2, [.int 0, .ref dE, .int 0]))]) [0, 1, 2] rfl
  have hD9 := hD.sub (ws' := [(h0, .inr (13, [.int 0, .int 3, .int 0, .ref l1, .ref l2])), (l2, .inr (2, [.int 0, .ref dE, .int 0])), (l1, .inr (2, [.int 0, .ref dE, .int 0]))]) [0, 1, 2] (by decide) rfl
  have hK9 := hK.sub (tys' := []) [] rfl
  refine W.widen (k := 0) (n := 0) (Nat.le_of_ble_eq_true rfl) (Nat.le_of_ble_eq_true rfl) ?_
  exact W.iret (v := 7) hx hb hr (fun t ht hW => ⟨⟨_, (), rfl, rfl, PE.mk hP9 hK9 hD9 ht hW⟩, hS.F ht⟩) hS.2.2 dX10_prime_56

set_option maxHeartbeats 4000000 in
set_option maxRecDepth 100000 in
/-- c_M_prime_5 -/
theorem c_M_prime_5 (l : Launch) (dC : Nat → ClassId) (dI : Nat → Nat → Nat) (dE : Nat) (h0 : Nat) (l1 : Nat) (l2 : Nat) (sz : Nat) : Met l yX10_prime wsX10_prime ({ frames := 1, cells := 0, slots := 0, locals := 20 }) (va_Pc [.ref h0, .int 5] (PB dC dI dE [] [(h0, .inr (13, [.int 0, .int 7, .int 0, .ref l1, .ref l2])), (l1, .inr (2, [.int 0, .ref dE, .int 0])), (l2, .inr (2, [.int 0, .ref dE, .int 0]))] sz)) (va_Qi (fun (r : Int32) (_ : Unit) => r = 7) (fun (_ : Unit) (t : State) => PE dC dI [] [(h0, .inr (13, [.int 0, .int 5, .int 0, .ref l1, .ref l2])), (l2, .inr (2, [.int 0, .ref dE, .int 0])), (l1, .inr (2, [.int 0, .ref dE, .int 0]))] (va_A [(h0, .inr (13, [.int 0, .int 7, .int 0, .ref l1, .ref l2])), (l1, .inr (2, [.int 0, .ref dE, .int 0])), (l2, .inr (2, [.int 0, .ref dE, .int 0]))] sz) t) (va_A [(h0, .inr (13, [.int 0, .int 7, .int 0, .ref l1, .ref l2])), (l1, .inr (2, [.int 0, .ref dE, .int 0])), (l2, .inr (2, [.int 0, .ref dE, .int 0]))] sz)) 0 0 (va_A [(h0, .inr (13, [.int 0, .int 7, .int 0, .ref l1, .ref l2])), (l1, .inr (2, [.int 0, .ref dE, .int 0])), (l2, .inr (2, [.int 0, .ref dE, .int 0]))] sz) := by
  refine Met.ofW (cc := cX10_prime) (maxL := 3) (ret := (some .int)) (by decide) rfl ?_
  intro p e s m args below meth c s₁ B hml hv
  obtain ⟨rfl, hsz, hP, hK, hD0, hTb, hZ⟩ := hv
  have hx := B.exec
  have hb := B.bytes
  have hr := B.returns
  have hts := atoms_spec (ws := wsX10_prime) B.pre
  have hown : s.vm.findClass RX10 = some m.cls := findClass_of_methodNamed B.named
  have hlocks := B.notSynchronized
  subst hsz
  have hD := hD0.self (sz := s.heap.size)
  generalize hAe : va_A [(h0, .inr (13, [.int 0, .int 7, .int 0, .ref l1, .ref l2])), (l1, .inr (2, [.int 0, .ref dE, .int 0])), (l2, .inr (2, [.int 0, .ref dE, .int 0]))] s.heap.size = A at hD hZ ⊢
  have hA : ∀ q : Nat, s.heap.size ≤ q → A q := fun q h => by rw [← hAe]; exact Or.inr h
  have hS : va_S A s.heap s.heap [] := va_S.rf
  have hP : va_P (dC, dI) vwCl [(h0, .inr (13, [.int 0, .int 7, .int 0, .ref l1, .ref l2])), (l1, .inr (2, [.int 0, .ref dE, .int 0])), (l2, .inr (2, [.int 0, .ref dE, .int 0]))] s.heap := hP
  have hl := lv_entry ([.ref h0, .int 5]) (n := 3) (Nat.le_of_ble_eq_true rfl)
  rw [lg_entry_eq]
  generalize (lg_sl ([.ref h0, .int 5]) ++ List.replicate (3 - (lg_sl ([.ref h0, .int 5])).length) Slot.unset).toArray = ls at hl ⊢
  have hl : lv_has ls 3 [(0, .ref h0), (1, .int 5)] := hl
  obtain ⟨H, eH⟩ : ∃ z, z = s.heap := ⟨_, rfl⟩
  rw [← eH] at hP ⊢
  have hS : va_S A s.heap H [] := by rw [eH]; exact va_S.rf
  refine lv_aload_n hx hb dX10_prime_0 rfl (lv_at hl 0 rfl) ?_
  refine lv_iconst (v := 0) hx hb dX10_prime_1 (by decide) ?_
  refine va_put (D := (dC, dI)) (ci := 13) (v := .int 0) (ty := .int) (C := RX10) (T := TX10) (N := 5) hx hb hts (by decide +kernel) tyX10 tyX10_ok nmX10 hown hK hP hD hS 0 rfl rfl 0 (by decide) (hts (.fieldLink RX10 23 "VersorhallModel" "thrown" "I") (by decide +kernel)) (fun _ h9 => h9) rfl (by decide +kernel) rfl rfl (Nat.le_of_ble_eq_true rfl) dX10_prime_2 (fun H locs hP hD hS => ?_)
  have hP : va_P (dC, dI) vwCl [(h0, .inr (13, [.int 0, .int 7, .int 0, .ref l1, .ref l2])), (l1, .inr (2, [.int 0, .ref dE, .int 0])), (l2, .inr (2, [.int 0, .ref dE, .int 0]))] H := hP
  have hD : va_D A [(h0, .inr (13, [.int 0, .int 7, .int 0, .ref l1, .ref l2])), (l1, .inr (2, [.int 0, .ref dE, .int 0])), (l2, .inr (2, [.int 0, .ref dE, .int 0]))] := hD
  refine lv_iload_n hx hb dX10_prime_5 rfl (lv_at hl 1 rfl) ?_
  refine lv_iconst (v := 3) hx hb dX10_prime_6 (by decide) ?_
  refine lv_icmp_eq (tgt := 27) hx hb dX10_prime_7 (by decide) (fun c9 => absurd c9 (by decide)) (fun _ => ?_)
  refine lv_iload_n hx hb dX10_prime_10 rfl (lv_at hl 1 rfl) ?_
  refine lv_iconst (v := 5) hx hb dX10_prime_11 (by decide) ?_
  refine lv_icmp_eq (tgt := 27) hx hb dX10_prime_12 (by decide) (fun _ => ?_) (fun c9 => absurd (by decide) c9)
  refine lv_aload_n hx hb dX10_prime_27 rfl (lv_at hl 0 rfl) ?_
  refine va_get (D := (dC, dI)) (ci := 13) (v := .ref l1) (C := RX10) (T := TX10) (N := 5) hx hb hts (by decide +kernel) hown hK hP 0 rfl rfl 3 (by decide) (hts (.fieldLink RX10 16 "VersorhallModel" "algebras" "Ljava/util/List;") (by decide +kernel)) (fun _ h9 => h9) rfl dX10_prime_28 ?_
  have hPc := hP.sub (ws' := [(l1, .inr (2, [.int 0, .ref dE, .int 0]))]) [1] rfl
  have hDc := hD.sub (ws' := [(l1, .inr (2, [.int 0, .ref dE, .int 0]))]) [1] (by decide) rfl
  have hKc := hK.sub (tys' := []) [] rfl
  have hFc := va_free (wc := [(l1, .inr (2, [.int 0, .ref dE, .int 0]))]) hD hS hA [1] rfl
  refine va_callFi (va_runF ((hK.1 2 _ rfl).2) (As := []) (rest := []) ⟨hx, hb, hml, hown, hts⟩ (c_List_size l dC dI dE l1 0 dE 0 H.size) (va_cwF 0 hts gX10_prime_Jx4a65c_size_8abf5_f30Jx4a65c rfl rfl rfl (Tb_w1 hTb) (by decide +kernel) ⟨Nat.le_of_ble_eq_true rfl, Nat.le_of_ble_eq_true rfl⟩) ⟨fun a U g mk q => ⟨q.1, PB.blind q.2⟩, va_recv hKc hPc (ci := 2) (q0 := 0) rfl rfl, fun U hU hW => ⟨rfl, PB.call hPc hKc hDc hTb hZ hS hFc hU hW⟩⟩ rfl rfl hl.1 rfl (lv_room (Nat.le_of_ble_eq_true rfl)) dX10_prime_31 ⟨Nat.le_of_ble_eq_true rfl, Nat.le_of_ble_eq_true rfl⟩) hS (fun q _ h => hFc q h) hFc (fun r u t H locs ht hvm hw hB hz1 hk1 hS => ?_)
  obtain ⟨hP, hD, hK⟩ := PE.join (wc := [(l1, .inr (2, [.int 0, .ref dE, .int 0]))]) (wr := [(h0, .inr (13, [.int 0, .int 7, .int 0, .ref l1, .ref l2])), (l2, .inr (2, [.int 0, .ref dE, .int 0]))]) (w1 := [(l1, .inr (2, [.int 0, .ref dE, .int 0]))]) (tr := []) (t1 := []) hP hD hK [1] [0, 2] [] rfl rfl rfl (by decide) (by decide) hk1 hFc ht hvm hB
  have hP : va_P (dC, dI) vwCl [(h0, .inr (13, [.int 0, .int 7, .int 0, .ref l1, .ref l2])), (l2, .inr (2, [.int 0, .ref dE, .int 0])), (l1, .inr (2, [.int 0, .ref dE, .int 0]))] H := hP
  have hD : va_D A [(h0, .inr (13, [.int 0, .int 7, .int 0, .ref l1, .ref l2])), (l2, .inr (2, [.int 0, .ref dE, .int 0])), (l1, .inr (2, [.int 0, .ref dE, .int 0]))] := hD
  have hK : va_K (dC, dI) vwCl [] s := hK
  subst hw
  refine lv_if_le (tgt := 45) hx hb dX10_prime_36 (by decide) (fun _ => ?_) (fun c9 => absurd (by decide) c9)
  refine lv_aload_n hx hb dX10_prime_45 rfl (lv_at hl 0 rfl) ?_
  refine va_get (D := (dC, dI)) (ci := 13) (v := .int 7) (C := RX10) (T := TX10) (N := 5) hx hb hts (by decide +kernel) hown hK hP 0 rfl rfl 1 (by decide) (hts (.fieldLink RX10 7 "VersorhallModel" "p" "I") (by decide +kernel)) (fun _ h9 => h9) rfl dX10_prime_46 ?_
  refine lv_istore_n (lv' := [(2, .int 7), (0, .ref h0), (1, .int 5)]) hx hb dX10_prime_49 rfl hl (by decide) rfl (fun ls hl => ?_)
  refine lv_aload_n hx hb dX10_prime_50 rfl (lv_at hl 1 rfl) ?_
  refine lv_iload_n hx hb dX10_prime_51 rfl (lv_at hl 2 rfl) ?_
  refine va_put (D := (dC, dI)) (ci := 13) (v := .int 5) (ty := .int) (C := RX10) (T := TX10) (N := 5) hx hb hts (by decide +kernel) tyX10 tyX10_ok nmX10 hown hK hP hD hS 0 rfl rfl 1 (by decide) (hts (.fieldLink RX10 7 "VersorhallModel" "p" "I") (by decide +kernel)) (fun _ h9 => h9) rfl (by decide +kernel) rfl rfl (Nat.le_of_ble_eq_true rfl) dX10_prime_52 (fun H locs hP hD hS => ?_)
  have hP : va_P (dC, dI) vwCl [(h0, .inr (13, [.int 0, .int 5, .int 0, .ref l1, .ref l2])), (l2, .inr (2, [.int 0, .ref dE, .int 0])), (l1, .inr (2, [.int 0, .ref dE, .int 0]))] H := hP
  have hD : va_D A [(h0, .inr (13, [.int 0, .int 5, .int 0, .ref l1, .ref l2])), (l2, .inr (2, [.int 0, .ref dE, .int 0])), (l1, .inr (2, [.int 0, .ref dE, .int 0]))] := hD
  refine lv_iload_n hx hb dX10_prime_55 rfl (lv_at hl 0 rfl) ?_
  have hP9 := hP.sub (ws' := [(h0, .inr (13, [.int 0, .int 5, .int 0, .ref l1, .ref l2])), (l2, .inr (2, [.int 0, .ref dE, .int 0])), (l1, .inr (2, [.int 0, .ref dE, .int 0]))]) [0, 1, 2] rfl
  have hD9 := hD.sub (ws' := [(h0, .inr (13, [.int 0, .int 5, .int 0, .ref l1, .ref l2])), (l2, .inr (2, [.int 0, .ref dE, .int 0])), (l1, .inr (2, [.int 0, .ref dE, .int 0]))]) [0, 1, 2] (by decide) rfl
  have hK9 := hK.sub (tys' := []) [] rfl
  refine W.widen (k := 0) (n := 0) (Nat.le_of_ble_eq_true rfl) (Nat.le_of_ble_eq_true rfl) ?_
  exact W.iret (v := 7) hx hb hr (fun t ht hW => ⟨⟨_, (), rfl, rfl, PE.mk hP9 hK9 hD9 ht hW⟩, hS.F ht⟩) hS.2.2 dX10_prime_56

set_option maxHeartbeats 4000000 in
set_option maxRecDepth 100000 in
/-- c_M_prime_7 -/
theorem c_M_prime_7 (l : Launch) (dC : Nat → ClassId) (dI : Nat → Nat → Nat) (dE : Nat) (h0 : Nat) (l1 : Nat) (l2 : Nat) (sz : Nat) : Met l yX10_prime wsX10_prime ({ frames := 1, cells := 0, slots := 0, locals := 20 }) (va_Pc [.ref h0, .int 7] (PB dC dI dE [] [(h0, .inr (13, [.int 0, .int 7, .int 0, .ref l1, .ref l2])), (l1, .inr (2, [.int 0, .ref dE, .int 0])), (l2, .inr (2, [.int 0, .ref dE, .int 0]))] sz)) (va_Qi (fun (r : Int32) (_ : Unit) => r = 7) (fun (_ : Unit) (t : State) => PE dC dI [] [(h0, .inr (13, [.int 0, .int 7, .int 0, .ref l1, .ref l2])), (l2, .inr (2, [.int 0, .ref dE, .int 0])), (l1, .inr (2, [.int 0, .ref dE, .int 0]))] (va_A [(h0, .inr (13, [.int 0, .int 7, .int 0, .ref l1, .ref l2])), (l1, .inr (2, [.int 0, .ref dE, .int 0])), (l2, .inr (2, [.int 0, .ref dE, .int 0]))] sz) t) (va_A [(h0, .inr (13, [.int 0, .int 7, .int 0, .ref l1, .ref l2])), (l1, .inr (2, [.int 0, .ref dE, .int 0])), (l2, .inr (2, [.int 0, .ref dE, .int 0]))] sz)) 0 0 (va_A [(h0, .inr (13, [.int 0, .int 7, .int 0, .ref l1, .ref l2])), (l1, .inr (2, [.int 0, .ref dE, .int 0])), (l2, .inr (2, [.int 0, .ref dE, .int 0]))] sz) := by
  refine Met.ofW (cc := cX10_prime) (maxL := 3) (ret := (some .int)) (by decide) rfl ?_
  intro p e s m args below meth c s₁ B hml hv
  obtain ⟨rfl, hsz, hP, hK, hD0, hTb, hZ⟩ := hv
  have hx := B.exec
  have hb := B.bytes
  have hr := B.returns
  have hts := atoms_spec (ws := wsX10_prime) B.pre
  have hown : s.vm.findClass RX10 = some m.cls := findClass_of_methodNamed B.named
  have hlocks := B.notSynchronized
  subst hsz
  have hD := hD0.self (sz := s.heap.size)
  generalize hAe : va_A [(h0, .inr (13, [.int 0, .int 7, .int 0, .ref l1, .ref l2])), (l1, .inr (2, [.int 0, .ref dE, .int 0])), (l2, .inr (2, [.int 0, .ref dE, .int 0]))] s.heap.size = A at hD hZ ⊢
  have hA : ∀ q : Nat, s.heap.size ≤ q → A q := fun q h => by rw [← hAe]; exact Or.inr h
  have hS : va_S A s.heap s.heap [] := va_S.rf
  have hP : va_P (dC, dI) vwCl [(h0, .inr (13, [.int 0, .int 7, .int 0, .ref l1, .ref l2])), (l1, .inr (2, [.int 0, .ref dE, .int 0])), (l2, .inr (2, [.int 0, .ref dE, .int 0]))] s.heap := hP
  have hl := lv_entry ([.ref h0, .int 7]) (n := 3) (Nat.le_of_ble_eq_true rfl)
  rw [lg_entry_eq]
  generalize (lg_sl ([.ref h0, .int 7]) ++ List.replicate (3 - (lg_sl ([.ref h0, .int 7])).length) Slot.unset).toArray = ls at hl ⊢
  have hl : lv_has ls 3 [(0, .ref h0), (1, .int 7)] := hl
  obtain ⟨H, eH⟩ : ∃ z, z = s.heap := ⟨_, rfl⟩
  rw [← eH] at hP ⊢
  have hS : va_S A s.heap H [] := by rw [eH]; exact va_S.rf
  refine lv_aload_n hx hb dX10_prime_0 rfl (lv_at hl 0 rfl) ?_
  refine lv_iconst (v := 0) hx hb dX10_prime_1 (by decide) ?_
  refine va_put (D := (dC, dI)) (ci := 13) (v := .int 0) (ty := .int) (C := RX10) (T := TX10) (N := 5) hx hb hts (by decide +kernel) tyX10 tyX10_ok nmX10 hown hK hP hD hS 0 rfl rfl 0 (by decide) (hts (.fieldLink RX10 23 "VersorhallModel" "thrown" "I") (by decide +kernel)) (fun _ h9 => h9) rfl (by decide +kernel) rfl rfl (Nat.le_of_ble_eq_true rfl) dX10_prime_2 (fun H locs hP hD hS => ?_)
  have hP : va_P (dC, dI) vwCl [(h0, .inr (13, [.int 0, .int 7, .int 0, .ref l1, .ref l2])), (l1, .inr (2, [.int 0, .ref dE, .int 0])), (l2, .inr (2, [.int 0, .ref dE, .int 0]))] H := hP
  have hD : va_D A [(h0, .inr (13, [.int 0, .int 7, .int 0, .ref l1, .ref l2])), (l1, .inr (2, [.int 0, .ref dE, .int 0])), (l2, .inr (2, [.int 0, .ref dE, .int 0]))] := hD
  refine lv_iload_n hx hb dX10_prime_5 rfl (lv_at hl 1 rfl) ?_
  refine lv_iconst (v := 3) hx hb dX10_prime_6 (by decide) ?_
  refine lv_icmp_eq (tgt := 27) hx hb dX10_prime_7 (by decide) (fun c9 => absurd c9 (by decide)) (fun _ => ?_)
  refine lv_iload_n hx hb dX10_prime_10 rfl (lv_at hl 1 rfl) ?_
  refine lv_iconst (v := 5) hx hb dX10_prime_11 (by decide) ?_
  refine lv_icmp_eq (tgt := 27) hx hb dX10_prime_12 (by decide) (fun c9 => absurd c9 (by decide)) (fun _ => ?_)
  refine lv_iload_n hx hb dX10_prime_15 rfl (lv_at hl 1 rfl) ?_
  refine lv_bipush (v := 7) hx hb dX10_prime_16 (by decide) ?_
  refine lv_icmp_eq (tgt := 27) hx hb dX10_prime_18 (by decide) (fun _ => ?_) (fun c9 => absurd (by decide) c9)
  refine lv_aload_n hx hb dX10_prime_27 rfl (lv_at hl 0 rfl) ?_
  refine va_get (D := (dC, dI)) (ci := 13) (v := .ref l1) (C := RX10) (T := TX10) (N := 5) hx hb hts (by decide +kernel) hown hK hP 0 rfl rfl 3 (by decide) (hts (.fieldLink RX10 16 "VersorhallModel" "algebras" "Ljava/util/List;") (by decide +kernel)) (fun _ h9 => h9) rfl dX10_prime_28 ?_
  have hPc := hP.sub (ws' := [(l1, .inr (2, [.int 0, .ref dE, .int 0]))]) [1] rfl
  have hDc := hD.sub (ws' := [(l1, .inr (2, [.int 0, .ref dE, .int 0]))]) [1] (by decide) rfl
  have hKc := hK.sub (tys' := []) [] rfl
  have hFc := va_free (wc := [(l1, .inr (2, [.int 0, .ref dE, .int 0]))]) hD hS hA [1] rfl
  refine va_callFi (va_runF ((hK.1 2 _ rfl).2) (As := []) (rest := []) ⟨hx, hb, hml, hown, hts⟩ (c_List_size l dC dI dE l1 0 dE 0 H.size) (va_cwF 0 hts gX10_prime_Jx4a65c_size_8abf5_f30Jx4a65c rfl rfl rfl (Tb_w1 hTb) (by decide +kernel) ⟨Nat.le_of_ble_eq_true rfl, Nat.le_of_ble_eq_true rfl⟩) ⟨fun a U g mk q => ⟨q.1, PB.blind q.2⟩, va_recv hKc hPc (ci := 2) (q0 := 0) rfl rfl, fun U hU hW => ⟨rfl, PB.call hPc hKc hDc hTb hZ hS hFc hU hW⟩⟩ rfl rfl hl.1 rfl (lv_room (Nat.le_of_ble_eq_true rfl)) dX10_prime_31 ⟨Nat.le_of_ble_eq_true rfl, Nat.le_of_ble_eq_true rfl⟩) hS (fun q _ h => hFc q h) hFc (fun r u t H locs ht hvm hw hB hz1 hk1 hS => ?_)
  obtain ⟨hP, hD, hK⟩ := PE.join (wc := [(l1, .inr (2, [.int 0, .ref dE, .int 0]))]) (wr := [(h0, .inr (13, [.int 0, .int 7, .int 0, .ref l1, .ref l2])), (l2, .inr (2, [.int 0, .ref dE, .int 0]))]) (w1 := [(l1, .inr (2, [.int 0, .ref dE, .int 0]))]) (tr := []) (t1 := []) hP hD hK [1] [0, 2] [] rfl rfl rfl (by decide) (by decide) hk1 hFc ht hvm hB
  have hP : va_P (dC, dI) vwCl [(h0, .inr (13, [.int 0, .int 7, .int 0, .ref l1, .ref l2])), (l2, .inr (2, [.int 0, .ref dE, .int 0])), (l1, .inr (2, [.int 0, .ref dE, .int 0]))] H := hP
  have hD : va_D A [(h0, .inr (13, [.int 0, .int 7, .int 0, .ref l1, .ref l2])), (l2, .inr (2, [.int 0, .ref dE, .int 0])), (l1, .inr (2, [.int 0, .ref dE, .int 0]))] := hD
  have hK : va_K (dC, dI) vwCl [] s := hK
  subst hw
  refine lv_if_le (tgt := 45) hx hb dX10_prime_36 (by decide) (fun _ => ?_) (fun c9 => absurd (by decide) c9)
  refine lv_aload_n hx hb dX10_prime_45 rfl (lv_at hl 0 rfl) ?_
  refine va_get (D := (dC, dI)) (ci := 13) (v := .int 7) (C := RX10) (T := TX10) (N := 5) hx hb hts (by decide +kernel) hown hK hP 0 rfl rfl 1 (by decide) (hts (.fieldLink RX10 7 "VersorhallModel" "p" "I") (by decide +kernel)) (fun _ h9 => h9) rfl dX10_prime_46 ?_
  refine lv_istore_n (lv' := [(2, .int 7), (0, .ref h0), (1, .int 7)]) hx hb dX10_prime_49 rfl hl (by decide) rfl (fun ls hl => ?_)
  refine lv_aload_n hx hb dX10_prime_50 rfl (lv_at hl 1 rfl) ?_
  refine lv_iload_n hx hb dX10_prime_51 rfl (lv_at hl 2 rfl) ?_
  refine va_put (D := (dC, dI)) (ci := 13) (v := .int 7) (ty := .int) (C := RX10) (T := TX10) (N := 5) hx hb hts (by decide +kernel) tyX10 tyX10_ok nmX10 hown hK hP hD hS 0 rfl rfl 1 (by decide) (hts (.fieldLink RX10 7 "VersorhallModel" "p" "I") (by decide +kernel)) (fun _ h9 => h9) rfl (by decide +kernel) rfl rfl (Nat.le_of_ble_eq_true rfl) dX10_prime_52 (fun H locs hP hD hS => ?_)
  have hP : va_P (dC, dI) vwCl [(h0, .inr (13, [.int 0, .int 7, .int 0, .ref l1, .ref l2])), (l2, .inr (2, [.int 0, .ref dE, .int 0])), (l1, .inr (2, [.int 0, .ref dE, .int 0]))] H := hP
  have hD : va_D A [(h0, .inr (13, [.int 0, .int 7, .int 0, .ref l1, .ref l2])), (l2, .inr (2, [.int 0, .ref dE, .int 0])), (l1, .inr (2, [.int 0, .ref dE, .int 0]))] := hD
  refine lv_iload_n hx hb dX10_prime_55 rfl (lv_at hl 0 rfl) ?_
  have hP9 := hP.sub (ws' := [(h0, .inr (13, [.int 0, .int 7, .int 0, .ref l1, .ref l2])), (l2, .inr (2, [.int 0, .ref dE, .int 0])), (l1, .inr (2, [.int 0, .ref dE, .int 0]))]) [0, 1, 2] rfl
  have hD9 := hD.sub (ws' := [(h0, .inr (13, [.int 0, .int 7, .int 0, .ref l1, .ref l2])), (l2, .inr (2, [.int 0, .ref dE, .int 0])), (l1, .inr (2, [.int 0, .ref dE, .int 0]))]) [0, 1, 2] (by decide) rfl
  have hK9 := hK.sub (tys' := []) [] rfl
  refine W.widen (k := 0) (n := 0) (Nat.le_of_ble_eq_true rfl) (Nat.le_of_ble_eq_true rfl) ?_
  exact W.iret (v := 7) hx hb hr (fun t ht hW => ⟨⟨_, (), rfl, rfl, PE.mk hP9 hK9 hD9 ht hW⟩, hS.F ht⟩) hS.2.2 dX10_prime_56

set_option maxHeartbeats 4000000 in
set_option maxRecDepth 100000 in
/-- c_M_prime_no -/
theorem c_M_prime_no (l : Launch) (dC : Nat → ClassId) (dI : Nat → Nat → Nat) (dE : Nat) (h0 : Nat) (l1 : Nat) (l2 : Nat) (k : Int32) (sz : Nat) (h3 : ¬ k = 3) (h5 : ¬ k = 5) (h7 : ¬ k = 7) : Met l yX10_prime wsX10_prime ({ frames := 1, cells := 0, slots := 0, locals := 21 }) (va_Pc [.ref h0, .int k] (PB dC dI dE [] [(h0, .inr (13, [.int 0, .int 7, .int 0, .ref l1, .ref l2])), (l1, .inr (2, [.int 0, .ref dE, .int 0])), (l2, .inr (2, [.int 0, .ref dE, .int 0]))] sz)) (va_Qi (fun (r : Int32) (_ : Unit) => r = 0) (fun (_ : Unit) (t : State) => PE dC dI [] [(h0, .inr (13, [.int 1, .int 7, .int 0, .ref l1, .ref l2])), (l1, .inr (2, [.int 0, .ref dE, .int 0])), (l2, .inr (2, [.int 0, .ref dE, .int 0]))] (va_A [(h0, .inr (13, [.int 0, .int 7, .int 0, .ref l1, .ref l2])), (l1, .inr (2, [.int 0, .ref dE, .int 0])), (l2, .inr (2, [.int 0, .ref dE, .int 0]))] sz) t) (va_A [(h0, .inr (13, [.int 0, .int 7, .int 0, .ref l1, .ref l2])), (l1, .inr (2, [.int 0, .ref dE, .int 0])), (l2, .inr (2, [.int 0, .ref dE, .int 0]))] sz)) 0 0 (va_A [(h0, .inr (13, [.int 0, .int 7, .int 0, .ref l1, .ref l2])), (l1, .inr (2, [.int 0, .ref dE, .int 0])), (l2, .inr (2, [.int 0, .ref dE, .int 0]))] sz) := by
  refine Met.ofW (cc := cX10_prime) (maxL := 3) (ret := (some .int)) (by decide) rfl ?_
  intro p e s m args below meth c s₁ B hml hv
  obtain ⟨rfl, hsz, hP, hK, hD0, hTb, hZ⟩ := hv
  have hx := B.exec
  have hb := B.bytes
  have hr := B.returns
  have hts := atoms_spec (ws := wsX10_prime) B.pre
  have hown : s.vm.findClass RX10 = some m.cls := findClass_of_methodNamed B.named
  have hlocks := B.notSynchronized
  subst hsz
  have hD := hD0.self (sz := s.heap.size)
  generalize hAe : va_A [(h0, .inr (13, [.int 0, .int 7, .int 0, .ref l1, .ref l2])), (l1, .inr (2, [.int 0, .ref dE, .int 0])), (l2, .inr (2, [.int 0, .ref dE, .int 0]))] s.heap.size = A at hD hZ ⊢
  have hA : ∀ q : Nat, s.heap.size ≤ q → A q := fun q h => by rw [← hAe]; exact Or.inr h
  have hS : va_S A s.heap s.heap [] := va_S.rf
  have hP : va_P (dC, dI) vwCl [(h0, .inr (13, [.int 0, .int 7, .int 0, .ref l1, .ref l2])), (l1, .inr (2, [.int 0, .ref dE, .int 0])), (l2, .inr (2, [.int 0, .ref dE, .int 0]))] s.heap := hP
  have hl := lv_entry ([.ref h0, .int k]) (n := 3) (Nat.le_of_ble_eq_true rfl)
  rw [lg_entry_eq]
  generalize (lg_sl ([.ref h0, .int k]) ++ List.replicate (3 - (lg_sl ([.ref h0, .int k])).length) Slot.unset).toArray = ls at hl ⊢
  have hl : lv_has ls 3 [(0, .ref h0), (1, .int k)] := hl
  obtain ⟨H, eH⟩ : ∃ z, z = s.heap := ⟨_, rfl⟩
  rw [← eH] at hP ⊢
  have hS : va_S A s.heap H [] := by rw [eH]; exact va_S.rf
  refine lv_aload_n hx hb dX10_prime_0 rfl (lv_at hl 0 rfl) ?_
  refine lv_iconst (v := 0) hx hb dX10_prime_1 (by decide) ?_
  refine va_put (D := (dC, dI)) (ci := 13) (v := .int 0) (ty := .int) (C := RX10) (T := TX10) (N := 5) hx hb hts (by decide +kernel) tyX10 tyX10_ok nmX10 hown hK hP hD hS 0 rfl rfl 0 (by decide) (hts (.fieldLink RX10 23 "VersorhallModel" "thrown" "I") (by decide +kernel)) (fun _ h9 => h9) rfl (by decide +kernel) rfl rfl (Nat.le_of_ble_eq_true rfl) dX10_prime_2 (fun H locs hP hD hS => ?_)
  have hP : va_P (dC, dI) vwCl [(h0, .inr (13, [.int 0, .int 7, .int 0, .ref l1, .ref l2])), (l1, .inr (2, [.int 0, .ref dE, .int 0])), (l2, .inr (2, [.int 0, .ref dE, .int 0]))] H := hP
  have hD : va_D A [(h0, .inr (13, [.int 0, .int 7, .int 0, .ref l1, .ref l2])), (l1, .inr (2, [.int 0, .ref dE, .int 0])), (l2, .inr (2, [.int 0, .ref dE, .int 0]))] := hD
  refine lv_iload_n hx hb dX10_prime_5 rfl (lv_at hl 1 rfl) ?_
  refine lv_iconst (v := 3) hx hb dX10_prime_6 (by decide) ?_
  refine lv_icmp_eq (tgt := 27) hx hb dX10_prime_7 (by decide) (fun c9 => absurd c9 h3) (fun _ => ?_)
  refine lv_iload_n hx hb dX10_prime_10 rfl (lv_at hl 1 rfl) ?_
  refine lv_iconst (v := 5) hx hb dX10_prime_11 (by decide) ?_
  refine lv_icmp_eq (tgt := 27) hx hb dX10_prime_12 (by decide) (fun c9 => absurd c9 h5) (fun _ => ?_)
  refine lv_iload_n hx hb dX10_prime_15 rfl (lv_at hl 1 rfl) ?_
  refine lv_bipush (v := 7) hx hb dX10_prime_16 (by decide) ?_
  refine lv_icmp_eq (tgt := 27) hx hb dX10_prime_18 (by decide) (fun c9 => absurd c9 h7) (fun _ => ?_)
  refine lv_aload_n hx hb dX10_prime_21 rfl (lv_at hl 0 rfl) ?_
  refine lv_iconst (v := 1) hx hb dX10_prime_22 (by decide) ?_
  have hPc := hP.sub (ws' := [(h0, .inr (13, [.int 0, .int 7, .int 0, .ref l1, .ref l2])), (l1, .inr (2, [.int 0, .ref dE, .int 0])), (l2, .inr (2, [.int 0, .ref dE, .int 0]))]) [0, 1, 2] rfl
  have hDc := hD.sub (ws' := [(h0, .inr (13, [.int 0, .int 7, .int 0, .ref l1, .ref l2])), (l1, .inr (2, [.int 0, .ref dE, .int 0])), (l2, .inr (2, [.int 0, .ref dE, .int 0]))]) [0, 1, 2] (by decide) rfl
  have hKc := hK.sub (tys' := []) [] rfl
  have hFc := va_free (wc := [(h0, .inr (13, [.int 0, .int 7, .int 0, .ref l1, .ref l2])), (l1, .inr (2, [.int 0, .ref dE, .int 0])), (l2, .inr (2, [.int 0, .ref dE, .int 0]))]) hD hS hA [0, 1, 2] rfl
  refine va_calli (va_runV (As := [.int 1]) (rest := []) ⟨hx, hb, hml, hown, hts⟩ (c_M_no l dC dI dE h0 l1 l2 H.size) (cwV 1 hts gX10_prime_X10_no rfl rfl rfl (by decide +kernel) ⟨Nat.le_of_ble_eq_true rfl, Nat.le_of_ble_eq_true rfl⟩) ⟨fun a U g mk q => ⟨q.1, PB.blind q.2⟩, va_recv hKc hPc (ci := 13) (q0 := 0) rfl rfl, fun U hU hW => ⟨rfl, PB.call hPc hKc hDc hTb hZ hS hFc hU hW⟩⟩ rfl rfl hl.1 rfl (lv_room (Nat.le_of_ble_eq_true rfl)) dX10_prime_23 ⟨Nat.le_of_ble_eq_true rfl, Nat.le_of_ble_eq_true rfl⟩) hS (fun q _ h => hFc q h) hFc (fun r u t H locs ht hvm hw hB hz1 hk1 hS => ?_)
  obtain ⟨hP, hD, hK⟩ := PE.join (wc := [(h0, .inr (13, [.int 0, .int 7, .int 0, .ref l1, .ref l2])), (l1, .inr (2, [.int 0, .ref dE, .int 0])), (l2, .inr (2, [.int 0, .ref dE, .int 0]))]) (wr := []) (w1 := [(h0, .inr (13, [.int 1, .int 7, .int 0, .ref l1, .ref l2])), (l1, .inr (2, [.int 0, .ref dE, .int 0])), (l2, .inr (2, [.int 0, .ref dE, .int 0]))]) (tr := []) (t1 := []) hP hD hK [0, 1, 2] [] [] rfl rfl rfl (by decide) (by decide) hk1 hFc ht hvm hB
  have hP : va_P (dC, dI) vwCl [(h0, .inr (13, [.int 1, .int 7, .int 0, .ref l1, .ref l2])), (l1, .inr (2, [.int 0, .ref dE, .int 0])), (l2, .inr (2, [.int 0, .ref dE, .int 0]))] H := hP
  have hD : va_D A [(h0, .inr (13, [.int 1, .int 7, .int 0, .ref l1, .ref l2])), (l1, .inr (2, [.int 0, .ref dE, .int 0])), (l2, .inr (2, [.int 0, .ref dE, .int 0]))] := hD
  have hK : va_K (dC, dI) vwCl [] s := hK
  subst hw
  have hP9 := hP.sub (ws' := [(h0, .inr (13, [.int 1, .int 7, .int 0, .ref l1, .ref l2])), (l1, .inr (2, [.int 0, .ref dE, .int 0])), (l2, .inr (2, [.int 0, .ref dE, .int 0]))]) [0, 1, 2] rfl
  have hD9 := hD.sub (ws' := [(h0, .inr (13, [.int 1, .int 7, .int 0, .ref l1, .ref l2])), (l1, .inr (2, [.int 0, .ref dE, .int 0])), (l2, .inr (2, [.int 0, .ref dE, .int 0]))]) [0, 1, 2] (by decide) rfl
  have hK9 := hK.sub (tys' := []) [] rfl
  refine W.widen (k := 0) (n := 0) (Nat.le_of_ble_eq_true rfl) (Nat.le_of_ble_eq_true rfl) ?_
  exact W.iret (v := 0) hx hb hr (fun t ht hW => ⟨⟨_, (), rfl, rfl, PE.mk hP9 hK9 hD9 ht hW⟩, hS.F ht⟩) hS.2.2 dX10_prime_26

set_option maxHeartbeats 4000000 in
set_option maxRecDepth 100000 in
/-- c_M_algebra_no -/
theorem c_M_algebra_no (l : Launch) (dC : Nat → ClassId) (dI : Nat → Nat → Nat) (dE : Nat) (h0 : Nat) (l1 : Nat) (l2 : Nat) (k : Int32) (sz : Nat) (n0 : ¬ k = 0) (n1 : ¬ k = 1) : Met l yX10_algebra wsX10_algebra ({ frames := 1, cells := 0, slots := 0, locals := 22 }) (va_Pc [.ref h0, .int k] (PB dC dI dE [] [(h0, .inr (13, [.int 0, .int 7, .int 0, .ref l1, .ref l2])), (l1, .inr (2, [.int 0, .ref dE, .int 0])), (l2, .inr (2, [.int 0, .ref dE, .int 0]))] sz)) (va_Qi (fun (r : Int32) (_ : Unit) => r = 0) (fun (_ : Unit) (t : State) => PE dC dI [] [(h0, .inr (13, [.int 1, .int 7, .int 0, .ref l1, .ref l2])), (l1, .inr (2, [.int 0, .ref dE, .int 0])), (l2, .inr (2, [.int 0, .ref dE, .int 0]))] (va_A [(h0, .inr (13, [.int 0, .int 7, .int 0, .ref l1, .ref l2])), (l1, .inr (2, [.int 0, .ref dE, .int 0])), (l2, .inr (2, [.int 0, .ref dE, .int 0]))] sz) t) (va_A [(h0, .inr (13, [.int 0, .int 7, .int 0, .ref l1, .ref l2])), (l1, .inr (2, [.int 0, .ref dE, .int 0])), (l2, .inr (2, [.int 0, .ref dE, .int 0]))] sz)) 0 0 (va_A [(h0, .inr (13, [.int 0, .int 7, .int 0, .ref l1, .ref l2])), (l1, .inr (2, [.int 0, .ref dE, .int 0])), (l2, .inr (2, [.int 0, .ref dE, .int 0]))] sz) := by
  refine Met.ofW (cc := cX10_algebra) (maxL := 2) (ret := (some .int)) (by decide) rfl ?_
  intro p e s m args below meth c s₁ B hml hv
  obtain ⟨rfl, hsz, hP, hK, hD0, hTb, hZ⟩ := hv
  have hx := B.exec
  have hb := B.bytes
  have hr := B.returns
  have hts := atoms_spec (ws := wsX10_algebra) B.pre
  have hown : s.vm.findClass RX10 = some m.cls := findClass_of_methodNamed B.named
  have hlocks := B.notSynchronized
  subst hsz
  have hD := hD0.self (sz := s.heap.size)
  generalize hAe : va_A [(h0, .inr (13, [.int 0, .int 7, .int 0, .ref l1, .ref l2])), (l1, .inr (2, [.int 0, .ref dE, .int 0])), (l2, .inr (2, [.int 0, .ref dE, .int 0]))] s.heap.size = A at hD hZ ⊢
  have hA : ∀ q : Nat, s.heap.size ≤ q → A q := fun q h => by rw [← hAe]; exact Or.inr h
  have hS : va_S A s.heap s.heap [] := va_S.rf
  have hP : va_P (dC, dI) vwCl [(h0, .inr (13, [.int 0, .int 7, .int 0, .ref l1, .ref l2])), (l1, .inr (2, [.int 0, .ref dE, .int 0])), (l2, .inr (2, [.int 0, .ref dE, .int 0]))] s.heap := hP
  have hl := lv_entry ([.ref h0, .int k]) (n := 2) (Nat.le_of_ble_eq_true rfl)
  rw [lg_entry_eq]
  generalize (lg_sl ([.ref h0, .int k]) ++ List.replicate (2 - (lg_sl ([.ref h0, .int k])).length) Slot.unset).toArray = ls at hl ⊢
  have hl : lv_has ls 2 [(0, .ref h0), (1, .int k)] := hl
  obtain ⟨H, eH⟩ : ∃ z, z = s.heap := ⟨_, rfl⟩
  rw [← eH] at hP ⊢
  have hS : va_S A s.heap H [] := by rw [eH]; exact va_S.rf
  refine lv_aload_n hx hb dX10_algebra_0 rfl (lv_at hl 0 rfl) ?_
  refine lv_iconst (v := 0) hx hb dX10_algebra_1 (by decide) ?_
  refine va_put (D := (dC, dI)) (ci := 13) (v := .int 0) (ty := .int) (C := RX10) (T := TX10) (N := 5) hx hb hts (by decide +kernel) tyX10 tyX10_ok nmX10 hown hK hP hD hS 0 rfl rfl 0 (by decide) (hts (.fieldLink RX10 23 "VersorhallModel" "thrown" "I") (by decide +kernel)) (fun _ h9 => h9) rfl (by decide +kernel) rfl rfl (Nat.le_of_ble_eq_true rfl) dX10_algebra_2 (fun H locs hP hD hS => ?_)
  have hP : va_P (dC, dI) vwCl [(h0, .inr (13, [.int 0, .int 7, .int 0, .ref l1, .ref l2])), (l1, .inr (2, [.int 0, .ref dE, .int 0])), (l2, .inr (2, [.int 0, .ref dE, .int 0]))] H := hP
  have hD : va_D A [(h0, .inr (13, [.int 0, .int 7, .int 0, .ref l1, .ref l2])), (l1, .inr (2, [.int 0, .ref dE, .int 0])), (l2, .inr (2, [.int 0, .ref dE, .int 0]))] := hD
  refine lv_iload_n hx hb dX10_algebra_5 rfl (lv_at hl 1 rfl) ?_
  refine lv_iconst (v := 0) hx hb dX10_algebra_6 (by decide) ?_
  refine lv_iconst (v := 1) hx hb dX10_algebra_7 (by decide) ?_
  have hPc := hP.sub (ws' := []) [] rfl
  have hDc := hD.sub (ws' := []) [] (by decide) rfl
  have hKc := hK.sub (tys' := []) [] rfl
  have hFc := va_free (wc := []) hD hS hA [] rfl
  refine va_calli (va_runS (As := [.int k, .int 0, .int 1]) (rest := []) ⟨hx, hb, hml, hown, hts⟩ (c_M_in_1_no l dC dI dE k H.size n0 n1) (va_cwS 3 hts gX10_algebra_X10_in rfl rfl rfl (by decide +kernel) ⟨Nat.le_of_ble_eq_true rfl, Nat.le_of_ble_eq_true rfl⟩) ⟨fun a U g mk q => ⟨q.1, PB.blind q.2⟩, fun U hU hW => ⟨rfl, PB.call hPc hKc hDc hTb hZ hS hFc hU hW⟩⟩ rfl rfl hl.1 rfl (lv_room (Nat.le_of_ble_eq_true rfl)) dX10_algebra_8 ⟨Nat.le_of_ble_eq_true rfl, Nat.le_of_ble_eq_true rfl⟩) hS (fun q _ h => hFc q h) hFc (fun r u t H locs ht hvm hw hB hz1 hk1 hS => ?_)
  obtain ⟨hP, hD, hK⟩ := PE.join (wc := []) (wr := [(h0, .inr (13, [.int 0, .int 7, .int 0, .ref l1, .ref l2])), (l1, .inr (2, [.int 0, .ref dE, .int 0])), (l2, .inr (2, [.int 0, .ref dE, .int 0]))]) (w1 := []) (tr := []) (t1 := []) hP hD hK [] [0, 1, 2] [] rfl rfl rfl (by decide) (by decide) hk1 hFc ht hvm hB
  have hP : va_P (dC, dI) vwCl [(h0, .inr (13, [.int 0, .int 7, .int 0, .ref l1, .ref l2])), (l1, .inr (2, [.int 0, .ref dE, .int 0])), (l2, .inr (2, [.int 0, .ref dE, .int 0]))] H := hP
  have hD : va_D A [(h0, .inr (13, [.int 0, .int 7, .int 0, .ref l1, .ref l2])), (l1, .inr (2, [.int 0, .ref dE, .int 0])), (l2, .inr (2, [.int 0, .ref dE, .int 0]))] := hD
  have hK : va_K (dC, dI) vwCl [] s := hK
  subst hw
  refine lv_if_ne (tgt := 20) hx hb dX10_algebra_11 (by decide) (fun c9 => absurd (by decide) c9) (fun _ => ?_)
  refine lv_aload_n hx hb dX10_algebra_14 rfl (lv_at hl 0 rfl) ?_
  refine lv_iconst (v := 1) hx hb dX10_algebra_15 (by decide) ?_
  have hPc := hP.sub (ws' := [(h0, .inr (13, [.int 0, .int 7, .int 0, .ref l1, .ref l2])), (l1, .inr (2, [.int 0, .ref dE, .int 0])), (l2, .inr (2, [.int 0, .ref dE, .int 0]))]) [0, 1, 2] rfl
  have hDc := hD.sub (ws' := [(h0, .inr (13, [.int 0, .int 7, .int 0, .ref l1, .ref l2])), (l1, .inr (2, [.int 0, .ref dE, .int 0])), (l2, .inr (2, [.int 0, .ref dE, .int 0]))]) [0, 1, 2] (by decide) rfl
  have hKc := hK.sub (tys' := []) [] rfl
  have hFc := va_free (wc := [(h0, .inr (13, [.int 0, .int 7, .int 0, .ref l1, .ref l2])), (l1, .inr (2, [.int 0, .ref dE, .int 0])), (l2, .inr (2, [.int 0, .ref dE, .int 0]))]) hD hS hA [0, 1, 2] rfl
  refine va_calli (va_runV (As := [.int 1]) (rest := []) ⟨hx, hb, hml, hown, hts⟩ (c_M_no l dC dI dE h0 l1 l2 H.size) (cwV 1 hts gX10_algebra_X10_no rfl rfl rfl (by decide +kernel) ⟨Nat.le_of_ble_eq_true rfl, Nat.le_of_ble_eq_true rfl⟩) ⟨fun a U g mk q => ⟨q.1, PB.blind q.2⟩, va_recv hKc hPc (ci := 13) (q0 := 0) rfl rfl, fun U hU hW => ⟨rfl, PB.call hPc hKc hDc hTb hZ hS hFc hU hW⟩⟩ rfl rfl hl.1 rfl (lv_room (Nat.le_of_ble_eq_true rfl)) dX10_algebra_16 ⟨Nat.le_of_ble_eq_true rfl, Nat.le_of_ble_eq_true rfl⟩) hS (fun q _ h => hFc q h) hFc (fun r u t H locs ht hvm hw hB hz1 hk1 hS => ?_)
  obtain ⟨hP, hD, hK⟩ := PE.join (wc := [(h0, .inr (13, [.int 0, .int 7, .int 0, .ref l1, .ref l2])), (l1, .inr (2, [.int 0, .ref dE, .int 0])), (l2, .inr (2, [.int 0, .ref dE, .int 0]))]) (wr := []) (w1 := [(h0, .inr (13, [.int 1, .int 7, .int 0, .ref l1, .ref l2])), (l1, .inr (2, [.int 0, .ref dE, .int 0])), (l2, .inr (2, [.int 0, .ref dE, .int 0]))]) (tr := []) (t1 := []) hP hD hK [0, 1, 2] [] [] rfl rfl rfl (by decide) (by decide) hk1 hFc ht hvm hB
  have hP : va_P (dC, dI) vwCl [(h0, .inr (13, [.int 1, .int 7, .int 0, .ref l1, .ref l2])), (l1, .inr (2, [.int 0, .ref dE, .int 0])), (l2, .inr (2, [.int 0, .ref dE, .int 0]))] H := hP
  have hD : va_D A [(h0, .inr (13, [.int 1, .int 7, .int 0, .ref l1, .ref l2])), (l1, .inr (2, [.int 0, .ref dE, .int 0])), (l2, .inr (2, [.int 0, .ref dE, .int 0]))] := hD
  have hK : va_K (dC, dI) vwCl [] s := hK
  subst hw
  have hP9 := hP.sub (ws' := [(h0, .inr (13, [.int 1, .int 7, .int 0, .ref l1, .ref l2])), (l1, .inr (2, [.int 0, .ref dE, .int 0])), (l2, .inr (2, [.int 0, .ref dE, .int 0]))]) [0, 1, 2] rfl
  have hD9 := hD.sub (ws' := [(h0, .inr (13, [.int 1, .int 7, .int 0, .ref l1, .ref l2])), (l1, .inr (2, [.int 0, .ref dE, .int 0])), (l2, .inr (2, [.int 0, .ref dE, .int 0]))]) [0, 1, 2] (by decide) rfl
  have hK9 := hK.sub (tys' := []) [] rfl
  refine W.widen (k := 0) (n := 0) (Nat.le_of_ble_eq_true rfl) (Nat.le_of_ble_eq_true rfl) ?_
  exact W.iret (v := 0) hx hb hr (fun t ht hW => ⟨⟨_, (), rfl, rfl, PE.mk hP9 hK9 hD9 ht hW⟩, hS.F ht⟩) hS.2.2 dX10_algebra_19

set_option maxHeartbeats 4000000 in
set_option maxRecDepth 100000 in
/-- c_M_meanSize -/
theorem c_M_meanSize (l : Launch) (dC : Nat → ClassId) (dI : Nat → Nat → Nat) (dE : Nat) (h0 : Nat) (l1 : Nat) (l2 : Nat) (sz : Nat) : Met l yX10_meanSize wsX10_meanSize ({ frames := 1, cells := 0, slots := 0, locals := 20 }) (va_Pc [.ref h0] (PB dC dI dE [] [(h0, .inr (13, [.int 0, .int 7, .int 0, .ref l1, .ref l2])), (l1, .inr (2, [.int 0, .ref dE, .int 0])), (l2, .inr (2, [.int 0, .ref dE, .int 0]))] sz)) (va_Qd (fun (r : UInt64) (_ : Unit) => r = FP.dconst0) (fun (_ : Unit) (t : State) => PE dC dI [] [(h0, .inr (13, [.int 0, .int 7, .int 0, .ref l1, .ref l2])), (l1, .inr (2, [.int 0, .ref dE, .int 0])), (l2, .inr (2, [.int 0, .ref dE, .int 0]))] (va_A [(h0, .inr (13, [.int 0, .int 7, .int 0, .ref l1, .ref l2])), (l1, .inr (2, [.int 0, .ref dE, .int 0])), (l2, .inr (2, [.int 0, .ref dE, .int 0]))] sz) t) (va_A [(h0, .inr (13, [.int 0, .int 7, .int 0, .ref l1, .ref l2])), (l1, .inr (2, [.int 0, .ref dE, .int 0])), (l2, .inr (2, [.int 0, .ref dE, .int 0]))] sz)) 0 0 (va_A [(h0, .inr (13, [.int 0, .int 7, .int 0, .ref l1, .ref l2])), (l1, .inr (2, [.int 0, .ref dE, .int 0])), (l2, .inr (2, [.int 0, .ref dE, .int 0]))] sz) := by
  refine Met.ofW (cc := cX10_meanSize) (maxL := 3) (ret := (some .double)) (by decide) rfl ?_
  intro p e s m args below meth c s₁ B hml hv
  obtain ⟨rfl, hsz, hP, hK, hD0, hTb, hZ⟩ := hv
  have hx := B.exec
  have hb := B.bytes
  have hr := B.returns
  have hts := atoms_spec (ws := wsX10_meanSize) B.pre
  have hown : s.vm.findClass RX10 = some m.cls := findClass_of_methodNamed B.named
  have hlocks := B.notSynchronized
  subst hsz
  have hD := hD0.self (sz := s.heap.size)
  generalize hAe : va_A [(h0, .inr (13, [.int 0, .int 7, .int 0, .ref l1, .ref l2])), (l1, .inr (2, [.int 0, .ref dE, .int 0])), (l2, .inr (2, [.int 0, .ref dE, .int 0]))] s.heap.size = A at hD hZ ⊢
  have hA : ∀ q : Nat, s.heap.size ≤ q → A q := fun q h => by rw [← hAe]; exact Or.inr h
  have hS : va_S A s.heap s.heap [] := va_S.rf
  have hP : va_P (dC, dI) vwCl [(h0, .inr (13, [.int 0, .int 7, .int 0, .ref l1, .ref l2])), (l1, .inr (2, [.int 0, .ref dE, .int 0])), (l2, .inr (2, [.int 0, .ref dE, .int 0]))] s.heap := hP
  have hl := lv_entry ([.ref h0]) (n := 3) (Nat.le_of_ble_eq_true rfl)
  rw [lg_entry_eq]
  generalize (lg_sl ([.ref h0]) ++ List.replicate (3 - (lg_sl ([.ref h0])).length) Slot.unset).toArray = ls at hl ⊢
  have hl : lv_has ls 3 [(0, .ref h0)] := hl
  obtain ⟨H, eH⟩ : ∃ z, z = s.heap := ⟨_, rfl⟩
  rw [← eH] at hP ⊢
  have hS : va_S A s.heap H [] := by rw [eH]; exact va_S.rf
  refine lv_aload_n hx hb dX10_meanSize_0 rfl (lv_at hl 0 rfl) ?_
  refine lv_iconst (v := 0) hx hb dX10_meanSize_1 (by decide) ?_
  refine va_put (D := (dC, dI)) (ci := 13) (v := .int 0) (ty := .int) (C := RX10) (T := TX10) (N := 5) hx hb hts (by decide +kernel) tyX10 tyX10_ok nmX10 hown hK hP hD hS 0 rfl rfl 0 (by decide) (hts (.fieldLink RX10 23 "VersorhallModel" "thrown" "I") (by decide +kernel)) (fun _ h9 => h9) rfl (by decide +kernel) rfl rfl (Nat.le_of_ble_eq_true rfl) dX10_meanSize_2 (fun H locs hP hD hS => ?_)
  have hP : va_P (dC, dI) vwCl [(h0, .inr (13, [.int 0, .int 7, .int 0, .ref l1, .ref l2])), (l1, .inr (2, [.int 0, .ref dE, .int 0])), (l2, .inr (2, [.int 0, .ref dE, .int 0]))] H := hP
  have hD : va_D A [(h0, .inr (13, [.int 0, .int 7, .int 0, .ref l1, .ref l2])), (l1, .inr (2, [.int 0, .ref dE, .int 0])), (l2, .inr (2, [.int 0, .ref dE, .int 0]))] := hD
  refine lv_iconst (v := 0) hx hb dX10_meanSize_5 (by decide) ?_
  refine lv_istore_n (lv' := [(1, .int 0), (0, .ref h0)]) hx hb dX10_meanSize_6 rfl hl (by decide) rfl (fun ls hl => ?_)
  refine lv_iconst (v := 0) hx hb dX10_meanSize_7 (by decide) ?_
  refine lv_istore_n (lv' := [(2, .int 0), (1, .int 0), (0, .ref h0)]) hx hb dX10_meanSize_8 rfl hl (by decide) rfl (fun ls hl => ?_)
  refine lv_iload_n hx hb dX10_meanSize_9 rfl (lv_at hl 0 rfl) ?_
  refine lv_aload_n hx hb dX10_meanSize_10 rfl (lv_at hl 2 rfl) ?_
  refine va_get (D := (dC, dI)) (ci := 13) (v := .ref l2) (C := RX10) (T := TX10) (N := 5) hx hb hts (by decide +kernel) hown hK hP 0 rfl rfl 4 (by decide) (hts (.fieldLink RX10 20 "VersorhallModel" "elements" "Ljava/util/List;") (by decide +kernel)) (fun _ h9 => h9) rfl dX10_meanSize_11 ?_
  have hPc := hP.sub (ws' := [(l2, .inr (2, [.int 0, .ref dE, .int 0]))]) [2] rfl
  have hDc := hD.sub (ws' := [(l2, .inr (2, [.int 0, .ref dE, .int 0]))]) [2] (by decide) rfl
  have hKc := hK.sub (tys' := []) [] rfl
  have hFc := va_free (wc := [(l2, .inr (2, [.int 0, .ref dE, .int 0]))]) hD hS hA [2] rfl
  refine va_callFi (va_runF ((hK.1 2 _ rfl).2) (As := []) (rest := [.int 0]) ⟨hx, hb, hml, hown, hts⟩ (c_List_size l dC dI dE l2 0 dE 0 H.size) (va_cwF 0 hts gX10_meanSize_Jx4a65c_size_8abf5_f30Jx4a65c rfl rfl rfl (Tb_w1 hTb) (by decide +kernel) ⟨Nat.le_of_ble_eq_true rfl, Nat.le_of_ble_eq_true rfl⟩) ⟨fun a U g mk q => ⟨q.1, PB.blind q.2⟩, va_recv hKc hPc (ci := 2) (q0 := 0) rfl rfl, fun U hU hW => ⟨rfl, PB.call hPc hKc hDc hTb hZ hS hFc hU hW⟩⟩ rfl rfl hl.1 rfl (lv_room (Nat.le_of_ble_eq_true rfl)) dX10_meanSize_14 ⟨Nat.le_of_ble_eq_true rfl, Nat.le_of_ble_eq_true rfl⟩) hS (fun q _ h => hFc q h) hFc (fun r u t H locs ht hvm hw hB hz1 hk1 hS => ?_)
  obtain ⟨hP, hD, hK⟩ := PE.join (wc := [(l2, .inr (2, [.int 0, .ref dE, .int 0]))]) (wr := [(h0, .inr (13, [.int 0, .int 7, .int 0, .ref l1, .ref l2])), (l1, .inr (2, [.int 0, .ref dE, .int 0]))]) (w1 := [(l2, .inr (2, [.int 0, .ref dE, .int 0]))]) (tr := []) (t1 := []) hP hD hK [2] [0, 1] [] rfl rfl rfl (by decide) (by decide) hk1 hFc ht hvm hB
  have hP : va_P (dC, dI) vwCl [(h0, .inr (13, [.int 0, .int 7, .int 0, .ref l1, .ref l2])), (l1, .inr (2, [.int 0, .ref dE, .int 0])), (l2, .inr (2, [.int 0, .ref dE, .int 0]))] H := hP
  have hD : va_D A [(h0, .inr (13, [.int 0, .int 7, .int 0, .ref l1, .ref l2])), (l1, .inr (2, [.int 0, .ref dE, .int 0])), (l2, .inr (2, [.int 0, .ref dE, .int 0]))] := hD
  have hK : va_K (dC, dI) vwCl [] s := hK
  subst hw
  refine lv_icmp_ge (tgt := 39) hx hb dX10_meanSize_19 (by decide) (fun _ => ?_) (fun c9 => absurd (by decide) c9)
  refine lv_aload_n hx hb dX10_meanSize_39 rfl (lv_at hl 2 rfl) ?_
  refine va_get (D := (dC, dI)) (ci := 13) (v := .ref l2) (C := RX10) (T := TX10) (N := 5) hx hb hts (by decide +kernel) hown hK hP 0 rfl rfl 4 (by decide) (hts (.fieldLink RX10 20 "VersorhallModel" "elements" "Ljava/util/List;") (by decide +kernel)) (fun _ h9 => h9) rfl dX10_meanSize_40 ?_
  have hPc := hP.sub (ws' := [(l2, .inr (2, [.int 0, .ref dE, .int 0]))]) [2] rfl
  have hDc := hD.sub (ws' := [(l2, .inr (2, [.int 0, .ref dE, .int 0]))]) [2] (by decide) rfl
  have hKc := hK.sub (tys' := []) [] rfl
  have hFc := va_free (wc := [(l2, .inr (2, [.int 0, .ref dE, .int 0]))]) hD hS hA [2] rfl
  refine va_callFi (va_runF ((hK.1 2 _ rfl).2) (As := []) (rest := []) ⟨hx, hb, hml, hown, hts⟩ (c_List_size l dC dI dE l2 0 dE 0 H.size) (va_cwF 0 hts gX10_meanSize_Jx4a65c_size_8abf5_f30Jx4a65c rfl rfl rfl (Tb_w1 hTb) (by decide +kernel) ⟨Nat.le_of_ble_eq_true rfl, Nat.le_of_ble_eq_true rfl⟩) ⟨fun a U g mk q => ⟨q.1, PB.blind q.2⟩, va_recv hKc hPc (ci := 2) (q0 := 0) rfl rfl, fun U hU hW => ⟨rfl, PB.call hPc hKc hDc hTb hZ hS hFc hU hW⟩⟩ rfl rfl hl.1 rfl (lv_room (Nat.le_of_ble_eq_true rfl)) dX10_meanSize_43 ⟨Nat.le_of_ble_eq_true rfl, Nat.le_of_ble_eq_true rfl⟩) hS (fun q _ h => hFc q h) hFc (fun r u t H locs ht hvm hw hB hz1 hk1 hS => ?_)
  obtain ⟨hP, hD, hK⟩ := PE.join (wc := [(l2, .inr (2, [.int 0, .ref dE, .int 0]))]) (wr := [(h0, .inr (13, [.int 0, .int 7, .int 0, .ref l1, .ref l2])), (l1, .inr (2, [.int 0, .ref dE, .int 0]))]) (w1 := [(l2, .inr (2, [.int 0, .ref dE, .int 0]))]) (tr := []) (t1 := []) hP hD hK [2] [0, 1] [] rfl rfl rfl (by decide) (by decide) hk1 hFc ht hvm hB
  have hP : va_P (dC, dI) vwCl [(h0, .inr (13, [.int 0, .int 7, .int 0, .ref l1, .ref l2])), (l1, .inr (2, [.int 0, .ref dE, .int 0])), (l2, .inr (2, [.int 0, .ref dE, .int 0]))] H := hP
  have hD : va_D A [(h0, .inr (13, [.int 0, .int 7, .int 0, .ref l1, .ref l2])), (l1, .inr (2, [.int 0, .ref dE, .int 0])), (l2, .inr (2, [.int 0, .ref dE, .int 0]))] := hD
  have hK : va_K (dC, dI) vwCl [] s := hK
  subst hw
  refine lv_if_ne (tgt := 55) hx hb dX10_meanSize_48 (by decide) (fun c9 => absurd (by decide) c9) (fun _ => ?_)
  refine lv_dconst0 hx hb dX10_meanSize_51 ?_
  refine lv_goto (tgt := 68) hx hb dX10_meanSize_52 (by decide) ?_
  have hP9 := hP.sub (ws' := [(h0, .inr (13, [.int 0, .int 7, .int 0, .ref l1, .ref l2])), (l1, .inr (2, [.int 0, .ref dE, .int 0])), (l2, .inr (2, [.int 0, .ref dE, .int 0]))]) [0, 1, 2] rfl
  have hD9 := hD.sub (ws' := [(h0, .inr (13, [.int 0, .int 7, .int 0, .ref l1, .ref l2])), (l1, .inr (2, [.int 0, .ref dE, .int 0])), (l2, .inr (2, [.int 0, .ref dE, .int 0]))]) [0, 1, 2] (by decide) rfl
  have hK9 := hK.sub (tys' := []) [] rfl
  refine W.widen (k := 0) (n := 0) (Nat.le_of_ble_eq_true rfl) (Nat.le_of_ble_eq_true rfl) ?_
  exact W.dret (v := FP.dconst0) hx hb hr (fun t ht hW => ⟨⟨_, (), rfl, rfl, PE.mk hP9 hK9 hD9 ht hW⟩, hS.F ht⟩) hS.2.2 dX10_meanSize_68

set_option maxHeartbeats 4000000 in
set_option maxRecDepth 100000 in
/-- c_M_poise -/
theorem c_M_poise (l : Launch) (dC : Nat → ClassId) (dI : Nat → Nat → Nat) (dE : Nat) (h0 : Nat) (l1 : Nat) (l2 : Nat) (sz : Nat) : Met l yX10_poise wsX10_poise ({ frames := 1, cells := 0, slots := 0, locals := 20 }) (va_Pc [.ref h0] (PB dC dI dE [] [(h0, .inr (13, [.int 0, .int 7, .int 0, .ref l1, .ref l2])), (l1, .inr (2, [.int 0, .ref dE, .int 0])), (l2, .inr (2, [.int 0, .ref dE, .int 0]))] sz)) (va_Qd (fun (r : UInt64) (_ : Unit) => r = FP.dconst0) (fun (_ : Unit) (t : State) => PE dC dI [] [(h0, .inr (13, [.int 0, .int 7, .int 0, .ref l1, .ref l2])), (l1, .inr (2, [.int 0, .ref dE, .int 0])), (l2, .inr (2, [.int 0, .ref dE, .int 0]))] (va_A [(h0, .inr (13, [.int 0, .int 7, .int 0, .ref l1, .ref l2])), (l1, .inr (2, [.int 0, .ref dE, .int 0])), (l2, .inr (2, [.int 0, .ref dE, .int 0]))] sz) t) (va_A [(h0, .inr (13, [.int 0, .int 7, .int 0, .ref l1, .ref l2])), (l1, .inr (2, [.int 0, .ref dE, .int 0])), (l2, .inr (2, [.int 0, .ref dE, .int 0]))] sz)) 0 0 (va_A [(h0, .inr (13, [.int 0, .int 7, .int 0, .ref l1, .ref l2])), (l1, .inr (2, [.int 0, .ref dE, .int 0])), (l2, .inr (2, [.int 0, .ref dE, .int 0]))] sz) := by
  refine Met.ofW (cc := cX10_poise) (maxL := 6) (ret := (some .double)) (by decide) rfl ?_
  intro p e s m args below meth c s₁ B hml hv
  obtain ⟨rfl, hsz, hP, hK, hD0, hTb, hZ⟩ := hv
  have hx := B.exec
  have hb := B.bytes
  have hr := B.returns
  have hts := atoms_spec (ws := wsX10_poise) B.pre
  have hown : s.vm.findClass RX10 = some m.cls := findClass_of_methodNamed B.named
  have hlocks := B.notSynchronized
  subst hsz
  have hD := hD0.self (sz := s.heap.size)
  generalize hAe : va_A [(h0, .inr (13, [.int 0, .int 7, .int 0, .ref l1, .ref l2])), (l1, .inr (2, [.int 0, .ref dE, .int 0])), (l2, .inr (2, [.int 0, .ref dE, .int 0]))] s.heap.size = A at hD hZ ⊢
  have hA : ∀ q : Nat, s.heap.size ≤ q → A q := fun q h => by rw [← hAe]; exact Or.inr h
  have hS : va_S A s.heap s.heap [] := va_S.rf
  have hP : va_P (dC, dI) vwCl [(h0, .inr (13, [.int 0, .int 7, .int 0, .ref l1, .ref l2])), (l1, .inr (2, [.int 0, .ref dE, .int 0])), (l2, .inr (2, [.int 0, .ref dE, .int 0]))] s.heap := hP
  have hl := lv_entry ([.ref h0]) (n := 6) (Nat.le_of_ble_eq_true rfl)
  rw [lg_entry_eq]
  generalize (lg_sl ([.ref h0]) ++ List.replicate (6 - (lg_sl ([.ref h0])).length) Slot.unset).toArray = ls at hl ⊢
  have hl : lv_has ls 6 [(0, .ref h0)] := hl
  obtain ⟨H, eH⟩ : ∃ z, z = s.heap := ⟨_, rfl⟩
  rw [← eH] at hP ⊢
  have hS : va_S A s.heap H [] := by rw [eH]; exact va_S.rf
  refine lv_aload_n hx hb dX10_poise_0 rfl (lv_at hl 0 rfl) ?_
  refine lv_iconst (v := 0) hx hb dX10_poise_1 (by decide) ?_
  refine va_put (D := (dC, dI)) (ci := 13) (v := .int 0) (ty := .int) (C := RX10) (T := TX10) (N := 5) hx hb hts (by decide +kernel) tyX10 tyX10_ok nmX10 hown hK hP hD hS 0 rfl rfl 0 (by decide) (hts (.fieldLink RX10 23 "VersorhallModel" "thrown" "I") (by decide +kernel)) (fun _ h9 => h9) rfl (by decide +kernel) rfl rfl (Nat.le_of_ble_eq_true rfl) dX10_poise_2 (fun H locs hP hD hS => ?_)
  have hP : va_P (dC, dI) vwCl [(h0, .inr (13, [.int 0, .int 7, .int 0, .ref l1, .ref l2])), (l1, .inr (2, [.int 0, .ref dE, .int 0])), (l2, .inr (2, [.int 0, .ref dE, .int 0]))] H := hP
  have hD : va_D A [(h0, .inr (13, [.int 0, .int 7, .int 0, .ref l1, .ref l2])), (l1, .inr (2, [.int 0, .ref dE, .int 0])), (l2, .inr (2, [.int 0, .ref dE, .int 0]))] := hD
  refine lv_aload_n hx hb dX10_poise_5 rfl (lv_at hl 0 rfl) ?_
  refine va_get (D := (dC, dI)) (ci := 13) (v := .ref l2) (C := RX10) (T := TX10) (N := 5) hx hb hts (by decide +kernel) hown hK hP 0 rfl rfl 4 (by decide) (hts (.fieldLink RX10 20 "VersorhallModel" "elements" "Ljava/util/List;") (by decide +kernel)) (fun _ h9 => h9) rfl dX10_poise_6 ?_
  have hPc := hP.sub (ws' := [(l2, .inr (2, [.int 0, .ref dE, .int 0]))]) [2] rfl
  have hDc := hD.sub (ws' := [(l2, .inr (2, [.int 0, .ref dE, .int 0]))]) [2] (by decide) rfl
  have hKc := hK.sub (tys' := []) [] rfl
  have hFc := va_free (wc := [(l2, .inr (2, [.int 0, .ref dE, .int 0]))]) hD hS hA [2] rfl
  refine va_callFi (va_runF ((hK.1 2 _ rfl).2) (As := []) (rest := []) ⟨hx, hb, hml, hown, hts⟩ (c_List_size l dC dI dE l2 0 dE 0 H.size) (va_cwF 0 hts gX10_poise_Jx4a65c_size_8abf5_f30Jx4a65c rfl rfl rfl (Tb_w1 hTb) (by decide +kernel) ⟨Nat.le_of_ble_eq_true rfl, Nat.le_of_ble_eq_true rfl⟩) ⟨fun a U g mk q => ⟨q.1, PB.blind q.2⟩, va_recv hKc hPc (ci := 2) (q0 := 0) rfl rfl, fun U hU hW => ⟨rfl, PB.call hPc hKc hDc hTb hZ hS hFc hU hW⟩⟩ rfl rfl hl.1 rfl (lv_room (Nat.le_of_ble_eq_true rfl)) dX10_poise_9 ⟨Nat.le_of_ble_eq_true rfl, Nat.le_of_ble_eq_true rfl⟩) hS (fun q _ h => hFc q h) hFc (fun r u t H locs ht hvm hw hB hz1 hk1 hS => ?_)
  obtain ⟨hP, hD, hK⟩ := PE.join (wc := [(l2, .inr (2, [.int 0, .ref dE, .int 0]))]) (wr := [(h0, .inr (13, [.int 0, .int 7, .int 0, .ref l1, .ref l2])), (l1, .inr (2, [.int 0, .ref dE, .int 0]))]) (w1 := [(l2, .inr (2, [.int 0, .ref dE, .int 0]))]) (tr := []) (t1 := []) hP hD hK [2] [0, 1] [] rfl rfl rfl (by decide) (by decide) hk1 hFc ht hvm hB
  have hP : va_P (dC, dI) vwCl [(h0, .inr (13, [.int 0, .int 7, .int 0, .ref l1, .ref l2])), (l1, .inr (2, [.int 0, .ref dE, .int 0])), (l2, .inr (2, [.int 0, .ref dE, .int 0]))] H := hP
  have hD : va_D A [(h0, .inr (13, [.int 0, .int 7, .int 0, .ref l1, .ref l2])), (l1, .inr (2, [.int 0, .ref dE, .int 0])), (l2, .inr (2, [.int 0, .ref dE, .int 0]))] := hD
  have hK : va_K (dC, dI) vwCl [] s := hK
  subst hw
  refine lv_if_ne (tgt := 19) hx hb dX10_poise_14 (by decide) (fun c9 => absurd (by decide) c9) (fun _ => ?_)
  refine lv_dconst0 hx hb dX10_poise_17 ?_
  have hP9 := hP.sub (ws' := [(h0, .inr (13, [.int 0, .int 7, .int 0, .ref l1, .ref l2])), (l1, .inr (2, [.int 0, .ref dE, .int 0])), (l2, .inr (2, [.int 0, .ref dE, .int 0]))]) [0, 1, 2] rfl
  have hD9 := hD.sub (ws' := [(h0, .inr (13, [.int 0, .int 7, .int 0, .ref l1, .ref l2])), (l1, .inr (2, [.int 0, .ref dE, .int 0])), (l2, .inr (2, [.int 0, .ref dE, .int 0]))]) [0, 1, 2] (by decide) rfl
  have hK9 := hK.sub (tys' := []) [] rfl
  refine W.widen (k := 0) (n := 0) (Nat.le_of_ble_eq_true rfl) (Nat.le_of_ble_eq_true rfl) ?_
  exact W.dret (v := FP.dconst0) hx hb hr (fun t ht hW => ⟨⟨_, (), rfl, rfl, PE.mk hP9 hK9 hD9 ht hW⟩, hS.F ht⟩) hS.2.2 dX10_poise_18

set_option maxHeartbeats 4000000 in
set_option maxRecDepth 100000 in
/-- c_M_digest -/
theorem c_M_digest (l : Launch) (dC : Nat → ClassId) (dI : Nat → Nat → Nat) (dE : Nat) (h0 : Nat) (l1 : Nat) (l2 : Nat) (sz : Nat) : Met l yX10_digest wsX10_digest ({ frames := 3, cells := 8, slots := 64, locals := 67 }) (va_Pc [.ref h0] (PB dC dI dE [] [(h0, .inr (13, [.int 0, .int 7, .int 0, .ref l1, .ref l2])), (l1, .inr (2, [.int 0, .ref dE, .int 0])), (l2, .inr (2, [.int 0, .ref dE, .int 0]))] sz)) (va_Ql (fun (r : Int64) (_ : Unit) => r = 49669155044712853) (fun (_ : Unit) (t : State) => PE dC dI [] [(h0, .inr (13, [.int 0, .int 7, .int 0, .ref l1, .ref l2])), (l1, .inr (2, [.int 0, .ref dE, .int 0])), (l2, .inr (2, [.int 0, .ref dE, .int 0]))] (va_A [(h0, .inr (13, [.int 0, .int 7, .int 0, .ref l1, .ref l2])), (l1, .inr (2, [.int 0, .ref dE, .int 0])), (l2, .inr (2, [.int 0, .ref dE, .int 0]))] sz) t) (va_A [(h0, .inr (13, [.int 0, .int 7, .int 0, .ref l1, .ref l2])), (l1, .inr (2, [.int 0, .ref dE, .int 0])), (l2, .inr (2, [.int 0, .ref dE, .int 0]))] sz)) 8 64 (va_A [(h0, .inr (13, [.int 0, .int 7, .int 0, .ref l1, .ref l2])), (l1, .inr (2, [.int 0, .ref dE, .int 0])), (l2, .inr (2, [.int 0, .ref dE, .int 0]))] sz) := by
  refine Met.ofW (cc := cX10_digest) (maxL := 8) (ret := (some .long)) (by decide) rfl ?_
  intro p e s m args below meth c s₁ B hml hv
  obtain ⟨rfl, hsz, hP, hK, hD0, hTb, hZ⟩ := hv
  have hx := B.exec
  have hb := B.bytes
  have hr := B.returns
  have hts := atoms_spec (ws := wsX10_digest) B.pre
  have hown : s.vm.findClass RX10 = some m.cls := findClass_of_methodNamed B.named
  have hlocks := B.notSynchronized
  subst hsz
  have hD := hD0.self (sz := s.heap.size)
  generalize hAe : va_A [(h0, .inr (13, [.int 0, .int 7, .int 0, .ref l1, .ref l2])), (l1, .inr (2, [.int 0, .ref dE, .int 0])), (l2, .inr (2, [.int 0, .ref dE, .int 0]))] s.heap.size = A at hD hZ ⊢
  have hA : ∀ q : Nat, s.heap.size ≤ q → A q := fun q h => by rw [← hAe]; exact Or.inr h
  have hS : va_S A s.heap s.heap [] := va_S.rf
  have hP : va_P (dC, dI) vwCl [(h0, .inr (13, [.int 0, .int 7, .int 0, .ref l1, .ref l2])), (l1, .inr (2, [.int 0, .ref dE, .int 0])), (l2, .inr (2, [.int 0, .ref dE, .int 0]))] s.heap := hP
  have hl := lv_entry ([.ref h0]) (n := 8) (Nat.le_of_ble_eq_true rfl)
  rw [lg_entry_eq]
  generalize (lg_sl ([.ref h0]) ++ List.replicate (8 - (lg_sl ([.ref h0])).length) Slot.unset).toArray = ls at hl ⊢
  have hl : lv_has ls 8 [(0, .ref h0)] := hl
  obtain ⟨H, eH⟩ : ∃ z, z = s.heap := ⟨_, rfl⟩
  rw [← eH] at hP ⊢
  have hS : va_S A s.heap H [] := by rw [eH]; exact va_S.rf
  refine lv_aload_n hx hb dX10_digest_0 rfl (lv_at hl 0 rfl) ?_
  refine lv_iconst (v := 0) hx hb dX10_digest_1 (by decide) ?_
  refine va_put (D := (dC, dI)) (ci := 13) (v := .int 0) (ty := .int) (C := RX10) (T := TX10) (N := 5) hx hb hts (by decide +kernel) tyX10 tyX10_ok nmX10 hown hK hP hD hS 0 rfl rfl 0 (by decide) (hts (.fieldLink RX10 23 "VersorhallModel" "thrown" "I") (by decide +kernel)) (fun _ h9 => h9) rfl (by decide +kernel) rfl rfl (Nat.le_of_ble_eq_true rfl) dX10_digest_2 (fun H locs hP hD hS => ?_)
  have hP : va_P (dC, dI) vwCl [(h0, .inr (13, [.int 0, .int 7, .int 0, .ref l1, .ref l2])), (l1, .inr (2, [.int 0, .ref dE, .int 0])), (l2, .inr (2, [.int 0, .ref dE, .int 0]))] H := hP
  have hD : va_D A [(h0, .inr (13, [.int 0, .int 7, .int 0, .ref l1, .ref l2])), (l1, .inr (2, [.int 0, .ref dE, .int 0])), (l2, .inr (2, [.int 0, .ref dE, .int 0]))] := hD
  refine lv_ldc2 (v := 58236) hx hb hown (hts (.constantLong RX10 266 (58236)) (by decide +kernel)) dX10_digest_5 ?_
  refine lv_lstore_n (lv' := [(1, .long 58236), (0, .ref h0)]) hx hb dX10_digest_8 rfl hl (by decide) rfl (fun ls hl => ?_)
  refine lv_iconst (v := 0) hx hb dX10_digest_9 (by decide) ?_
  refine lv_istore_n (lv' := [(3, .int 0), (1, .long 58236), (0, .ref h0)]) hx hb dX10_digest_10 rfl hl (by decide) rfl (fun ls hl => ?_)
  refine lv_iload_n hx hb dX10_digest_11 rfl (lv_at hl 0 rfl) ?_
  refine lv_bipush (v := 7) hx hb dX10_digest_12 (by decide) ?_
  refine lv_icmp_gt (tgt := 36) hx hb dX10_digest_14 (by decide) (fun c9 => absurd c9 (by decide)) (fun _ => ?_)
  refine lv_lload_n hx hb dX10_digest_17 rfl (lv_at hl 1 rfl) ?_
  refine lv_ldc2 (v := 31) hx hb hown (hts (.constantLong RX10 268 (31)) (by decide +kernel)) dX10_digest_18 ?_
  refine lv_lmul hx hb dX10_digest_21 ?_
  refine lv_topl (fun f1 ef1 => ?_)
  obtain rfl : f1 = 1805316 := ef1.trans (by decide)
  refine lv_aload_n hx hb dX10_digest_22 rfl (lv_at hl 2 rfl) ?_
  refine lv_iload_n hx hb dX10_digest_23 rfl (lv_at hl 0 rfl) ?_
  have hPc := hP.sub (ws' := [(h0, .inr (13, [.int 0, .int 7, .int 0, .ref l1, .ref l2])), (l1, .inr (2, [.int 0, .ref dE, .int 0])), (l2, .inr (2, [.int 0, .ref dE, .int 0]))]) [0, 1, 2] rfl
  have hDc := hD.sub (ws' := [(h0, .inr (13, [.int 0, .int 7, .int 0, .ref l1, .ref l2])), (l1, .inr (2, [.int 0, .ref dE, .int 0])), (l2, .inr (2, [.int 0, .ref dE, .int 0]))]) [0, 1, 2] (by decide) rfl
  have hKc := hK.sub (tys' := []) [] rfl
  have hFc := va_free (wc := [(h0, .inr (13, [.int 0, .int 7, .int 0, .ref l1, .ref l2])), (l1, .inr (2, [.int 0, .ref dE, .int 0])), (l2, .inr (2, [.int 0, .ref dE, .int 0]))]) hD hS hA [0, 1, 2] rfl
  refine va_calli (va_runV (As := [.int 0]) (rest := [.long 1805316]) ⟨hx, hb, hml, hown, hts⟩ (c_M_manyNow_0 l dC dI dE h0 l1 l2 H.size) (cwV 1 hts gX10_digest_X10_manyNow rfl rfl rfl (by decide +kernel) ⟨Nat.le_of_ble_eq_true rfl, Nat.le_of_ble_eq_true rfl⟩) ⟨fun a U g mk q => ⟨q.1, PB.blind q.2⟩, va_recv hKc hPc (ci := 13) (q0 := 0) rfl rfl, fun U hU hW => ⟨rfl, PB.call hPc hKc hDc hTb hZ hS hFc hU hW⟩⟩ rfl rfl hl.1 rfl (lv_room (Nat.le_of_ble_eq_true rfl)) dX10_digest_24 ⟨Nat.le_of_ble_eq_true rfl, Nat.le_of_ble_eq_true rfl⟩) hS (fun q _ h => hFc q h) hFc (fun r u t H locs ht hvm hw hB hz1 hk1 hS => ?_)
  obtain ⟨hP, hD, hK⟩ := PE.join (wc := [(h0, .inr (13, [.int 0, .int 7, .int 0, .ref l1, .ref l2])), (l1, .inr (2, [.int 0, .ref dE, .int 0])), (l2, .inr (2, [.int 0, .ref dE, .int 0]))]) (wr := []) (w1 := [(h0, .inr (13, [.int 0, .int 7, .int 0, .ref l1, .ref l2])), (l1, .inr (2, [.int 0, .ref dE, .int 0])), (l2, .inr (2, [.int 0, .ref dE, .int 0]))]) (tr := []) (t1 := []) hP hD hK [0, 1, 2] [] [] rfl rfl rfl (by decide) (by decide) hk1 hFc ht hvm hB
  have hP : va_P (dC, dI) vwCl [(h0, .inr (13, [.int 0, .int 7, .int 0, .ref l1, .ref l2])), (l1, .inr (2, [.int 0, .ref dE, .int 0])), (l2, .inr (2, [.int 0, .ref dE, .int 0]))] H := hP
  have hD : va_D A [(h0, .inr (13, [.int 0, .int 7, .int 0, .ref l1, .ref l2])), (l1, .inr (2, [.int 0, .ref dE, .int 0])), (l2, .inr (2, [.int 0, .ref dE, .int 0]))] := hD
  have hK : va_K (dC, dI) vwCl [] s := hK
  subst hw
  refine W.widen (k := 1) (n := 8) (by omega) (by omega) ?_
  refine lv_i2l (v := 7) hx hb dX10_digest_27 (by decide) ?_
  refine lv_ladd hx hb dX10_digest_28 ?_
  refine lv_topl (fun f2 ef2 => ?_)
  obtain rfl : f2 = 1805323 := ef2.trans (by decide)
  refine lv_lstore_n (lv' := [(1, .long 1805323), (3, .int 0), (0, .ref h0)]) hx hb dX10_digest_29 rfl hl (by decide) rfl (fun ls hl => ?_)
  refine lv_iinc (v := 1) (lv' := [(3, .int 1), (1, .long 1805323), (0, .ref h0)]) hx hb dX10_digest_30 hl (k := 1) rfl (by decide) (by decide) rfl (fun ls hl => ?_)
  refine lv_goto (tgt := 11) hx hb dX10_digest_33 (by decide) ?_
  refine lv_iload_n hx hb dX10_digest_11 rfl (lv_at hl 0 rfl) ?_
  refine lv_bipush (v := 7) hx hb dX10_digest_12 (by decide) ?_
  refine lv_icmp_gt (tgt := 36) hx hb dX10_digest_14 (by decide) (fun c9 => absurd c9 (by decide)) (fun _ => ?_)
  refine lv_lload_n hx hb dX10_digest_17 rfl (lv_at hl 1 rfl) ?_
  refine lv_ldc2 (v := 31) hx hb hown (hts (.constantLong RX10 268 (31)) (by decide +kernel)) dX10_digest_18 ?_
  refine lv_lmul hx hb dX10_digest_21 ?_
  refine lv_topl (fun f3 ef3 => ?_)
  obtain rfl : f3 = 55965013 := ef3.trans (by decide)
  refine lv_aload_n hx hb dX10_digest_22 rfl (lv_at hl 2 rfl) ?_
  refine lv_iload_n hx hb dX10_digest_23 rfl (lv_at hl 0 rfl) ?_
  have hPc := hP.sub (ws' := [(h0, .inr (13, [.int 0, .int 7, .int 0, .ref l1, .ref l2])), (l1, .inr (2, [.int 0, .ref dE, .int 0])), (l2, .inr (2, [.int 0, .ref dE, .int 0]))]) [0, 1, 2] rfl
  have hDc := hD.sub (ws' := [(h0, .inr (13, [.int 0, .int 7, .int 0, .ref l1, .ref l2])), (l1, .inr (2, [.int 0, .ref dE, .int 0])), (l2, .inr (2, [.int 0, .ref dE, .int 0]))]) [0, 1, 2] (by decide) rfl
  have hKc := hK.sub (tys' := []) [] rfl
  have hFc := va_free (wc := [(h0, .inr (13, [.int 0, .int 7, .int 0, .ref l1, .ref l2])), (l1, .inr (2, [.int 0, .ref dE, .int 0])), (l2, .inr (2, [.int 0, .ref dE, .int 0]))]) hD hS hA [0, 1, 2] rfl
  refine va_calli (va_runV (As := [.int 1]) (rest := [.long 55965013]) ⟨hx, hb, hml, hown, hts⟩ (c_M_manyNow_1 l dC dI dE h0 l1 l2 H.size) (cwV 1 hts gX10_digest_X10_manyNow rfl rfl rfl (by decide +kernel) ⟨Nat.le_of_ble_eq_true rfl, Nat.le_of_ble_eq_true rfl⟩) ⟨fun a U g mk q => ⟨q.1, PB.blind q.2⟩, va_recv hKc hPc (ci := 13) (q0 := 0) rfl rfl, fun U hU hW => ⟨rfl, PB.call hPc hKc hDc hTb hZ hS hFc hU hW⟩⟩ rfl rfl hl.1 rfl (lv_room (Nat.le_of_ble_eq_true rfl)) dX10_digest_24 ⟨Nat.le_of_ble_eq_true rfl, Nat.le_of_ble_eq_true rfl⟩) hS (fun q _ h => hFc q h) hFc (fun r u t H locs ht hvm hw hB hz1 hk1 hS => ?_)
  obtain ⟨hP, hD, hK⟩ := PE.join (wc := [(h0, .inr (13, [.int 0, .int 7, .int 0, .ref l1, .ref l2])), (l1, .inr (2, [.int 0, .ref dE, .int 0])), (l2, .inr (2, [.int 0, .ref dE, .int 0]))]) (wr := []) (w1 := [(h0, .inr (13, [.int 0, .int 7, .int 0, .ref l1, .ref l2])), (l1, .inr (2, [.int 0, .ref dE, .int 0])), (l2, .inr (2, [.int 0, .ref dE, .int 0]))]) (tr := []) (t1 := []) hP hD hK [0, 1, 2] [] [] rfl rfl rfl (by decide) (by decide) hk1 hFc ht hvm hB
  have hP : va_P (dC, dI) vwCl [(h0, .inr (13, [.int 0, .int 7, .int 0, .ref l1, .ref l2])), (l1, .inr (2, [.int 0, .ref dE, .int 0])), (l2, .inr (2, [.int 0, .ref dE, .int 0]))] H := hP
  have hD : va_D A [(h0, .inr (13, [.int 0, .int 7, .int 0, .ref l1, .ref l2])), (l1, .inr (2, [.int 0, .ref dE, .int 0])), (l2, .inr (2, [.int 0, .ref dE, .int 0]))] := hD
  have hK : va_K (dC, dI) vwCl [] s := hK
  subst hw
  refine W.widen (k := 2) (n := 16) (by omega) (by omega) ?_
  refine lv_i2l (v := 0) hx hb dX10_digest_27 (by decide) ?_
  refine lv_ladd hx hb dX10_digest_28 ?_
  refine lv_topl (fun f4 ef4 => ?_)
  obtain rfl : f4 = 55965013 := ef4.trans (by decide)
  refine lv_lstore_n (lv' := [(1, .long 55965013), (3, .int 1), (0, .ref h0)]) hx hb dX10_digest_29 rfl hl (by decide) rfl (fun ls hl => ?_)
  refine lv_iinc (v := 2) (lv' := [(3, .int 2), (1, .long 55965013), (0, .ref h0)]) hx hb dX10_digest_30 hl (k := 1) rfl (by decide) (by decide) rfl (fun ls hl => ?_)
  refine lv_goto (tgt := 11) hx hb dX10_digest_33 (by decide) ?_
  refine lv_iload_n hx hb dX10_digest_11 rfl (lv_at hl 0 rfl) ?_
  refine lv_bipush (v := 7) hx hb dX10_digest_12 (by decide) ?_
  refine lv_icmp_gt (tgt := 36) hx hb dX10_digest_14 (by decide) (fun c9 => absurd c9 (by decide)) (fun _ => ?_)
  refine lv_lload_n hx hb dX10_digest_17 rfl (lv_at hl 1 rfl) ?_
  refine lv_ldc2 (v := 31) hx hb hown (hts (.constantLong RX10 268 (31)) (by decide +kernel)) dX10_digest_18 ?_
  refine lv_lmul hx hb dX10_digest_21 ?_
  refine lv_topl (fun f5 ef5 => ?_)
  obtain rfl : f5 = 1734915403 := ef5.trans (by decide)
  refine lv_aload_n hx hb dX10_digest_22 rfl (lv_at hl 2 rfl) ?_
  refine lv_iload_n hx hb dX10_digest_23 rfl (lv_at hl 0 rfl) ?_
  have hPc := hP.sub (ws' := [(h0, .inr (13, [.int 0, .int 7, .int 0, .ref l1, .ref l2])), (l1, .inr (2, [.int 0, .ref dE, .int 0])), (l2, .inr (2, [.int 0, .ref dE, .int 0]))]) [0, 1, 2] rfl
  have hDc := hD.sub (ws' := [(h0, .inr (13, [.int 0, .int 7, .int 0, .ref l1, .ref l2])), (l1, .inr (2, [.int 0, .ref dE, .int 0])), (l2, .inr (2, [.int 0, .ref dE, .int 0]))]) [0, 1, 2] (by decide) rfl
  have hKc := hK.sub (tys' := []) [] rfl
  have hFc := va_free (wc := [(h0, .inr (13, [.int 0, .int 7, .int 0, .ref l1, .ref l2])), (l1, .inr (2, [.int 0, .ref dE, .int 0])), (l2, .inr (2, [.int 0, .ref dE, .int 0]))]) hD hS hA [0, 1, 2] rfl
  refine va_calli (va_runV (As := [.int 2]) (rest := [.long 1734915403]) ⟨hx, hb, hml, hown, hts⟩ (c_M_manyNow_2 l dC dI dE h0 l1 l2 H.size) (cwV 1 hts gX10_digest_X10_manyNow rfl rfl rfl (by decide +kernel) ⟨Nat.le_of_ble_eq_true rfl, Nat.le_of_ble_eq_true rfl⟩) ⟨fun a U g mk q => ⟨q.1, PB.blind q.2⟩, va_recv hKc hPc (ci := 13) (q0 := 0) rfl rfl, fun U hU hW => ⟨rfl, PB.call hPc hKc hDc hTb hZ hS hFc hU hW⟩⟩ rfl rfl hl.1 rfl (lv_room (Nat.le_of_ble_eq_true rfl)) dX10_digest_24 ⟨Nat.le_of_ble_eq_true rfl, Nat.le_of_ble_eq_true rfl⟩) hS (fun q _ h => hFc q h) hFc (fun r u t H locs ht hvm hw hB hz1 hk1 hS => ?_)
  obtain ⟨hP, hD, hK⟩ := PE.join (wc := [(h0, .inr (13, [.int 0, .int 7, .int 0, .ref l1, .ref l2])), (l1, .inr (2, [.int 0, .ref dE, .int 0])), (l2, .inr (2, [.int 0, .ref dE, .int 0]))]) (wr := []) (w1 := [(h0, .inr (13, [.int 0, .int 7, .int 0, .ref l1, .ref l2])), (l1, .inr (2, [.int 0, .ref dE, .int 0])), (l2, .inr (2, [.int 0, .ref dE, .int 0]))]) (tr := []) (t1 := []) hP hD hK [0, 1, 2] [] [] rfl rfl rfl (by decide) (by decide) hk1 hFc ht hvm hB
  have hP : va_P (dC, dI) vwCl [(h0, .inr (13, [.int 0, .int 7, .int 0, .ref l1, .ref l2])), (l1, .inr (2, [.int 0, .ref dE, .int 0])), (l2, .inr (2, [.int 0, .ref dE, .int 0]))] H := hP
  have hD : va_D A [(h0, .inr (13, [.int 0, .int 7, .int 0, .ref l1, .ref l2])), (l1, .inr (2, [.int 0, .ref dE, .int 0])), (l2, .inr (2, [.int 0, .ref dE, .int 0]))] := hD
  have hK : va_K (dC, dI) vwCl [] s := hK
  subst hw
  refine W.widen (k := 3) (n := 24) (by omega) (by omega) ?_
  refine lv_i2l (v := 0) hx hb dX10_digest_27 (by decide) ?_
  refine lv_ladd hx hb dX10_digest_28 ?_
  refine lv_topl (fun f6 ef6 => ?_)
  obtain rfl : f6 = 1734915403 := ef6.trans (by decide)
  refine lv_lstore_n (lv' := [(1, .long 1734915403), (3, .int 2), (0, .ref h0)]) hx hb dX10_digest_29 rfl hl (by decide) rfl (fun ls hl => ?_)
  refine lv_iinc (v := 3) (lv' := [(3, .int 3), (1, .long 1734915403), (0, .ref h0)]) hx hb dX10_digest_30 hl (k := 1) rfl (by decide) (by decide) rfl (fun ls hl => ?_)
  refine lv_goto (tgt := 11) hx hb dX10_digest_33 (by decide) ?_
  refine lv_iload_n hx hb dX10_digest_11 rfl (lv_at hl 0 rfl) ?_
  refine lv_bipush (v := 7) hx hb dX10_digest_12 (by decide) ?_
  refine lv_icmp_gt (tgt := 36) hx hb dX10_digest_14 (by decide) (fun c9 => absurd c9 (by decide)) (fun _ => ?_)
  refine lv_lload_n hx hb dX10_digest_17 rfl (lv_at hl 1 rfl) ?_
  refine lv_ldc2 (v := 31) hx hb hown (hts (.constantLong RX10 268 (31)) (by decide +kernel)) dX10_digest_18 ?_
  refine lv_lmul hx hb dX10_digest_21 ?_
  refine lv_topl (fun f7 ef7 => ?_)
  obtain rfl : f7 = 53782377493 := ef7.trans (by decide)
  refine lv_aload_n hx hb dX10_digest_22 rfl (lv_at hl 2 rfl) ?_
  refine lv_iload_n hx hb dX10_digest_23 rfl (lv_at hl 0 rfl) ?_
  have hPc := hP.sub (ws' := [(h0, .inr (13, [.int 0, .int 7, .int 0, .ref l1, .ref l2])), (l1, .inr (2, [.int 0, .ref dE, .int 0])), (l2, .inr (2, [.int 0, .ref dE, .int 0]))]) [0, 1, 2] rfl
  have hDc := hD.sub (ws' := [(h0, .inr (13, [.int 0, .int 7, .int 0, .ref l1, .ref l2])), (l1, .inr (2, [.int 0, .ref dE, .int 0])), (l2, .inr (2, [.int 0, .ref dE, .int 0]))]) [0, 1, 2] (by decide) rfl
  have hKc := hK.sub (tys' := []) [] rfl
  have hFc := va_free (wc := [(h0, .inr (13, [.int 0, .int 7, .int 0, .ref l1, .ref l2])), (l1, .inr (2, [.int 0, .ref dE, .int 0])), (l2, .inr (2, [.int 0, .ref dE, .int 0]))]) hD hS hA [0, 1, 2] rfl
  refine va_calli (va_runV (As := [.int 3]) (rest := [.long 53782377493]) ⟨hx, hb, hml, hown, hts⟩ (c_M_manyNow_3 l dC dI dE h0 l1 l2 H.size) (cwV 1 hts gX10_digest_X10_manyNow rfl rfl rfl (by decide +kernel) ⟨Nat.le_of_ble_eq_true rfl, Nat.le_of_ble_eq_true rfl⟩) ⟨fun a U g mk q => ⟨q.1, PB.blind q.2⟩, va_recv hKc hPc (ci := 13) (q0 := 0) rfl rfl, fun U hU hW => ⟨rfl, PB.call hPc hKc hDc hTb hZ hS hFc hU hW⟩⟩ rfl rfl hl.1 rfl (lv_room (Nat.le_of_ble_eq_true rfl)) dX10_digest_24 ⟨Nat.le_of_ble_eq_true rfl, Nat.le_of_ble_eq_true rfl⟩) hS (fun q _ h => hFc q h) hFc (fun r u t H locs ht hvm hw hB hz1 hk1 hS => ?_)
  obtain ⟨hP, hD, hK⟩ := PE.join (wc := [(h0, .inr (13, [.int 0, .int 7, .int 0, .ref l1, .ref l2])), (l1, .inr (2, [.int 0, .ref dE, .int 0])), (l2, .inr (2, [.int 0, .ref dE, .int 0]))]) (wr := []) (w1 := [(h0, .inr (13, [.int 0, .int 7, .int 0, .ref l1, .ref l2])), (l1, .inr (2, [.int 0, .ref dE, .int 0])), (l2, .inr (2, [.int 0, .ref dE, .int 0]))]) (tr := []) (t1 := []) hP hD hK [0, 1, 2] [] [] rfl rfl rfl (by decide) (by decide) hk1 hFc ht hvm hB
  have hP : va_P (dC, dI) vwCl [(h0, .inr (13, [.int 0, .int 7, .int 0, .ref l1, .ref l2])), (l1, .inr (2, [.int 0, .ref dE, .int 0])), (l2, .inr (2, [.int 0, .ref dE, .int 0]))] H := hP
  have hD : va_D A [(h0, .inr (13, [.int 0, .int 7, .int 0, .ref l1, .ref l2])), (l1, .inr (2, [.int 0, .ref dE, .int 0])), (l2, .inr (2, [.int 0, .ref dE, .int 0]))] := hD
  have hK : va_K (dC, dI) vwCl [] s := hK
  subst hw
  refine W.widen (k := 4) (n := 32) (by omega) (by omega) ?_
  refine lv_i2l (v := 0) hx hb dX10_digest_27 (by decide) ?_
  refine lv_ladd hx hb dX10_digest_28 ?_
  refine lv_topl (fun f8 ef8 => ?_)
  obtain rfl : f8 = 53782377493 := ef8.trans (by decide)
  refine lv_lstore_n (lv' := [(1, .long 53782377493), (3, .int 3), (0, .ref h0)]) hx hb dX10_digest_29 rfl hl (by decide) rfl (fun ls hl => ?_)
  refine lv_iinc (v := 4) (lv' := [(3, .int 4), (1, .long 53782377493), (0, .ref h0)]) hx hb dX10_digest_30 hl (k := 1) rfl (by decide) (by decide) rfl (fun ls hl => ?_)
  refine lv_goto (tgt := 11) hx hb dX10_digest_33 (by decide) ?_
  refine lv_iload_n hx hb dX10_digest_11 rfl (lv_at hl 0 rfl) ?_
  refine lv_bipush (v := 7) hx hb dX10_digest_12 (by decide) ?_
  refine lv_icmp_gt (tgt := 36) hx hb dX10_digest_14 (by decide) (fun c9 => absurd c9 (by decide)) (fun _ => ?_)
  refine lv_lload_n hx hb dX10_digest_17 rfl (lv_at hl 1 rfl) ?_
  refine lv_ldc2 (v := 31) hx hb hown (hts (.constantLong RX10 268 (31)) (by decide +kernel)) dX10_digest_18 ?_
  refine lv_lmul hx hb dX10_digest_21 ?_
  refine lv_topl (fun f9 ef9 => ?_)
  obtain rfl : f9 = 1667253702283 := ef9.trans (by decide)
  refine lv_aload_n hx hb dX10_digest_22 rfl (lv_at hl 2 rfl) ?_
  refine lv_iload_n hx hb dX10_digest_23 rfl (lv_at hl 0 rfl) ?_
  have hPc := hP.sub (ws' := [(h0, .inr (13, [.int 0, .int 7, .int 0, .ref l1, .ref l2])), (l1, .inr (2, [.int 0, .ref dE, .int 0])), (l2, .inr (2, [.int 0, .ref dE, .int 0]))]) [0, 1, 2] rfl
  have hDc := hD.sub (ws' := [(h0, .inr (13, [.int 0, .int 7, .int 0, .ref l1, .ref l2])), (l1, .inr (2, [.int 0, .ref dE, .int 0])), (l2, .inr (2, [.int 0, .ref dE, .int 0]))]) [0, 1, 2] (by decide) rfl
  have hKc := hK.sub (tys' := []) [] rfl
  have hFc := va_free (wc := [(h0, .inr (13, [.int 0, .int 7, .int 0, .ref l1, .ref l2])), (l1, .inr (2, [.int 0, .ref dE, .int 0])), (l2, .inr (2, [.int 0, .ref dE, .int 0]))]) hD hS hA [0, 1, 2] rfl
  refine va_calli (va_runV (As := [.int 4]) (rest := [.long 1667253702283]) ⟨hx, hb, hml, hown, hts⟩ (c_M_manyNow_4 l dC dI dE h0 l1 l2 H.size) (cwV 1 hts gX10_digest_X10_manyNow rfl rfl rfl (by decide +kernel) ⟨Nat.le_of_ble_eq_true rfl, Nat.le_of_ble_eq_true rfl⟩) ⟨fun a U g mk q => ⟨q.1, PB.blind q.2⟩, va_recv hKc hPc (ci := 13) (q0 := 0) rfl rfl, fun U hU hW => ⟨rfl, PB.call hPc hKc hDc hTb hZ hS hFc hU hW⟩⟩ rfl rfl hl.1 rfl (lv_room (Nat.le_of_ble_eq_true rfl)) dX10_digest_24 ⟨Nat.le_of_ble_eq_true rfl, Nat.le_of_ble_eq_true rfl⟩) hS (fun q _ h => hFc q h) hFc (fun r u t H locs ht hvm hw hB hz1 hk1 hS => ?_)
  obtain ⟨hP, hD, hK⟩ := PE.join (wc := [(h0, .inr (13, [.int 0, .int 7, .int 0, .ref l1, .ref l2])), (l1, .inr (2, [.int 0, .ref dE, .int 0])), (l2, .inr (2, [.int 0, .ref dE, .int 0]))]) (wr := []) (w1 := [(h0, .inr (13, [.int 0, .int 7, .int 0, .ref l1, .ref l2])), (l1, .inr (2, [.int 0, .ref dE, .int 0])), (l2, .inr (2, [.int 0, .ref dE, .int 0]))]) (tr := []) (t1 := []) hP hD hK [0, 1, 2] [] [] rfl rfl rfl (by decide) (by decide) hk1 hFc ht hvm hB
  have hP : va_P (dC, dI) vwCl [(h0, .inr (13, [.int 0, .int 7, .int 0, .ref l1, .ref l2])), (l1, .inr (2, [.int 0, .ref dE, .int 0])), (l2, .inr (2, [.int 0, .ref dE, .int 0]))] H := hP
  have hD : va_D A [(h0, .inr (13, [.int 0, .int 7, .int 0, .ref l1, .ref l2])), (l1, .inr (2, [.int 0, .ref dE, .int 0])), (l2, .inr (2, [.int 0, .ref dE, .int 0]))] := hD
  have hK : va_K (dC, dI) vwCl [] s := hK
  subst hw
  refine W.widen (k := 5) (n := 40) (by omega) (by omega) ?_
  refine lv_i2l (v := 0) hx hb dX10_digest_27 (by decide) ?_
  refine lv_ladd hx hb dX10_digest_28 ?_
  refine lv_topl (fun f10 ef10 => ?_)
  obtain rfl : f10 = 1667253702283 := ef10.trans (by decide)
  refine lv_lstore_n (lv' := [(1, .long 1667253702283), (3, .int 4), (0, .ref h0)]) hx hb dX10_digest_29 rfl hl (by decide) rfl (fun ls hl => ?_)
  refine lv_iinc (v := 5) (lv' := [(3, .int 5), (1, .long 1667253702283), (0, .ref h0)]) hx hb dX10_digest_30 hl (k := 1) rfl (by decide) (by decide) rfl (fun ls hl => ?_)
  refine lv_goto (tgt := 11) hx hb dX10_digest_33 (by decide) ?_
  refine lv_iload_n hx hb dX10_digest_11 rfl (lv_at hl 0 rfl) ?_
  refine lv_bipush (v := 7) hx hb dX10_digest_12 (by decide) ?_
  refine lv_icmp_gt (tgt := 36) hx hb dX10_digest_14 (by decide) (fun c9 => absurd c9 (by decide)) (fun _ => ?_)
  refine lv_lload_n hx hb dX10_digest_17 rfl (lv_at hl 1 rfl) ?_
  refine lv_ldc2 (v := 31) hx hb hown (hts (.constantLong RX10 268 (31)) (by decide +kernel)) dX10_digest_18 ?_
  refine lv_lmul hx hb dX10_digest_21 ?_
  refine lv_topl (fun f11 ef11 => ?_)
  obtain rfl : f11 = 51684864770773 := ef11.trans (by decide)
  refine lv_aload_n hx hb dX10_digest_22 rfl (lv_at hl 2 rfl) ?_
  refine lv_iload_n hx hb dX10_digest_23 rfl (lv_at hl 0 rfl) ?_
  have hPc := hP.sub (ws' := [(h0, .inr (13, [.int 0, .int 7, .int 0, .ref l1, .ref l2])), (l1, .inr (2, [.int 0, .ref dE, .int 0])), (l2, .inr (2, [.int 0, .ref dE, .int 0]))]) [0, 1, 2] rfl
  have hDc := hD.sub (ws' := [(h0, .inr (13, [.int 0, .int 7, .int 0, .ref l1, .ref l2])), (l1, .inr (2, [.int 0, .ref dE, .int 0])), (l2, .inr (2, [.int 0, .ref dE, .int 0]))]) [0, 1, 2] (by decide) rfl
  have hKc := hK.sub (tys' := []) [] rfl
  have hFc := va_free (wc := [(h0, .inr (13, [.int 0, .int 7, .int 0, .ref l1, .ref l2])), (l1, .inr (2, [.int 0, .ref dE, .int 0])), (l2, .inr (2, [.int 0, .ref dE, .int 0]))]) hD hS hA [0, 1, 2] rfl
  refine va_calli (va_runV (As := [.int 5]) (rest := [.long 51684864770773]) ⟨hx, hb, hml, hown, hts⟩ (c_M_manyNow_5 l dC dI dE h0 l1 l2 H.size) (cwV 1 hts gX10_digest_X10_manyNow rfl rfl rfl (by decide +kernel) ⟨Nat.le_of_ble_eq_true rfl, Nat.le_of_ble_eq_true rfl⟩) ⟨fun a U g mk q => ⟨q.1, PB.blind q.2⟩, va_recv hKc hPc (ci := 13) (q0 := 0) rfl rfl, fun U hU hW => ⟨rfl, PB.call hPc hKc hDc hTb hZ hS hFc hU hW⟩⟩ rfl rfl hl.1 rfl (lv_room (Nat.le_of_ble_eq_true rfl)) dX10_digest_24 ⟨Nat.le_of_ble_eq_true rfl, Nat.le_of_ble_eq_true rfl⟩) hS (fun q _ h => hFc q h) hFc (fun r u t H locs ht hvm hw hB hz1 hk1 hS => ?_)
  obtain ⟨hP, hD, hK⟩ := PE.join (wc := [(h0, .inr (13, [.int 0, .int 7, .int 0, .ref l1, .ref l2])), (l1, .inr (2, [.int 0, .ref dE, .int 0])), (l2, .inr (2, [.int 0, .ref dE, .int 0]))]) (wr := []) (w1 := [(h0, .inr (13, [.int 0, .int 7, .int 0, .ref l1, .ref l2])), (l1, .inr (2, [.int 0, .ref dE, .int 0])), (l2, .inr (2, [.int 0, .ref dE, .int 0]))]) (tr := []) (t1 := []) hP hD hK [0, 1, 2] [] [] rfl rfl rfl (by decide) (by decide) hk1 hFc ht hvm hB
  have hP : va_P (dC, dI) vwCl [(h0, .inr (13, [.int 0, .int 7, .int 0, .ref l1, .ref l2])), (l1, .inr (2, [.int 0, .ref dE, .int 0])), (l2, .inr (2, [.int 0, .ref dE, .int 0]))] H := hP
  have hD : va_D A [(h0, .inr (13, [.int 0, .int 7, .int 0, .ref l1, .ref l2])), (l1, .inr (2, [.int 0, .ref dE, .int 0])), (l2, .inr (2, [.int 0, .ref dE, .int 0]))] := hD
  have hK : va_K (dC, dI) vwCl [] s := hK
  subst hw
  refine W.widen (k := 6) (n := 48) (by omega) (by omega) ?_
  refine lv_i2l (v := 0) hx hb dX10_digest_27 (by decide) ?_
  refine lv_ladd hx hb dX10_digest_28 ?_
  refine lv_topl (fun f12 ef12 => ?_)
  obtain rfl : f12 = 51684864770773 := ef12.trans (by decide)
  refine lv_lstore_n (lv' := [(1, .long 51684864770773), (3, .int 5), (0, .ref h0)]) hx hb dX10_digest_29 rfl hl (by decide) rfl (fun ls hl => ?_)
  refine lv_iinc (v := 6) (lv' := [(3, .int 6), (1, .long 51684864770773), (0, .ref h0)]) hx hb dX10_digest_30 hl (k := 1) rfl (by decide) (by decide) rfl (fun ls hl => ?_)
  refine lv_goto (tgt := 11) hx hb dX10_digest_33 (by decide) ?_
  refine lv_iload_n hx hb dX10_digest_11 rfl (lv_at hl 0 rfl) ?_
  refine lv_bipush (v := 7) hx hb dX10_digest_12 (by decide) ?_
  refine lv_icmp_gt (tgt := 36) hx hb dX10_digest_14 (by decide) (fun c9 => absurd c9 (by decide)) (fun _ => ?_)
  refine lv_lload_n hx hb dX10_digest_17 rfl (lv_at hl 1 rfl) ?_
  refine lv_ldc2 (v := 31) hx hb hown (hts (.constantLong RX10 268 (31)) (by decide +kernel)) dX10_digest_18 ?_
  refine lv_lmul hx hb dX10_digest_21 ?_
  refine lv_topl (fun f13 ef13 => ?_)
  obtain rfl : f13 = 1602230807893963 := ef13.trans (by decide)
  refine lv_aload_n hx hb dX10_digest_22 rfl (lv_at hl 2 rfl) ?_
  refine lv_iload_n hx hb dX10_digest_23 rfl (lv_at hl 0 rfl) ?_
  have hPc := hP.sub (ws' := [(h0, .inr (13, [.int 0, .int 7, .int 0, .ref l1, .ref l2])), (l1, .inr (2, [.int 0, .ref dE, .int 0])), (l2, .inr (2, [.int 0, .ref dE, .int 0]))]) [0, 1, 2] rfl
  have hDc := hD.sub (ws' := [(h0, .inr (13, [.int 0, .int 7, .int 0, .ref l1, .ref l2])), (l1, .inr (2, [.int 0, .ref dE, .int 0])), (l2, .inr (2, [.int 0, .ref dE, .int 0]))]) [0, 1, 2] (by decide) rfl
  have hKc := hK.sub (tys' := []) [] rfl
  have hFc := va_free (wc := [(h0, .inr (13, [.int 0, .int 7, .int 0, .ref l1, .ref l2])), (l1, .inr (2, [.int 0, .ref dE, .int 0])), (l2, .inr (2, [.int 0, .ref dE, .int 0]))]) hD hS hA [0, 1, 2] rfl
  refine va_calli (va_runV (As := [.int 6]) (rest := [.long 1602230807893963]) ⟨hx, hb, hml, hown, hts⟩ (c_M_manyNow_6 l dC dI dE h0 l1 l2 H.size) (cwV 1 hts gX10_digest_X10_manyNow rfl rfl rfl (by decide +kernel) ⟨Nat.le_of_ble_eq_true rfl, Nat.le_of_ble_eq_true rfl⟩) ⟨fun a U g mk q => ⟨q.1, PB.blind q.2⟩, va_recv hKc hPc (ci := 13) (q0 := 0) rfl rfl, fun U hU hW => ⟨rfl, PB.call hPc hKc hDc hTb hZ hS hFc hU hW⟩⟩ rfl rfl hl.1 rfl (lv_room (Nat.le_of_ble_eq_true rfl)) dX10_digest_24 ⟨Nat.le_of_ble_eq_true rfl, Nat.le_of_ble_eq_true rfl⟩) hS (fun q _ h => hFc q h) hFc (fun r u t H locs ht hvm hw hB hz1 hk1 hS => ?_)
  obtain ⟨hP, hD, hK⟩ := PE.join (wc := [(h0, .inr (13, [.int 0, .int 7, .int 0, .ref l1, .ref l2])), (l1, .inr (2, [.int 0, .ref dE, .int 0])), (l2, .inr (2, [.int 0, .ref dE, .int 0]))]) (wr := []) (w1 := [(h0, .inr (13, [.int 0, .int 7, .int 0, .ref l1, .ref l2])), (l1, .inr (2, [.int 0, .ref dE, .int 0])), (l2, .inr (2, [.int 0, .ref dE, .int 0]))]) (tr := []) (t1 := []) hP hD hK [0, 1, 2] [] [] rfl rfl rfl (by decide) (by decide) hk1 hFc ht hvm hB
  have hP : va_P (dC, dI) vwCl [(h0, .inr (13, [.int 0, .int 7, .int 0, .ref l1, .ref l2])), (l1, .inr (2, [.int 0, .ref dE, .int 0])), (l2, .inr (2, [.int 0, .ref dE, .int 0]))] H := hP
  have hD : va_D A [(h0, .inr (13, [.int 0, .int 7, .int 0, .ref l1, .ref l2])), (l1, .inr (2, [.int 0, .ref dE, .int 0])), (l2, .inr (2, [.int 0, .ref dE, .int 0]))] := hD
  have hK : va_K (dC, dI) vwCl [] s := hK
  subst hw
  refine W.widen (k := 7) (n := 56) (by omega) (by omega) ?_
  refine lv_i2l (v := 0) hx hb dX10_digest_27 (by decide) ?_
  refine lv_ladd hx hb dX10_digest_28 ?_
  refine lv_topl (fun f14 ef14 => ?_)
  obtain rfl : f14 = 1602230807893963 := ef14.trans (by decide)
  refine lv_lstore_n (lv' := [(1, .long 1602230807893963), (3, .int 6), (0, .ref h0)]) hx hb dX10_digest_29 rfl hl (by decide) rfl (fun ls hl => ?_)
  refine lv_iinc (v := 7) (lv' := [(3, .int 7), (1, .long 1602230807893963), (0, .ref h0)]) hx hb dX10_digest_30 hl (k := 1) rfl (by decide) (by decide) rfl (fun ls hl => ?_)
  refine lv_goto (tgt := 11) hx hb dX10_digest_33 (by decide) ?_
  refine lv_iload_n hx hb dX10_digest_11 rfl (lv_at hl 0 rfl) ?_
  refine lv_bipush (v := 7) hx hb dX10_digest_12 (by decide) ?_
  refine lv_icmp_gt (tgt := 36) hx hb dX10_digest_14 (by decide) (fun c9 => absurd c9 (by decide)) (fun _ => ?_)
  refine lv_lload_n hx hb dX10_digest_17 rfl (lv_at hl 1 rfl) ?_
  refine lv_ldc2 (v := 31) hx hb hown (hts (.constantLong RX10 268 (31)) (by decide +kernel)) dX10_digest_18 ?_
  refine lv_lmul hx hb dX10_digest_21 ?_
  refine lv_topl (fun f15 ef15 => ?_)
  obtain rfl : f15 = 49669155044712853 := ef15.trans (by decide)
  refine lv_aload_n hx hb dX10_digest_22 rfl (lv_at hl 2 rfl) ?_
  refine lv_iload_n hx hb dX10_digest_23 rfl (lv_at hl 0 rfl) ?_
  have hPc := hP.sub (ws' := [(h0, .inr (13, [.int 0, .int 7, .int 0, .ref l1, .ref l2])), (l1, .inr (2, [.int 0, .ref dE, .int 0])), (l2, .inr (2, [.int 0, .ref dE, .int 0]))]) [0, 1, 2] rfl
  have hDc := hD.sub (ws' := [(h0, .inr (13, [.int 0, .int 7, .int 0, .ref l1, .ref l2])), (l1, .inr (2, [.int 0, .ref dE, .int 0])), (l2, .inr (2, [.int 0, .ref dE, .int 0]))]) [0, 1, 2] (by decide) rfl
  have hKc := hK.sub (tys' := []) [] rfl
  have hFc := va_free (wc := [(h0, .inr (13, [.int 0, .int 7, .int 0, .ref l1, .ref l2])), (l1, .inr (2, [.int 0, .ref dE, .int 0])), (l2, .inr (2, [.int 0, .ref dE, .int 0]))]) hD hS hA [0, 1, 2] rfl
  refine va_calli (va_runV (As := [.int 7]) (rest := [.long 49669155044712853]) ⟨hx, hb, hml, hown, hts⟩ (c_M_manyNow_7 l dC dI dE h0 l1 l2 H.size) (cwV 1 hts gX10_digest_X10_manyNow rfl rfl rfl (by decide +kernel) ⟨Nat.le_of_ble_eq_true rfl, Nat.le_of_ble_eq_true rfl⟩) ⟨fun a U g mk q => ⟨q.1, PB.blind q.2⟩, va_recv hKc hPc (ci := 13) (q0 := 0) rfl rfl, fun U hU hW => ⟨rfl, PB.call hPc hKc hDc hTb hZ hS hFc hU hW⟩⟩ rfl rfl hl.1 rfl (lv_room (Nat.le_of_ble_eq_true rfl)) dX10_digest_24 ⟨Nat.le_of_ble_eq_true rfl, Nat.le_of_ble_eq_true rfl⟩) hS (fun q _ h => hFc q h) hFc (fun r u t H locs ht hvm hw hB hz1 hk1 hS => ?_)
  obtain ⟨hP, hD, hK⟩ := PE.join (wc := [(h0, .inr (13, [.int 0, .int 7, .int 0, .ref l1, .ref l2])), (l1, .inr (2, [.int 0, .ref dE, .int 0])), (l2, .inr (2, [.int 0, .ref dE, .int 0]))]) (wr := []) (w1 := [(h0, .inr (13, [.int 0, .int 7, .int 0, .ref l1, .ref l2])), (l1, .inr (2, [.int 0, .ref dE, .int 0])), (l2, .inr (2, [.int 0, .ref dE, .int 0]))]) (tr := []) (t1 := []) hP hD hK [0, 1, 2] [] [] rfl rfl rfl (by decide) (by decide) hk1 hFc ht hvm hB
  have hP : va_P (dC, dI) vwCl [(h0, .inr (13, [.int 0, .int 7, .int 0, .ref l1, .ref l2])), (l1, .inr (2, [.int 0, .ref dE, .int 0])), (l2, .inr (2, [.int 0, .ref dE, .int 0]))] H := hP
  have hD : va_D A [(h0, .inr (13, [.int 0, .int 7, .int 0, .ref l1, .ref l2])), (l1, .inr (2, [.int 0, .ref dE, .int 0])), (l2, .inr (2, [.int 0, .ref dE, .int 0]))] := hD
  have hK : va_K (dC, dI) vwCl [] s := hK
  subst hw
  refine W.widen (k := 8) (n := 64) (by omega) (by omega) ?_
  refine lv_i2l (v := 0) hx hb dX10_digest_27 (by decide) ?_
  refine lv_ladd hx hb dX10_digest_28 ?_
  refine lv_topl (fun f16 ef16 => ?_)
  obtain rfl : f16 = 49669155044712853 := ef16.trans (by decide)
  refine lv_lstore_n (lv' := [(1, .long 49669155044712853), (3, .int 7), (0, .ref h0)]) hx hb dX10_digest_29 rfl hl (by decide) rfl (fun ls hl => ?_)
  refine lv_iinc (v := 8) (lv' := [(3, .int 8), (1, .long 49669155044712853), (0, .ref h0)]) hx hb dX10_digest_30 hl (k := 1) rfl (by decide) (by decide) rfl (fun ls hl => ?_)
  refine lv_goto (tgt := 11) hx hb dX10_digest_33 (by decide) ?_
  refine lv_iload_n hx hb dX10_digest_11 rfl (lv_at hl 0 rfl) ?_
  refine lv_bipush (v := 7) hx hb dX10_digest_12 (by decide) ?_
  refine lv_icmp_gt (tgt := 36) hx hb dX10_digest_14 (by decide) (fun _ => ?_) (fun c9 => absurd (by decide) c9)
  refine lv_iconst (v := 0) hx hb dX10_digest_36 (by decide) ?_
  refine lv_istore_n (lv' := [(3, .int 0), (1, .long 49669155044712853), (0, .ref h0)]) hx hb dX10_digest_37 rfl hl (by decide) rfl (fun ls hl => ?_)
  refine lv_iload_n hx hb dX10_digest_38 rfl (lv_at hl 0 rfl) ?_
  refine lv_aload_n hx hb dX10_digest_39 rfl (lv_at hl 2 rfl) ?_
  refine va_get (D := (dC, dI)) (ci := 13) (v := .ref l1) (C := RX10) (T := TX10) (N := 5) hx hb hts (by decide +kernel) hown hK hP 0 rfl rfl 3 (by decide) (hts (.fieldLink RX10 16 "VersorhallModel" "algebras" "Ljava/util/List;") (by decide +kernel)) (fun _ h9 => h9) rfl dX10_digest_40 ?_
  have hPc := hP.sub (ws' := [(l1, .inr (2, [.int 0, .ref dE, .int 0]))]) [1] rfl
  have hDc := hD.sub (ws' := [(l1, .inr (2, [.int 0, .ref dE, .int 0]))]) [1] (by decide) rfl
  have hKc := hK.sub (tys' := []) [] rfl
  have hFc := va_free (wc := [(l1, .inr (2, [.int 0, .ref dE, .int 0]))]) hD hS hA [1] rfl
  refine va_callFi (va_runF ((hK.1 2 _ rfl).2) (As := []) (rest := [.int 0]) ⟨hx, hb, hml, hown, hts⟩ (c_List_size l dC dI dE l1 0 dE 0 H.size) (va_cwF 0 hts gX10_digest_Jx4a65c_size_8abf5_f30Jx4a65c rfl rfl rfl (Tb_w1 hTb) (by decide +kernel) ⟨Nat.le_of_ble_eq_true rfl, Nat.le_of_ble_eq_true rfl⟩) ⟨fun a U g mk q => ⟨q.1, PB.blind q.2⟩, va_recv hKc hPc (ci := 2) (q0 := 0) rfl rfl, fun U hU hW => ⟨rfl, PB.call hPc hKc hDc hTb hZ hS hFc hU hW⟩⟩ rfl rfl hl.1 rfl (lv_room (Nat.le_of_ble_eq_true rfl)) dX10_digest_43 ⟨Nat.le_of_ble_eq_true rfl, Nat.le_of_ble_eq_true rfl⟩) hS (fun q _ h => hFc q h) hFc (fun r u t H locs ht hvm hw hB hz1 hk1 hS => ?_)
  obtain ⟨hP, hD, hK⟩ := PE.join (wc := [(l1, .inr (2, [.int 0, .ref dE, .int 0]))]) (wr := [(h0, .inr (13, [.int 0, .int 7, .int 0, .ref l1, .ref l2])), (l2, .inr (2, [.int 0, .ref dE, .int 0]))]) (w1 := [(l1, .inr (2, [.int 0, .ref dE, .int 0]))]) (tr := []) (t1 := []) hP hD hK [1] [0, 2] [] rfl rfl rfl (by decide) (by decide) hk1 hFc ht hvm hB
  have hP : va_P (dC, dI) vwCl [(h0, .inr (13, [.int 0, .int 7, .int 0, .ref l1, .ref l2])), (l2, .inr (2, [.int 0, .ref dE, .int 0])), (l1, .inr (2, [.int 0, .ref dE, .int 0]))] H := hP
  have hD : va_D A [(h0, .inr (13, [.int 0, .int 7, .int 0, .ref l1, .ref l2])), (l2, .inr (2, [.int 0, .ref dE, .int 0])), (l1, .inr (2, [.int 0, .ref dE, .int 0]))] := hD
  have hK : va_K (dC, dI) vwCl [] s := hK
  subst hw
  refine lv_icmp_ge (tgt := 209) hx hb dX10_digest_48 (by decide) (fun _ => ?_) (fun c9 => absurd (by decide) c9)
  refine lv_iconst (v := 0) hx hb dX10_digest_209 (by decide) ?_
  refine lv_istore_n (lv' := [(3, .int 0), (1, .long 49669155044712853), (0, .ref h0)]) hx hb dX10_digest_210 rfl hl (by decide) rfl (fun ls hl => ?_)
  refine lv_iload_n hx hb dX10_digest_211 rfl (lv_at hl 0 rfl) ?_
  refine lv_aload_n hx hb dX10_digest_212 rfl (lv_at hl 2 rfl) ?_
  refine va_get (D := (dC, dI)) (ci := 13) (v := .ref l2) (C := RX10) (T := TX10) (N := 5) hx hb hts (by decide +kernel) hown hK hP 0 rfl rfl 4 (by decide) (hts (.fieldLink RX10 20 "VersorhallModel" "elements" "Ljava/util/List;") (by decide +kernel)) (fun _ h9 => h9) rfl dX10_digest_213 ?_
  have hPc := hP.sub (ws' := [(l2, .inr (2, [.int 0, .ref dE, .int 0]))]) [1] rfl
  have hDc := hD.sub (ws' := [(l2, .inr (2, [.int 0, .ref dE, .int 0]))]) [1] (by decide) rfl
  have hKc := hK.sub (tys' := []) [] rfl
  have hFc := va_free (wc := [(l2, .inr (2, [.int 0, .ref dE, .int 0]))]) hD hS hA [1] rfl
  refine va_callFi (va_runF ((hK.1 2 _ rfl).2) (As := []) (rest := [.int 0]) ⟨hx, hb, hml, hown, hts⟩ (c_List_size l dC dI dE l2 0 dE 0 H.size) (va_cwF 0 hts gX10_digest_Jx4a65c_size_8abf5_f30Jx4a65c rfl rfl rfl (Tb_w1 hTb) (by decide +kernel) ⟨Nat.le_of_ble_eq_true rfl, Nat.le_of_ble_eq_true rfl⟩) ⟨fun a U g mk q => ⟨q.1, PB.blind q.2⟩, va_recv hKc hPc (ci := 2) (q0 := 0) rfl rfl, fun U hU hW => ⟨rfl, PB.call hPc hKc hDc hTb hZ hS hFc hU hW⟩⟩ rfl rfl hl.1 rfl (lv_room (Nat.le_of_ble_eq_true rfl)) dX10_digest_216 ⟨Nat.le_of_ble_eq_true rfl, Nat.le_of_ble_eq_true rfl⟩) hS (fun q _ h => hFc q h) hFc (fun r u t H locs ht hvm hw hB hz1 hk1 hS => ?_)
  obtain ⟨hP, hD, hK⟩ := PE.join (wc := [(l2, .inr (2, [.int 0, .ref dE, .int 0]))]) (wr := [(h0, .inr (13, [.int 0, .int 7, .int 0, .ref l1, .ref l2])), (l1, .inr (2, [.int 0, .ref dE, .int 0]))]) (w1 := [(l2, .inr (2, [.int 0, .ref dE, .int 0]))]) (tr := []) (t1 := []) hP hD hK [1] [0, 2] [] rfl rfl rfl (by decide) (by decide) hk1 hFc ht hvm hB
  have hP : va_P (dC, dI) vwCl [(h0, .inr (13, [.int 0, .int 7, .int 0, .ref l1, .ref l2])), (l1, .inr (2, [.int 0, .ref dE, .int 0])), (l2, .inr (2, [.int 0, .ref dE, .int 0]))] H := hP
  have hD : va_D A [(h0, .inr (13, [.int 0, .int 7, .int 0, .ref l1, .ref l2])), (l1, .inr (2, [.int 0, .ref dE, .int 0])), (l2, .inr (2, [.int 0, .ref dE, .int 0]))] := hD
  have hK : va_K (dC, dI) vwCl [] s := hK
  subst hw
  refine lv_icmp_ge (tgt := 322) hx hb dX10_digest_221 (by decide) (fun _ => ?_) (fun c9 => absurd (by decide) c9)
  refine lv_lload_n hx hb dX10_digest_322 rfl (lv_at hl 1 rfl) ?_
  have hP9 := hP.sub (ws' := [(h0, .inr (13, [.int 0, .int 7, .int 0, .ref l1, .ref l2])), (l1, .inr (2, [.int 0, .ref dE, .int 0])), (l2, .inr (2, [.int 0, .ref dE, .int 0]))]) [0, 1, 2] rfl
  have hD9 := hD.sub (ws' := [(h0, .inr (13, [.int 0, .int 7, .int 0, .ref l1, .ref l2])), (l1, .inr (2, [.int 0, .ref dE, .int 0])), (l2, .inr (2, [.int 0, .ref dE, .int 0]))]) [0, 1, 2] (by decide) rfl
  have hK9 := hK.sub (tys' := []) [] rfl
  refine W.widen (k := 8) (n := 64) (Nat.le_of_ble_eq_true rfl) (Nat.le_of_ble_eq_true rfl) ?_
  exact W.lret (v := 49669155044712853) hx hb hr (fun t ht hW => ⟨⟨_, (), rfl, rfl, PE.mk hP9 hK9 hD9 ht hW⟩, hS.F ht⟩) hS.2.2 dX10_digest_323

