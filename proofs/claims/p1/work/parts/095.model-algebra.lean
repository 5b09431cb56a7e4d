def wsJx4a65c_grow_92f84_r1 : List Cond := [Cond.fieldLink RJx4a65c 9 "java/util/ArrayList" "elementData" "[Ljava/lang/Object;", Cond.fieldLink RJx4a65c 39 "java/util/ArrayList" "DEFAULTCAPACITY_EMPTY_ELEMENTDATA" "[Ljava/lang/Object;", Cond.methodLink RJx4a65c 79 Lib.Math.max.name, Cond.static Lib.Math.max.name, Cond.initialized "java/lang/Math", Cond.code Lib.Math.max.name Lib.Math.max.code 2 (some .int), Cond.classLink RJx4a65c 7 "java/lang/Object", Cond.methodLink RJx4a65c 73 yJ8_newLength_cabcc, Cond.static yJ8_newLength_cabcc, Cond.initialized RJ8, Cond.code yJ8_newLength_cabcc cJ8_newLength_cabcc 4 (some .int), Cond.methodLink RJ8 194 Lib.Math.max.name, Cond.constant RJ8 200 (2147483639), Cond.methodLink RJ8 201 yJ8_hugeLength_7cf53, Cond.static yJ8_hugeLength_7cf53, Cond.code yJ8_hugeLength_7cf53 cJ8_hugeLength_7cf53 3 (some .int), Cond.methodLink RJx4a65c 66 yJ7_copyOf_1904c, Cond.static yJ7_copyOf_1904c, Cond.initialized RJ7, Cond.code yJ7_copyOf_1904c cJ7_copyOf_1904c 2 (some (.array (.object "java/lang/Object"))), Cond.methodLink RJ7 86 ⟨"java/lang/Object", "getClass", "()Ljava/lang/Class;"⟩, Cond.selects "[Ljava/lang/Object;" ⟨"java/lang/Object", "getClass", "()Ljava/lang/Class;"⟩ ⟨"java/lang/Object", "getClass", "()Ljava/lang/Class;"⟩, Cond.instanceMethod ⟨"java/lang/Object", "getClass", "()Ljava/lang/Class;"⟩, Cond.native ⟨"java/lang/Object", "getClass", "()Ljava/lang/Class;"⟩]
def wsJx4a65c_grow_92f84_r2 : List Cond := [Cond.methodLink RJ7 300 yJ7_copyOf_6403c, Cond.static yJ7_copyOf_6403c, Cond.code yJ7_copyOf_6403c cJ7_copyOf_6403c 4 (some (.array (.object "java/lang/Object"))), Cond.classLink RJ7 110 "[Ljava/lang/Object;", Cond.classLink RJ7 2 "java/lang/Object", Cond.methodLink RJ7 304 Lib.Math.min.name, Cond.static Lib.Math.min.name, Cond.code Lib.Math.min.name Lib.Math.min.code 2 (some .int), Cond.methodLink RJ7 150 arraycopyName, Cond.native arraycopyName, Cond.static arraycopyName, Cond.initialized "java/lang/System"]
def wsJx4a65c_grow_92f84 : List Cond := .code yJx4a65c_grow_92f84 cJx4a65c_grow_92f84 4 (some (.array (.object "java/lang/Object"))) :: ((wsJx4a65c_grow_92f84_r1 ++ wsJx4a65c_grow_92f84_r2) ++ wsJx4a65c0)
theorem dJx4a65c_grow_92f84_0 : decode cJx4a65c_grow_92f84 0 = .ok (.aload_n 0, 1) := by decide +kernel
theorem dJx4a65c_grow_92f84_1 : decode cJx4a65c_grow_92f84 1 = .ok (.getfield 9, 3) := by decide +kernel
theorem dJx4a65c_grow_92f84_4 : decode cJx4a65c_grow_92f84 4 = .ok (.arraylength, 1) := by decide +kernel
theorem dJx4a65c_grow_92f84_5 : decode cJx4a65c_grow_92f84 5 = .ok (.istore_n 2, 1) := by decide +kernel
theorem dJx4a65c_grow_92f84_6 : decode cJx4a65c_grow_92f84 6 = .ok (.iload_n 2, 1) := by decide +kernel
theorem dJx4a65c_grow_92f84_7 : decode cJx4a65c_grow_92f84 7 = .ok (.ifCond .gt 13, 3) := by decide +kernel
theorem dJx4a65c_grow_92f84_10 : decode cJx4a65c_grow_92f84 10 = .ok (.aload_n 0, 1) := by decide +kernel
theorem dJx4a65c_grow_92f84_11 : decode cJx4a65c_grow_92f84 11 = .ok (.getfield 9, 3) := by decide +kernel
theorem dJx4a65c_grow_92f84_14 : decode cJx4a65c_grow_92f84 14 = .ok (.getstatic 39, 3) := by decide +kernel
theorem dJx4a65c_grow_92f84_17 : decode cJx4a65c_grow_92f84 17 = .ok (.if_acmp .eq 28, 3) := by decide +kernel
theorem dJx4a65c_grow_92f84_45 : decode cJx4a65c_grow_92f84 45 = .ok (.aload_n 0, 1) := by decide +kernel
theorem dJx4a65c_grow_92f84_46 : decode cJx4a65c_grow_92f84 46 = .ok (.bipush 10, 2) := by decide +kernel
theorem dJx4a65c_grow_92f84_48 : decode cJx4a65c_grow_92f84 48 = .ok (.iload_n 1, 1) := by decide +kernel
theorem dJx4a65c_grow_92f84_49 : decode cJx4a65c_grow_92f84 49 = .ok (.invokestatic 79, 3) := by decide +kernel
theorem dJx4a65c_grow_92f84_52 : decode cJx4a65c_grow_92f84 52 = .ok (.anewarray 7, 3) := by decide +kernel
theorem dJx4a65c_grow_92f84_55 : decode cJx4a65c_grow_92f84 55 = .ok (.dup_x1, 1) := by decide +kernel
theorem dJx4a65c_grow_92f84_56 : decode cJx4a65c_grow_92f84 56 = .ok (.putfield 9, 3) := by decide +kernel
theorem dJx4a65c_grow_92f84_59 : decode cJx4a65c_grow_92f84 59 = .ok (.areturn, 1) := by decide +kernel
def wsJx4a65c_grow_d5877_r1 : List Cond := [Cond.fieldLink RJx4a65c 48 "java/util/ArrayList" "size" "I", Cond.methodLink RJx4a65c 69 yJx4a65c_grow_92f84, Cond.instanceMethod yJx4a65c_grow_92f84, Cond.selects RJx4a65c yJx4a65c_grow_92f84 yJx4a65c_grow_92f84, Cond.initialized RJx4a65c, Cond.code yJx4a65c_grow_92f84 cJx4a65c_grow_92f84 4 (some (.array (.object "java/lang/Object"))), Cond.fieldLink RJx4a65c 9 "java/util/ArrayList" "elementData" "[Ljava/lang/Object;", Cond.fieldLink RJx4a65c 39 "java/util/ArrayList" "DEFAULTCAPACITY_EMPTY_ELEMENTDATA" "[Ljava/lang/Object;", Cond.methodLink RJx4a65c 79 Lib.Math.max.name, Cond.static Lib.Math.max.name, Cond.initialized "java/lang/Math", Cond.code Lib.Math.max.name Lib.Math.max.code 2 (some .int), Cond.classLink RJx4a65c 7 "java/lang/Object", Cond.methodLink RJx4a65c 73 yJ8_newLength_cabcc, Cond.static yJ8_newLength_cabcc, Cond.initialized RJ8, Cond.code yJ8_newLength_cabcc cJ8_newLength_cabcc 4 (some .int), Cond.methodLink RJ8 194 Lib.Math.max.name, Cond.constant RJ8 200 (2147483639), Cond.methodLink RJ8 201 yJ8_hugeLength_7cf53, Cond.static yJ8_hugeLength_7cf53, Cond.code yJ8_hugeLength_7cf53 cJ8_hugeLength_7cf53 3 (some .int), Cond.methodLink RJx4a65c 66 yJ7_copyOf_1904c, Cond.static yJ7_copyOf_1904c]
def wsJx4a65c_grow_d5877_r2 : List Cond := [Cond.initialized RJ7, Cond.code yJ7_copyOf_1904c cJ7_copyOf_1904c 2 (some (.array (.object "java/lang/Object"))), Cond.methodLink RJ7 86 ⟨"java/lang/Object", "getClass", "()Ljava/lang/Class;"⟩, Cond.selects "[Ljava/lang/Object;" ⟨"java/lang/Object", "getClass", "()Ljava/lang/Class;"⟩ ⟨"java/lang/Object", "getClass", "()Ljava/lang/Class;"⟩, Cond.instanceMethod ⟨"java/lang/Object", "getClass", "()Ljava/lang/Class;"⟩, Cond.native ⟨"java/lang/Object", "getClass", "()Ljava/lang/Class;"⟩, Cond.methodLink RJ7 300 yJ7_copyOf_6403c, Cond.static yJ7_copyOf_6403c, Cond.code yJ7_copyOf_6403c cJ7_copyOf_6403c 4 (some (.array (.object "java/lang/Object"))), Cond.classLink RJ7 110 "[Ljava/lang/Object;", Cond.classLink RJ7 2 "java/lang/Object", Cond.methodLink RJ7 304 Lib.Math.min.name, Cond.static Lib.Math.min.name, Cond.code Lib.Math.min.name Lib.Math.min.code 2 (some .int), Cond.methodLink RJ7 150 arraycopyName, Cond.native arraycopyName, Cond.static arraycopyName, Cond.initialized "java/lang/System"]
def wsJx4a65c_grow_d5877 : List Cond := .code yJx4a65c_grow_d5877 cJx4a65c_grow_d5877 1 (some (.array (.object "java/lang/Object"))) :: ((wsJx4a65c_grow_d5877_r1 ++ wsJx4a65c_grow_d5877_r2) ++ wsJx4a65c0)
theorem dJx4a65c_grow_d5877_0 : decode cJx4a65c_grow_d5877 0 = .ok (.aload_n 0, 1) := by decide +kernel
theorem dJx4a65c_grow_d5877_1 : decode cJx4a65c_grow_d5877 1 = .ok (.aload_n 0, 1) := by decide +kernel
theorem dJx4a65c_grow_d5877_2 : decode cJx4a65c_grow_d5877 2 = .ok (.getfield 48, 3) := by decide +kernel
theorem dJx4a65c_grow_d5877_5 : decode cJx4a65c_grow_d5877 5 = .ok (.iconst 1, 1) := by decide +kernel
theorem dJx4a65c_grow_d5877_6 : decode cJx4a65c_grow_d5877 6 = .ok (.iadd, 1) := by decide +kernel
set_option maxRecDepth 20000 in
theorem ggJx4a65c_grow_d5877_Jx4a65c_grow_92f84 : GoodIn wsJx4a65c_grow_d5877 wsJx4a65c_grow_92f84 := goodIn_r _ [6, 7, 8, 9, 10, 11, 12, 13, 14, 15, 16, 17, 18, 19, 20, 21, 22, 23, 24, 25, 26, 27, 28, 29, 30, 31, 32, 33, 34, 35, 36, 37, 38, 39, 40, 41, 42, 43, 44, 45] (by decide +kernel) (by decide +kernel)
set_option maxRecDepth 20000 in
theorem gJx4a65c_grow_d5877_Jx4a65c_grow_92f84 : GoodIn wsJx4a65c_grow_d5877 (wsV RJx4a65c 69 RJx4a65c yJx4a65c_grow_92f84 wsJx4a65c_grow_92f84) := goodIn_app (goodIn_of _ (by decide +kernel)) ggJx4a65c_grow_d5877_Jx4a65c_grow_92f84
theorem dJx4a65c_grow_d5877_7 : decode cJx4a65c_grow_d5877 7 = .ok (.invokevirtual 69, 3) := by decide +kernel
theorem dJx4a65c_grow_d5877_10 : decode cJx4a65c_grow_d5877 10 = .ok (.areturn, 1) := by decide +kernel
def wsJx4a65c_add_72be8_r1 : List Cond := [Cond.fieldLink RJx4a65c 48 "java/util/ArrayList" "size" "I", Cond.methodLink RJx4a65c 129 yJx4a65c_grow_d5877, Cond.instanceMethod yJx4a65c_grow_d5877, Cond.selects RJx4a65c yJx4a65c_grow_d5877 yJx4a65c_grow_d5877, Cond.initialized RJx4a65c, Cond.code yJx4a65c_grow_d5877 cJx4a65c_grow_d5877 1 (some (.array (.object "java/lang/Object"))), Cond.methodLink RJx4a65c 69 yJx4a65c_grow_92f84, Cond.instanceMethod yJx4a65c_grow_92f84, Cond.selects RJx4a65c yJx4a65c_grow_92f84 yJx4a65c_grow_92f84, Cond.code yJx4a65c_grow_92f84 cJx4a65c_grow_92f84 4 (some (.array (.object "java/lang/Object"))), Cond.fieldLink RJx4a65c 9 "java/util/ArrayList" "elementData" "[Ljava/lang/Object;", Cond.fieldLink RJx4a65c 39 "java/util/ArrayList" "DEFAULTCAPACITY_EMPTY_ELEMENTDATA" "[Ljava/lang/Object;", Cond.methodLink RJx4a65c 79 Lib.Math.max.name, Cond.static Lib.Math.max.name, Cond.initialized "java/lang/Math", Cond.code Lib.Math.max.name Lib.Math.max.code 2 (some .int), Cond.classLink RJx4a65c 7 "java/lang/Object", Cond.methodLink RJx4a65c 73 yJ8_newLength_cabcc, Cond.static yJ8_newLength_cabcc, Cond.initialized RJ8, Cond.code yJ8_newLength_cabcc cJ8_newLength_cabcc 4 (some .int), Cond.methodLink RJ8 194 Lib.Math.max.name, Cond.constant RJ8 200 (2147483639), Cond.methodLink RJ8 201 yJ8_hugeLength_7cf53]
def wsJx4a65c_add_72be8_r2 : List Cond := [Cond.static yJ8_hugeLength_7cf53, Cond.code yJ8_hugeLength_7cf53 cJ8_hugeLength_7cf53 3 (some .int), Cond.methodLink RJx4a65c 66 yJ7_copyOf_1904c, Cond.static yJ7_copyOf_1904c, Cond.initialized RJ7, Cond.code yJ7_copyOf_1904c cJ7_copyOf_1904c 2 (some (.array (.object "java/lang/Object"))), Cond.methodLink RJ7 86 ⟨"java/lang/Object", "getClass", "()Ljava/lang/Class;"⟩, Cond.selects "[Ljava/lang/Object;" ⟨"java/lang/Object", "getClass", "()Ljava/lang/Class;"⟩ ⟨"java/lang/Object", "getClass", "()Ljava/lang/Class;"⟩, Cond.instanceMethod ⟨"java/lang/Object", "getClass", "()Ljava/lang/Class;"⟩, Cond.native ⟨"java/lang/Object", "getClass", "()Ljava/lang/Class;"⟩, Cond.methodLink RJ7 300 yJ7_copyOf_6403c, Cond.static yJ7_copyOf_6403c, Cond.code yJ7_copyOf_6403c cJ7_copyOf_6403c 4 (some (.array (.object "java/lang/Object"))), Cond.classLink RJ7 110 "[Ljava/lang/Object;", Cond.classLink RJ7 2 "java/lang/Object", Cond.methodLink RJ7 304 Lib.Math.min.name, Cond.static Lib.Math.min.name, Cond.code Lib.Math.min.name Lib.Math.min.code 2 (some .int), Cond.methodLink RJ7 150 arraycopyName, Cond.native arraycopyName, Cond.static arraycopyName, Cond.initialized "java/lang/System"]
def wsJx4a65c_add_72be8 : List Cond := .code yJx4a65c_add_72be8 cJx4a65c_add_72be8 4 none :: ((wsJx4a65c_add_72be8_r1 ++ wsJx4a65c_add_72be8_r2) ++ wsJx4a65c0)
theorem dJx4a65c_add_72be8_0 : decode cJx4a65c_add_72be8 0 = .ok (.iload_n 3, 1) := by decide +kernel
theorem dJx4a65c_add_72be8_1 : decode cJx4a65c_add_72be8 1 = .ok (.aload_n 2, 1) := by decide +kernel
theorem dJx4a65c_add_72be8_2 : decode cJx4a65c_add_72be8 2 = .ok (.arraylength, 1) := by decide +kernel
theorem dJx4a65c_add_72be8_3 : decode cJx4a65c_add_72be8 3 = .ok (.if_icmp .ne 8, 3) := by decide +kernel
theorem dJx4a65c_add_72be8_6 : decode cJx4a65c_add_72be8 6 = .ok (.aload_n 0, 1) := by decide +kernel
set_option maxRecDepth 20000 in
theorem ggJx4a65c_add_72be8_Jx4a65c_grow_d5877 : GoodIn wsJx4a65c_add_72be8 wsJx4a65c_grow_d5877 := goodIn_r _ [6, 1, 7, 8, 9, 5, 10, 11, 12, 13, 14, 15, 16, 17, 18, 19, 20, 21, 22, 23, 24, 25, 26, 27, 28, 29, 30, 31, 32, 33, 34, 35, 36, 37, 38, 39, 40, 41, 42, 43, 44, 45, 46, 47, 48, 49] (by decide +kernel) (by decide +kernel)
set_option maxRecDepth 20000 in
theorem gJx4a65c_add_72be8_Jx4a65c_grow_d5877 : GoodIn wsJx4a65c_add_72be8 (wsV RJx4a65c 129 RJx4a65c yJx4a65c_grow_d5877 wsJx4a65c_grow_d5877) := goodIn_app (goodIn_of _ (by decide +kernel)) ggJx4a65c_add_72be8_Jx4a65c_grow_d5877
theorem dJx4a65c_add_72be8_7 : decode cJx4a65c_add_72be8 7 = .ok (.invokevirtual 129, 3) := by decide +kernel
theorem dJx4a65c_add_72be8_10 : decode cJx4a65c_add_72be8 10 = .ok (.astore_n 2, 1) := by decide +kernel
theorem dJx4a65c_add_72be8_11 : decode cJx4a65c_add_72be8 11 = .ok (.aload_n 2, 1) := by decide +kernel
theorem dJx4a65c_add_72be8_12 : decode cJx4a65c_add_72be8 12 = .ok (.iload_n 3, 1) := by decide +kernel
theorem dJx4a65c_add_72be8_13 : decode cJx4a65c_add_72be8 13 = .ok (.aload_n 1, 1) := by decide +kernel
theorem dJx4a65c_add_72be8_14 : decode cJx4a65c_add_72be8 14 = .ok (.aastore, 1) := by decide +kernel
theorem dJx4a65c_add_72be8_15 : decode cJx4a65c_add_72be8 15 = .ok (.aload_n 0, 1) := by decide +kernel
theorem dJx4a65c_add_72be8_16 : decode cJx4a65c_add_72be8 16 = .ok (.iload_n 3, 1) := by decide +kernel
theorem dJx4a65c_add_72be8_17 : decode cJx4a65c_add_72be8 17 = .ok (.iconst 1, 1) := by decide +kernel
theorem dJx4a65c_add_72be8_18 : decode cJx4a65c_add_72be8 18 = .ok (.iadd, 1) := by decide +kernel
theorem dJx4a65c_add_72be8_19 : decode cJx4a65c_add_72be8 19 = .ok (.putfield 48, 3) := by decide +kernel
theorem dJx4a65c_add_72be8_22 : decode cJx4a65c_add_72be8 22 = .ok (.return_, 1) := by decide +kernel
def wsJx4a65c_add_9ea2d_r1 : List Cond := [Cond.fieldLink RJx4a65c 63 "java/util/ArrayList" "modCount" "I", Cond.sameField "java/util/ArrayList" "java/util/AbstractList" "modCount" "I", Cond.fieldLink RJx4a65c 9 "java/util/ArrayList" "elementData" "[Ljava/lang/Object;", Cond.fieldLink RJx4a65c 48 "java/util/ArrayList" "size" "I", Cond.methodLink RJx4a65c 131 yJx4a65c_add_72be8, Cond.instanceMethod yJx4a65c_add_72be8, Cond.selects RJx4a65c yJx4a65c_add_72be8 yJx4a65c_add_72be8, Cond.initialized RJx4a65c, Cond.code yJx4a65c_add_72be8 cJx4a65c_add_72be8 4 none, Cond.methodLink RJx4a65c 129 yJx4a65c_grow_d5877, Cond.instanceMethod yJx4a65c_grow_d5877, Cond.selects RJx4a65c yJx4a65c_grow_d5877 yJx4a65c_grow_d5877, Cond.code yJx4a65c_grow_d5877 cJx4a65c_grow_d5877 1 (some (.array (.object "java/lang/Object"))), Cond.methodLink RJx4a65c 69 yJx4a65c_grow_92f84, Cond.instanceMethod yJx4a65c_grow_92f84, Cond.selects RJx4a65c yJx4a65c_grow_92f84 yJx4a65c_grow_92f84, Cond.code yJx4a65c_grow_92f84 cJx4a65c_grow_92f84 4 (some (.array (.object "java/lang/Object"))), Cond.fieldLink RJx4a65c 39 "java/util/ArrayList" "DEFAULTCAPACITY_EMPTY_ELEMENTDATA" "[Ljava/lang/Object;", Cond.methodLink RJx4a65c 79 Lib.Math.max.name, Cond.static Lib.Math.max.name, Cond.initialized "java/lang/Math", Cond.code Lib.Math.max.name Lib.Math.max.code 2 (some .int), Cond.classLink RJx4a65c 7 "java/lang/Object", Cond.methodLink RJx4a65c 73 yJ8_newLength_cabcc]
def wsJx4a65c_add_9ea2d_r2 : List Cond := [Cond.static yJ8_newLength_cabcc, Cond.initialized RJ8, Cond.code yJ8_newLength_cabcc cJ8_newLength_cabcc 4 (some .int), Cond.methodLink RJ8 194 Lib.Math.max.name, Cond.constant RJ8 200 (2147483639), Cond.methodLink RJ8 201 yJ8_hugeLength_7cf53, Cond.static yJ8_hugeLength_7cf53, Cond.code yJ8_hugeLength_7cf53 cJ8_hugeLength_7cf53 3 (some .int), Cond.methodLink RJx4a65c 66 yJ7_copyOf_1904c, Cond.static yJ7_copyOf_1904c, Cond.initialized RJ7, Cond.code yJ7_copyOf_1904c cJ7_copyOf_1904c 2 (some (.array (.object "java/lang/Object"))), Cond.methodLink RJ7 86 ⟨"java/lang/Object", "getClass", "()Ljava/lang/Class;"⟩, Cond.selects "[Ljava/lang/Object;" ⟨"java/lang/Object", "getClass", "()Ljava/lang/Class;"⟩ ⟨"java/lang/Object", "getClass", "()Ljava/lang/Class;"⟩, Cond.instanceMethod ⟨"java/lang/Object", "getClass", "()Ljava/lang/Class;"⟩, Cond.native ⟨"java/lang/Object", "getClass", "()Ljava/lang/Class;"⟩, Cond.methodLink RJ7 300 yJ7_copyOf_6403c, Cond.static yJ7_copyOf_6403c, Cond.code yJ7_copyOf_6403c cJ7_copyOf_6403c 4 (some (.array (.object "java/lang/Object"))), Cond.classLink RJ7 110 "[Ljava/lang/Object;", Cond.classLink RJ7 2 "java/lang/Object", Cond.methodLink RJ7 304 Lib.Math.min.name, Cond.static Lib.Math.min.name, Cond.code Lib.Math.min.name Lib.Math.min.code 2 (some .int)]
def wsJx4a65c_add_9ea2d_r3 : List Cond := [Cond.methodLink RJ7 150 arraycopyName, Cond.native arraycopyName, Cond.static arraycopyName, Cond.initialized "java/lang/System"]
def wsJx4a65c_add_9ea2d : List Cond := .code yJx4a65c_add_9ea2d cJx4a65c_add_9ea2d 2 (some .boolean) :: ((wsJx4a65c_add_9ea2d_r1 ++ (wsJx4a65c_add_9ea2d_r2 ++ wsJx4a65c_add_9ea2d_r3)) ++ wsJx4a65c0)
theorem dJx4a65c_add_9ea2d_0 : decode cJx4a65c_add_9ea2d 0 = .ok (.aload_n 0, 1) := by decide +kernel
theorem dJx4a65c_add_9ea2d_1 : decode cJx4a65c_add_9ea2d 1 = .ok (.dup, 1) := by decide +kernel
theorem dJx4a65c_add_9ea2d_2 : decode cJx4a65c_add_9ea2d 2 = .ok (.getfield 63, 3) := by decide +kernel
theorem dJx4a65c_add_9ea2d_5 : decode cJx4a65c_add_9ea2d 5 = .ok (.iconst 1, 1) := by decide +kernel
theorem dJx4a65c_add_9ea2d_6 : decode cJx4a65c_add_9ea2d 6 = .ok (.iadd, 1) := by decide +kernel
theorem dJx4a65c_add_9ea2d_7 : decode cJx4a65c_add_9ea2d 7 = .ok (.putfield 63, 3) := by decide +kernel
theorem dJx4a65c_add_9ea2d_10 : decode cJx4a65c_add_9ea2d 10 = .ok (.aload_n 0, 1) := by decide +kernel
theorem dJx4a65c_add_9ea2d_11 : decode cJx4a65c_add_9ea2d 11 = .ok (.aload_n 1, 1) := by decide +kernel
theorem dJx4a65c_add_9ea2d_12 : decode cJx4a65c_add_9ea2d 12 = .ok (.aload_n 0, 1) := by decide +kernel
theorem dJx4a65c_add_9ea2d_13 : decode cJx4a65c_add_9ea2d 13 = .ok (.getfield 9, 3) := by decide +kernel
theorem dJx4a65c_add_9ea2d_16 : decode cJx4a65c_add_9ea2d 16 = .ok (.aload_n 0, 1) := by decide +kernel
theorem dJx4a65c_add_9ea2d_17 : decode cJx4a65c_add_9ea2d 17 = .ok (.getfield 48, 3) := by decide +kernel
set_option maxRecDepth 20000 in
theorem ggJx4a65c_add_9ea2d_Jx4a65c_add_72be8 : GoodIn wsJx4a65c_add_9ea2d wsJx4a65c_add_72be8 := goodIn_r _ [9, 4, 10, 11, 12, 8, 13, 14, 15, 16, 17, 3, 18, 19, 20, 21, 22, 23, 24, 25, 26, 27, 28, 29, 30, 31, 32, 33, 34, 35, 36, 37, 38, 39, 40, 41, 42, 43, 44, 45, 46, 47, 48, 49, 50, 51, 52, 53, 54, 55] (by decide +kernel) (by decide +kernel)
set_option maxRecDepth 20000 in
theorem gJx4a65c_add_9ea2d_Jx4a65c_add_72be8 : GoodIn wsJx4a65c_add_9ea2d (wsV RJx4a65c 131 RJx4a65c yJx4a65c_add_72be8 wsJx4a65c_add_72be8) := goodIn_app (goodIn_of _ (by decide +kernel)) ggJx4a65c_add_9ea2d_Jx4a65c_add_72be8
theorem dJx4a65c_add_9ea2d_20 : decode cJx4a65c_add_9ea2d 20 = .ok (.invokevirtual 131, 3) := by decide +kernel
theorem dJx4a65c_add_9ea2d_23 : decode cJx4a65c_add_9ea2d 23 = .ok (.iconst 1, 1) := by decide +kernel
theorem dJx4a65c_add_9ea2d_24 : decode cJx4a65c_add_9ea2d 24 = .ok (.ireturn, 1) := by decide +kernel
def wsX8_init_r1 : List Cond := [Cond.fieldLink RX8 3 "VersorhallModel$Algebra" "this$0" "LVersorhallModel;", Cond.methodLink RX8 9 objectInit, Cond.instanceMethod objectInit, Cond.code objectInit ⟨#[0xb1]⟩ 1 none, Cond.arrayClass .int, Cond.fieldLink RX8 15 "VersorhallModel$Algebra" "dials" "[I", Cond.classLink RX8 19 "[I", Cond.fieldLink RX8 20 "VersorhallModel$Algebra" "signs" "[[I", Cond.classLink RX8 24 RJx4a65c, Cond.instantiable RJx4a65c 3, Cond.initialized RJx4a65c, Cond.fieldLink RX8 27 "VersorhallModel$Algebra" "mirrors" "Ljava/util/List;", Cond.fieldLink RX8 31 "VersorhallModel$Algebra" "kind" "I", Cond.methodLink RX8 26 yJx4a65c_init_da8c8, Cond.instanceMethod yJx4a65c_init_da8c8, Cond.code yJx4a65c_init_da8c8 cJx4a65c_init_da8c8 1 none, Cond.fieldLink RJx4a65c 39 "java/util/ArrayList" "DEFAULTCAPACITY_EMPTY_ELEMENTDATA" "[Ljava/lang/Object;", Cond.fieldLink RJx4a65c 9 "java/util/ArrayList" "elementData" "[Ljava/lang/Object;", Cond.methodLink RJx4a65c 1 yJxc12de_init_da8c8, Cond.instanceMethod yJxc12de_init_da8c8, Cond.initialized RJxc12de, Cond.code yJxc12de_init_da8c8 cJxc12de_init_da8c8 1 none, Cond.fieldLink RJxc12de 7 "java/util/AbstractList" "modCount" "I", Cond.methodLink RJxc12de 1 yJxa1e45_init_da8c8]
def wsX8_init_r2 : List Cond := [Cond.instanceMethod yJxa1e45_init_da8c8, Cond.initialized RJxa1e45, Cond.code yJxa1e45_init_da8c8 cJxa1e45_init_da8c8 1 none, Cond.methodLink RJxa1e45 1 objectInit]
def wsX8_init : List Cond := .code yX8_init cX8_init 3 none :: ((wsX8_init_r1 ++ wsX8_init_r2) ++ wsX80 ++ wsJx4a65c0)
theorem dX8_init_0 : decode cX8_init 0 = .ok (.aload_n 0, 1) := by decide +kernel
theorem dX8_init_1 : decode cX8_init 1 = .ok (.aload_n 1, 1) := by decide +kernel
theorem dX8_init_2 : decode cX8_init 2 = .ok (.putfield 3, 3) := by decide +kernel
theorem dX8_init_5 : decode cX8_init 5 = .ok (.aload_n 0, 1) := by decide +kernel
theorem dX8_init_6 : decode cX8_init 6 = .ok (.invokespecial 9, 3) := by decide +kernel
theorem dX8_init_9 : decode cX8_init 9 = .ok (.aload_n 0, 1) := by decide +kernel
theorem dX8_init_10 : decode cX8_init 10 = .ok (.iconst 4, 1) := by decide +kernel
theorem dX8_init_11 : decode cX8_init 11 = .ok (.newarray .int, 2) := by decide +kernel
theorem dX8_init_13 : decode cX8_init 13 = .ok (.putfield 15, 3) := by decide +kernel
theorem dX8_init_16 : decode cX8_init 16 = .ok (.aload_n 0, 1) := by decide +kernel
theorem dX8_init_17 : decode cX8_init 17 = .ok (.iconst 1, 1) := by decide +kernel
theorem dX8_init_18 : decode cX8_init 18 = .ok (.anewarray 19, 3) := by decide +kernel
theorem dX8_init_21 : decode cX8_init 21 = .ok (.dup, 1) := by decide +kernel
theorem dX8_init_22 : decode cX8_init 22 = .ok (.iconst 0, 1) := by decide +kernel
theorem dX8_init_23 : decode cX8_init 23 = .ok (.iconst 1, 1) := by decide +kernel
theorem dX8_init_24 : decode cX8_init 24 = .ok (.newarray .int, 2) := by decide +kernel
theorem dX8_init_26 : decode cX8_init 26 = .ok (.dup, 1) := by decide +kernel
theorem dX8_init_27 : decode cX8_init 27 = .ok (.iconst 0, 1) := by decide +kernel
theorem dX8_init_28 : decode cX8_init 28 = .ok (.iconst 1, 1) := by decide +kernel
theorem dX8_init_29 : decode cX8_init 29 = .ok (.iastore, 1) := by decide +kernel
theorem dX8_init_30 : decode cX8_init 30 = .ok (.aastore, 1) := by decide +kernel
theorem dX8_init_31 : decode cX8_init 31 = .ok (.putfield 20, 3) := by decide +kernel
theorem dX8_init_34 : decode cX8_init 34 = .ok (.aload_n 0, 1) := by decide +kernel
theorem dX8_init_35 : decode cX8_init 35 = .ok (.new 24, 3) := by decide +kernel
theorem dX8_init_38 : decode cX8_init 38 = .ok (.dup, 1) := by decide +kernel
set_option maxRecDepth 20000 in
theorem ggX8_init_Jx4a65c_init_da8c8 : GoodIn wsX8_init wsJx4a65c_init_da8c8 := goodIn_r _ [16, 17, 18, 19, 20, 21, 22, 23, 24, 25, 26, 27, 28, 3, 4, 35, 36, 37] (by decide +kernel) (by decide +kernel)
set_option maxRecDepth 20000 in
theorem gX8_init_Jx4a65c_init_da8c8 : GoodIn wsX8_init (wsJx4a65c_init_da8c8) := ggX8_init_Jx4a65c_init_da8c8
theorem dX8_init_39 : decode cX8_init 39 = .ok (.invokespecial 26, 3) := by decide +kernel
theorem dX8_init_42 : decode cX8_init 42 = .ok (.putfield 27, 3) := by decide +kernel
theorem dX8_init_45 : decode cX8_init 45 = .ok (.aload_n 0, 1) := by decide +kernel
theorem dX8_init_46 : decode cX8_init 46 = .ok (.iload_n 2, 1) := by decide +kernel
theorem dX8_init_47 : decode cX8_init 47 = .ok (.putfield 31, 3) := by decide +kernel
theorem dX8_init_50 : decode cX8_init 50 = .ok (.return_, 1) := by decide +kernel
def wsX10_algebra_r1 : List Cond := [Cond.fieldLink RX10 23 "VersorhallModel" "thrown" "I", Cond.fieldLink RX10 16 "VersorhallModel" "algebras" "Ljava/util/List;", Cond.classLink RX10 53 RX8, Cond.instantiable RX8 6, Cond.initialized RX8, Cond.methodLink RX10 36 yX10_in, Cond.static yX10_in, Cond.initialized RX10, Cond.code yX10_in cX10_in 3 (some .boolean), Cond.methodLink RX10 58 yX10_no, Cond.instanceMethod yX10_no, Cond.selects RX10 yX10_no yX10_no, Cond.code yX10_no cX10_no 2 (some .int), Cond.methodLink RX10 30 ⟨"java/util/List", "size", "()I"⟩, Cond.selects RJx4a65c ⟨"java/util/List", "size", "()I"⟩ yJx4a65c_size_8abf5, Cond.instanceMethod yJx4a65c_size_8abf5, Cond.initialized RJx4a65c, Cond.code yJx4a65c_size_8abf5 cJx4a65c_size_8abf5 1 (some .int), Cond.fieldLink RJx4a65c 48 "java/util/ArrayList" "size" "I", Cond.methodLink RX10 61 yX8_init, Cond.instanceMethod yX8_init, Cond.code yX8_init cX8_init 3 none, Cond.fieldLink RX8 3 "VersorhallModel$Algebra" "this$0" "LVersorhallModel;", Cond.methodLink RX8 9 objectInit]
def wsX10_algebra_r2 : List Cond := [Cond.instanceMethod objectInit, Cond.code objectInit ⟨#[0xb1]⟩ 1 none, Cond.arrayClass .int, Cond.fieldLink RX8 15 "VersorhallModel$Algebra" "dials" "[I", Cond.classLink RX8 19 "[I", Cond.fieldLink RX8 20 "VersorhallModel$Algebra" "signs" "[[I", Cond.classLink RX8 24 RJx4a65c, Cond.instantiable RJx4a65c 3, Cond.fieldLink RX8 27 "VersorhallModel$Algebra" "mirrors" "Ljava/util/List;", Cond.fieldLink RX8 31 "VersorhallModel$Algebra" "kind" "I", Cond.methodLink RX8 26 yJx4a65c_init_da8c8, Cond.instanceMethod yJx4a65c_init_da8c8, Cond.code yJx4a65c_init_da8c8 cJx4a65c_init_da8c8 1 none, Cond.fieldLink RJx4a65c 39 "java/util/ArrayList" "DEFAULTCAPACITY_EMPTY_ELEMENTDATA" "[Ljava/lang/Object;", Cond.fieldLink RJx4a65c 9 "java/util/ArrayList" "elementData" "[Ljava/lang/Object;", Cond.methodLink RJx4a65c 1 yJxc12de_init_da8c8, Cond.instanceMethod yJxc12de_init_da8c8, Cond.initialized RJxc12de, Cond.code yJxc12de_init_da8c8 cJxc12de_init_da8c8 1 none, Cond.fieldLink RJxc12de 7 "java/util/AbstractList" "modCount" "I", Cond.methodLink RJxc12de 1 yJxa1e45_init_da8c8, Cond.instanceMethod yJxa1e45_init_da8c8, Cond.initialized RJxa1e45, Cond.code yJxa1e45_init_da8c8 cJxa1e45_init_da8c8 1 none]
def wsX10_algebra_r3 : List Cond := [Cond.methodLink RJxa1e45 1 objectInit, Cond.methodLink RX10 64 ⟨"java/util/List", "add", "(Ljava/lang/Object;)Z"⟩, Cond.selects RJx4a65c ⟨"java/util/List", "add", "(Ljava/lang/Object;)Z"⟩ yJx4a65c_add_9ea2d, Cond.instanceMethod yJx4a65c_add_9ea2d, Cond.code yJx4a65c_add_9ea2d cJx4a65c_add_9ea2d 2 (some .boolean), Cond.fieldLink RJx4a65c 63 "java/util/ArrayList" "modCount" "I", Cond.sameField "java/util/ArrayList" "java/util/AbstractList" "modCount" "I", Cond.methodLink RJx4a65c 131 yJx4a65c_add_72be8, Cond.instanceMethod yJx4a65c_add_72be8, Cond.selects RJx4a65c yJx4a65c_add_72be8 yJx4a65c_add_72be8, Cond.code yJx4a65c_add_72be8 cJx4a65c_add_72be8 4 none, Cond.methodLink RJx4a65c 129 yJx4a65c_grow_d5877, Cond.instanceMethod yJx4a65c_grow_d5877, Cond.selects RJx4a65c yJx4a65c_grow_d5877 yJx4a65c_grow_d5877, Cond.code yJx4a65c_grow_d5877 cJx4a65c_grow_d5877 1 (some (.array (.object "java/lang/Object"))), Cond.methodLink RJx4a65c 69 yJx4a65c_grow_92f84, Cond.instanceMethod yJx4a65c_grow_92f84, Cond.selects RJx4a65c yJx4a65c_grow_92f84 yJx4a65c_grow_92f84, Cond.code yJx4a65c_grow_92f84 cJx4a65c_grow_92f84 4 (some (.array (.object "java/lang/Object"))), Cond.methodLink RJx4a65c 79 Lib.Math.max.name, Cond.static Lib.Math.max.name, Cond.initialized "java/lang/Math", Cond.code Lib.Math.max.name Lib.Math.max.code 2 (some .int), Cond.classLink RJx4a65c 7 "java/lang/Object"]
def wsX10_algebra_r4 : List Cond := [Cond.methodLink RJx4a65c 73 yJ8_newLength_cabcc, Cond.static yJ8_newLength_cabcc, Cond.initialized RJ8, Cond.code yJ8_newLength_cabcc cJ8_newLength_cabcc 4 (some .int), Cond.methodLink RJ8 194 Lib.Math.max.name, Cond.constant RJ8 200 (2147483639), Cond.methodLink RJ8 201 yJ8_hugeLength_7cf53, Cond.static yJ8_hugeLength_7cf53, Cond.code yJ8_hugeLength_7cf53 cJ8_hugeLength_7cf53 3 (some .int), Cond.methodLink RJx4a65c 66 yJ7_copyOf_1904c, Cond.static yJ7_copyOf_1904c, Cond.initialized RJ7, Cond.code yJ7_copyOf_1904c cJ7_copyOf_1904c 2 (some (.array (.object "java/lang/Object"))), Cond.methodLink RJ7 86 ⟨"java/lang/Object", "getClass", "()Ljava/lang/Class;"⟩, Cond.selects "[Ljava/lang/Object;" ⟨"java/lang/Object", "getClass", "()Ljava/lang/Class;"⟩ ⟨"java/lang/Object", "getClass", "()Ljava/lang/Class;"⟩, Cond.instanceMethod ⟨"java/lang/Object", "getClass", "()Ljava/lang/Class;"⟩, Cond.native ⟨"java/lang/Object", "getClass", "()Ljava/lang/Class;"⟩, Cond.methodLink RJ7 300 yJ7_copyOf_6403c, Cond.static yJ7_copyOf_6403c, Cond.code yJ7_copyOf_6403c cJ7_copyOf_6403c 4 (some (.array (.object "java/lang/Object"))), Cond.classLink RJ7 110 "[Ljava/lang/Object;", Cond.classLink RJ7 2 "java/lang/Object", Cond.methodLink RJ7 304 Lib.Math.min.name, Cond.static Lib.Math.min.name]
def wsX10_algebra_r5 : List Cond := [Cond.code Lib.Math.min.name Lib.Math.min.code 2 (some .int), Cond.methodLink RJ7 150 arraycopyName, Cond.native arraycopyName, Cond.static arraycopyName, Cond.initialized "java/lang/System"]
def wsX10_algebra : List Cond := .code yX10_algebra cX10_algebra 2 (some .int) :: ((wsX10_algebra_r1 ++ (wsX10_algebra_r2 ++ (wsX10_algebra_r3 ++ (wsX10_algebra_r4 ++ wsX10_algebra_r5)))) ++ wsX100 ++ wsX80 ++ wsJx4a65c0)
theorem dX10_algebra_0 : decode cX10_algebra 0 = .ok (.aload_n 0, 1) := by decide +kernel
theorem dX10_algebra_1 : decode cX10_algebra 1 = .ok (.iconst 0, 1) := by decide +kernel
theorem dX10_algebra_2 : decode cX10_algebra 2 = .ok (.putfield 23, 3) := by decide +kernel
theorem dX10_algebra_5 : decode cX10_algebra 5 = .ok (.iload_n 1, 1) := by decide +kernel
theorem dX10_algebra_6 : decode cX10_algebra 6 = .ok (.iconst 0, 1) := by decide +kernel
theorem dX10_algebra_7 : decode cX10_algebra 7 = .ok (.iconst 1, 1) := by decide +kernel
set_option maxRecDepth 20000 in
theorem ggX10_algebra_X10_in : GoodIn wsX10_algebra wsX10_in := goodIn_r _ [9] (by decide +kernel) (by decide +kernel)
set_option maxRecDepth 20000 in
theorem gX10_algebra_X10_in : GoodIn wsX10_algebra (va_wsS RX10 36 yX10_in wsX10_in) := goodIn_app (goodIn_of _ (by decide +kernel)) ggX10_algebra_X10_in
theorem dX10_algebra_8 : decode cX10_algebra 8 = .ok (.invokestatic 36, 3) := by decide +kernel
theorem dX10_algebra_11 : decode cX10_algebra 11 = .ok (.ifCond .ne 9, 3) := by decide +kernel
theorem dX10_algebra_20 : decode cX10_algebra 20 = .ok (.aload_n 0, 1) := by decide +kernel
theorem dX10_algebra_21 : decode cX10_algebra 21 = .ok (.getfield 16, 3) := by decide +kernel
set_option maxRecDepth 20000 in
theorem ggX10_algebra_Jx4a65c_size_8abf5 : GoodIn wsX10_algebra wsJx4a65c_size_8abf5 := goodIn_r _ [18, 19, 113, 114, 115] (by decide +kernel) (by decide +kernel)
set_option maxRecDepth 20000 in
theorem gX10_algebra_Jx4a65c_size_8abf5_f30Jx4a65c : GoodIn wsX10_algebra (va_wsF RX10 30 RJx4a65c ⟨"java/util/List", "size", "()I"⟩ yJx4a65c_size_8abf5 wsJx4a65c_size_8abf5) := goodIn_app (goodIn_of _ (by decide +kernel)) ggX10_algebra_Jx4a65c_size_8abf5
theorem dX10_algebra_24 : decode cX10_algebra 24 = .ok (.invokeinterface 30 1, 5) := by decide +kernel
theorem dX10_algebra_29 : decode cX10_algebra 29 = .ok (.iconst 4, 1) := by decide +kernel
theorem dX10_algebra_30 : decode cX10_algebra 30 = .ok (.if_icmp .ne 9, 3) := by decide +kernel
theorem dX10_algebra_39 : decode cX10_algebra 39 = .ok (.aload_n 0, 1) := by decide +kernel
theorem dX10_algebra_40 : decode cX10_algebra 40 = .ok (.getfield 16, 3) := by decide +kernel
theorem dX10_algebra_43 : decode cX10_algebra 43 = .ok (.new 53, 3) := by decide +kernel
theorem dX10_algebra_46 : decode cX10_algebra 46 = .ok (.dup, 1) := by decide +kernel
theorem dX10_algebra_47 : decode cX10_algebra 47 = .ok (.aload_n 0, 1) := by decide +kernel
theorem dX10_algebra_48 : decode cX10_algebra 48 = .ok (.iload_n 1, 1) := by decide +kernel
set_option maxRecDepth 20000 in
theorem ggX10_algebra_X8_init : GoodIn wsX10_algebra wsX8_init := goodIn_r _ [22, 23, 24, 25, 26, 27, 28, 29, 30, 31, 32, 17, 33, 34, 35, 36, 37, 38, 39, 40, 41, 42, 43, 44, 45, 46, 47, 48, 49, 107, 108, 109, 110, 111, 112, 113, 114, 115] (by decide +kernel) (by decide +kernel)
set_option maxRecDepth 20000 in
theorem gX10_algebra_X8_init : GoodIn wsX10_algebra (wsX8_init) := ggX10_algebra_X8_init
theorem dX10_algebra_49 : decode cX10_algebra 49 = .ok (.invokespecial 61, 3) := by decide +kernel
set_option maxRecDepth 20000 in
theorem ggX10_algebra_Jx4a65c_add_9ea2d : GoodIn wsX10_algebra wsJx4a65c_add_9ea2d := goodIn_r _ [53, 54, 55, 39, 19, 56, 57, 58, 17, 59, 60, 61, 62, 63, 64, 65, 66, 67, 38, 68, 69, 70, 71, 72, 73, 74, 75, 76, 77, 78, 79, 80, 81, 82, 83, 84, 85, 86, 87, 88, 89, 90, 91, 92, 93, 94, 95, 96, 97, 98, 99, 100, 101, 113, 114, 115] (by decide +kernel) (by decide +kernel)
set_option maxRecDepth 20000 in
theorem gX10_algebra_Jx4a65c_add_9ea2d_f64Jx4a65c : GoodIn wsX10_algebra (va_wsF RX10 64 RJx4a65c ⟨"java/util/List", "add", "(Ljava/lang/Object;)Z"⟩ yJx4a65c_add_9ea2d wsJx4a65c_add_9ea2d) := goodIn_app (goodIn_of _ (by decide +kernel)) ggX10_algebra_Jx4a65c_add_9ea2d
theorem dX10_algebra_52 : decode cX10_algebra 52 = .ok (.invokeinterface 64 2, 5) := by decide +kernel
theorem dX10_algebra_57 : decode cX10_algebra 57 = .ok (.pop, 1) := by decide +kernel
theorem dX10_algebra_58 : decode cX10_algebra 58 = .ok (.aload_n 0, 1) := by decide +kernel
theorem dX10_algebra_59 : decode cX10_algebra 59 = .ok (.getfield 16, 3) := by decide +kernel
theorem dX10_algebra_62 : decode cX10_algebra 62 = .ok (.invokeinterface 30 1, 5) := by decide +kernel
theorem dX10_algebra_67 : decode cX10_algebra 67 = .ok (.iconst 1, 1) := by decide +kernel
theorem dX10_algebra_68 : decode cX10_algebra 68 = .ok (.isub, 1) := by decide +kernel
theorem dX10_algebra_69 : decode cX10_algebra 69 = .ok (.ireturn, 1) := by decide +kernel
set_option maxHeartbeats 4000000 in
set_option maxRecDepth 100000 in
/-- c_List_growI -/
theorem c_List_growI (l : Launch) (dC : Nat → ClassId) (dI : Nat → Nat → Nat) (dE : Nat) (h0 : Nat) (mc : Int32) (sz : Nat) : Met l yJx4a65c_grow_92f84 wsJx4a65c_grow_92f84 ({ frames := 1, cells := 1, slots := 10, locals := 40 }) (va_Pc [.ref h0, .int 1] (PB dC dI dE [] [(h0, .inr (2, [.int mc, .ref dE, .int 0]))] sz)) (va_Qq (fun (r : Option Nat) (u : Nat) => r = some u) (fun (u : Nat) (t : State) => ∃ e1 : ClassId, PE dC dI [(e1, .object "java/lang/Object")] [(h0, .inr (2, [.int mc, .ref u, .int 0])), (u, .inl (e1, 10, .inr (.inr (.inr (.inr (fun _ => none))))))] (va_A [(h0, .inr (2, [.int mc, .ref dE, .int 0]))] sz) t) (va_A [(h0, .inr (2, [.int mc, .ref dE, .int 0]))] sz)) 1 10 (va_A [(h0, .inr (2, [.int mc, .ref dE, .int 0]))] sz) := by
  refine Met.ofW (cc := cJx4a65c_grow_92f84) (maxL := 4) (ret := (some (.array (.object "java/lang/Object")))) (by decide) rfl ?_
  intro p e s m args below meth c s₁ B hml hv
  obtain ⟨rfl, hsz, hP, hK, hD0, hTb, hZ⟩ := hv
  have hx := B.exec
  have hb := B.bytes
  have hr := B.returns
  have hts := atoms_spec (ws := wsJx4a65c_grow_92f84) B.pre
  have hown : s.vm.findClass RJx4a65c = some m.cls := findClass_of_methodNamed B.named
  have hlocks := B.notSynchronized
  subst hsz
  have hD := hD0.self (sz := s.heap.size)
  generalize hAe : va_A [(h0, .inr (2, [.int mc, .ref dE, .int 0]))] s.heap.size = A at hD hZ ⊢
  have hA : ∀ q : Nat, s.heap.size ≤ q → A q := fun q h => by rw [← hAe]; exact Or.inr h
  have hS : va_S A s.heap s.heap [] := va_S.rf
  have hP : va_P (dC, dI) vwCl [(h0, .inr (2, [.int mc, .ref dE, .int 0]))] s.heap := hP
  have hl := lv_entry ([.ref h0, .int 1]) (n := 4) (Nat.le_of_ble_eq_true rfl)
  rw [lg_entry_eq]
  generalize (lg_sl ([.ref h0, .int 1]) ++ List.replicate (4 - (lg_sl ([.ref h0, .int 1])).length) Slot.unset).toArray = ls at hl ⊢
  have hl : lv_has ls 4 [(0, .ref h0), (1, .int 1)] := hl
  obtain ⟨H, eH⟩ : ∃ z, z = s.heap := ⟨_, rfl⟩
  rw [← eH] at hP ⊢
  have hS : va_S A s.heap H [] := by rw [eH]; exact va_S.rf
  refine lv_aload_n hx hb dJx4a65c_grow_92f84_0 rfl (lv_at hl 0 rfl) ?_
  refine va_get (D := (dC, dI)) (ci := 2) (v := .ref dE) (C := RJx4a65c) (T := TJx4a65c) (N := 3) hx hb hts (by decide +kernel) hown hK hP 0 rfl rfl 1 (by decide) (hts (.fieldLink RJx4a65c 9 "java/util/ArrayList" "elementData" "[Ljava/lang/Object;") (by decide +kernel)) (fun _ h9 => h9) rfl dJx4a65c_grow_92f84_1 ?_
  refine va_tlen hx hb hZ.2.2.2 hS (v := 0) (by decide) dJx4a65c_grow_92f84_4 ?_
  refine lv_istore_n (lv' := [(2, .int 0), (0, .ref h0), (1, .int 1)]) hx hb dJx4a65c_grow_92f84_5 rfl hl (by decide) rfl (fun ls hl => ?_)
  refine lv_iload_n hx hb dJx4a65c_grow_92f84_6 rfl (lv_at hl 0 rfl) ?_
  refine lv_if_gt (tgt := 20) hx hb dJx4a65c_grow_92f84_7 (by decide) (fun c9 => absurd c9 (by decide)) (fun _ => ?_)
  refine lv_aload_n hx hb dJx4a65c_grow_92f84_10 rfl (lv_at hl 1 rfl) ?_
  refine va_get (D := (dC, dI)) (ci := 2) (v := .ref dE) (C := RJx4a65c) (T := TJx4a65c) (N := 3) hx hb hts (by decide +kernel) hown hK hP 0 rfl rfl 1 (by decide) (hts (.fieldLink RJx4a65c 9 "java/util/ArrayList" "elementData" "[Ljava/lang/Object;") (by decide +kernel)) (fun _ h9 => h9) rfl dJx4a65c_grow_92f84_11 ?_
  refine va_gets hx hb hZ.2.2.1 hS hown (hts (.fieldLink RJx4a65c 39 "java/util/ArrayList" "DEFAULTCAPACITY_EMPTY_ELEMENTDATA" "[Ljava/lang/Object;") (by decide +kernel)) (fun _ h9 => h9) dJx4a65c_grow_92f84_14 ?_
  refine lv_acmp_eq (rx := some dE) (ry := some dE) (tgt := 45) hx hb dJx4a65c_grow_92f84_17 (by decide) (fun _ => ?_) (fun c9 => absurd rfl c9)
  refine lv_aload_n hx hb dJx4a65c_grow_92f84_45 rfl (lv_at hl 1 rfl) ?_
  refine lv_bipush (v := 10) hx hb dJx4a65c_grow_92f84_46 (by decide) ?_
  refine lv_iload_n hx hb dJx4a65c_grow_92f84_48 rfl (lv_at hl 2 rfl) ?_
  refine va_mmax hx hb (by rw [hml]; exact hl.1.symm) hown (hts (.methodLink RJx4a65c 79 Lib.Math.max.name) (by decide +kernel)) (hts (.static Lib.Math.max.name) (by decide +kernel)) (hts (.initialized "java/lang/Math") (by decide +kernel)) (hts (.code Lib.Math.max.name Lib.Math.max.code 2 (some .int)) (by decide +kernel)) (Nat.le_of_ble_eq_true rfl) (Nat.le_of_ble_eq_true rfl) (Nat.le_of_ble_eq_true rfl) (Nat.le_of_ble_eq_true rfl) dJx4a65c_grow_92f84_49 ?_
  refine lv_topi (fun f1 ef1 => ?_)
  obtain rfl : f1 = 10 := ef1.trans (by decide)
  refine va_newq (C := "java/lang/Object") (n := 10) (N' := 10) hx hb hown (hts (.classLink RJx4a65c 7 "java/lang/Object") (by decide +kernel)) (Tb_a4 hTb) hK hP hD hS hA (by decide) (by decide) (Nat.le_of_ble_eq_true rfl) (Nat.le_of_ble_eq_true rfl) (Nat.le_of_ble_eq_true rfl) dJx4a65c_grow_92f84_52 (fun q2 cAq2 H hK hP hD hS => ?_)
  have hP : va_P (dC, dI) vwCl [(h0, .inr (2, [.int mc, .ref dE, .int 0])), (q2, .inl (cAq2, 10, .inr (.inr (.inr (.inr (fun _ => none))))))] H := hP
  have hD : va_D A [(h0, .inr (2, [.int mc, .ref dE, .int 0])), (q2, .inl (cAq2, 10, .inr (.inr (.inr (.inr (fun _ => none))))))] := hD
  have hK : va_K (dC, dI) vwCl [(cAq2, .object "java/lang/Object")] s := hK
  refine W.widen (k := 1) (n := 10) (by omega) (by omega) ?_
  refine lv_dup_x1 hx hb dJx4a65c_grow_92f84_55 rfl rfl ?_
  refine va_put (D := (dC, dI)) (ci := 2) (v := .ref q2) (ty := .array (.object "java/lang/Object")) (C := RJx4a65c) (T := TJx4a65c) (N := 3) hx hb hts (by decide +kernel) tyJx4a65c tyJx4a65c_ok nmJx4a65c hown hK hP hD hS 0 rfl rfl 1 (by decide) (hts (.fieldLink RJx4a65c 9 "java/util/ArrayList" "elementData" "[Ljava/lang/Object;") (by decide +kernel)) (fun _ h9 => h9) rfl (by decide +kernel) rfl rfl (Nat.le_of_ble_eq_true rfl) dJx4a65c_grow_92f84_56 (fun H locs hP hD hS => ?_)
  have hP : va_P (dC, dI) vwCl [(h0, .inr (2, [.int mc, .ref q2, .int 0])), (q2, .inl (cAq2, 10, .inr (.inr (.inr (.inr (fun _ => none))))))] H := hP
  have hD : va_D A [(h0, .inr (2, [.int mc, .ref q2, .int 0])), (q2, .inl (cAq2, 10, .inr (.inr (.inr (.inr (fun _ => none))))))] := hD
  have hP9 := hP.sub (ws' := [(h0, .inr (2, [.int mc, .ref q2, .int 0])), (q2, .inl (cAq2, 10, .inr (.inr (.inr (.inr (fun _ => none))))))]) [0, 1] rfl
  have hD9 := hD.sub (ws' := [(h0, .inr (2, [.int mc, .ref q2, .int 0])), (q2, .inl (cAq2, 10, .inr (.inr (.inr (.inr (fun _ => none))))))]) [0, 1] (by decide) rfl
  have hK9 := hK.sub (tys' := [(cAq2, .object "java/lang/Object")]) [0] rfl
  refine W.widen (k := 1) (n := 10) (Nat.le_of_ble_eq_true rfl) (Nat.le_of_ble_eq_true rfl) ?_
  exact W.aret (v := .ref q2) hx hb hr (Or.inr ⟨_, rfl⟩) (Or.inr ⟨_, rfl⟩) (fun t ht hW => ⟨⟨some q2, q2, rfl, rfl, ⟨cAq2, PE.mk hP9 hK9 hD9 ht hW⟩⟩, hS.F ht⟩) hS.2.2 dJx4a65c_grow_92f84_59

set_option maxHeartbeats 4000000 in
set_option maxRecDepth 100000 in
/-- c_List_grow -/
theorem c_List_grow (l : Launch) (dC : Nat → ClassId) (dI : Nat → Nat → Nat) (dE : Nat) (h0 : Nat) (mc : Int32) (sz : Nat) : Met l yJx4a65c_grow_d5877 wsJx4a65c_grow_d5877 ({ frames := 2, cells := 1, slots := 10, locals := 63 }) (va_Pc [.ref h0] (PB dC dI dE [] [(h0, .inr (2, [.int mc, .ref dE, .int 0]))] sz)) (va_Qq (fun (r : Option Nat) (u : Nat) => r = some u) (fun (u : Nat) (t : State) => ∃ e1 : ClassId, PE dC dI [(e1, .object "java/lang/Object")] [(h0, .inr (2, [.int mc, .ref u, .int 0])), (u, .inl (e1, 10, .inr (.inr (.inr (.inr (fun _ => none))))))] (va_A [(h0, .inr (2, [.int mc, .ref dE, .int 0]))] sz) t) (va_A [(h0, .inr (2, [.int mc, .ref dE, .int 0]))] sz)) 1 10 (va_A [(h0, .inr (2, [.int mc, .ref dE, .int 0]))] sz) := by
  refine Met.ofW (cc := cJx4a65c_grow_d5877) (maxL := 1) (ret := (some (.array (.object "java/lang/Object")))) (by decide) rfl ?_
  intro p e s m args below meth c s₁ B hml hv
  obtain ⟨rfl, hsz, hP, hK, hD0, hTb, hZ⟩ := hv
  have hx := B.exec
  have hb := B.bytes
  have hr := B.returns
  have hts := atoms_spec (ws := wsJx4a65c_grow_d5877) B.pre
  have hown : s.vm.findClass RJx4a65c = some m.cls := findClass_of_methodNamed B.named
  have hlocks := B.notSynchronized
  subst hsz
  have hD := hD0.self (sz := s.heap.size)
  generalize hAe : va_A [(h0, .inr (2, [.int mc, .ref dE, .int 0]))] s.heap.size = A at hD hZ ⊢
  have hA : ∀ q : Nat, s.heap.size ≤ q → A q := fun q h => by rw [← hAe]; exact Or.inr h
  have hS : va_S A s.heap s.heap [] := va_S.rf
  have hP : va_P (dC, dI) vwCl [(h0, .inr (2, [.int mc, .ref dE, .int 0]))] s.heap := hP
  have hl := lv_entry ([.ref h0]) (n := 1) (Nat.le_of_ble_eq_true rfl)
  rw [lg_entry_eq]
  generalize (lg_sl ([.ref h0]) ++ List.replicate (1 - (lg_sl ([.ref h0])).length) Slot.unset).toArray = ls at hl ⊢
  have hl : lv_has ls 1 [(0, .ref h0)] := hl
  obtain ⟨H, eH⟩ : ∃ z, z = s.heap := ⟨_, rfl⟩
  rw [← eH] at hP ⊢
  have hS : va_S A s.heap H [] := by rw [eH]; exact va_S.rf
  refine lv_aload_n hx hb dJx4a65c_grow_d5877_0 rfl (lv_at hl 0 rfl) ?_
  refine lv_aload_n hx hb dJx4a65c_grow_d5877_1 rfl (lv_at hl 0 rfl) ?_
  refine va_get (D := (dC, dI)) (ci := 2) (v := .int 0) (C := RJx4a65c) (T := TJx4a65c) (N := 3) hx hb hts (by decide +kernel) hown hK hP 0 rfl rfl 2 (by decide) (hts (.fieldLink RJx4a65c 48 "java/util/ArrayList" "size" "I") (by decide +kernel)) (fun _ h9 => h9) rfl dJx4a65c_grow_d5877_2 ?_
  refine lv_iconst (v := 1) hx hb dJx4a65c_grow_d5877_5 (by decide) ?_
  refine lv_iadd hx hb dJx4a65c_grow_d5877_6 ?_
  refine lv_topi (fun f1 ef1 => ?_)
  obtain rfl : f1 = 1 := ef1.trans (by decide)
  have hPc := hP.sub (ws' := [(h0, .inr (2, [.int mc, .ref dE, .int 0]))]) [0] rfl
  have hDc := hD.sub (ws' := [(h0, .inr (2, [.int mc, .ref dE, .int 0]))]) [0] (by decide) rfl
  have hKc := hK.sub (tys' := []) [] rfl
  have hFc := va_free (wc := [(h0, .inr (2, [.int mc, .ref dE, .int 0]))]) hD hS hA [0] rfl
  refine va_callq (va_runV (As := [.int 1]) (rest := []) ⟨hx, hb, hml, hown, hts⟩ (c_List_growI l dC dI dE h0 mc H.size) (cwV 1 hts gJx4a65c_grow_d5877_Jx4a65c_grow_92f84 rfl rfl rfl (by decide +kernel) ⟨Nat.le_of_ble_eq_true rfl, Nat.le_of_ble_eq_true rfl⟩) ⟨fun a U g mk q => ⟨q.1, PB.blind q.2⟩, va_recv hKc hPc (ci := 2) (q0 := 0) rfl rfl, fun U hU hW => ⟨rfl, PB.call hPc hKc hDc hTb hZ hS hFc hU hW⟩⟩ rfl rfl hl.1 rfl (lv_room (Nat.le_of_ble_eq_true rfl)) dJx4a65c_grow_d5877_7 ⟨Nat.le_of_ble_eq_true rfl, Nat.le_of_ble_eq_true rfl⟩) hS (fun q _ h => hFc q h) hFc (fun r q2 t H locs ht hvm hw hB hz1 hk1 hS => ?_)
  obtain ⟨cA3, hB⟩ := hB
  obtain ⟨hP, hD, hK⟩ := PE.join (wc := [(h0, .inr (2, [.int mc, .ref dE, .int 0]))]) (wr := []) (w1 := [(h0, .inr (2, [.int mc, .ref q2, .int 0])), (q2, .inl (cA3, 10, .inr (.inr (.inr (.inr (fun _ => none))))))]) (tr := []) (t1 := [(cA3, .object "java/lang/Object")]) hP hD hK [0] [] [] rfl rfl rfl (by decide) (by decide) hk1 hFc ht hvm hB
  have hP : va_P (dC, dI) vwCl [(h0, .inr (2, [.int mc, .ref q2, .int 0])), (q2, .inl (cA3, 10, .inr (.inr (.inr (.inr (fun _ => none))))))] H := hP
  have hD : va_D A [(h0, .inr (2, [.int mc, .ref q2, .int 0])), (q2, .inl (cA3, 10, .inr (.inr (.inr (.inr (fun _ => none))))))] := hD
  have hK : va_K (dC, dI) vwCl [(cA3, .object "java/lang/Object")] s := hK
  subst hw
  refine W.eq (g2 := F0 m 10 ls [.ref q2]) rfl ?_
  refine W.widen (k := 1) (n := 10) (by omega) (by omega) ?_
  have hP9 := hP.sub (ws' := [(h0, .inr (2, [.int mc, .ref q2, .int 0])), (q2, .inl (cA3, 10, .inr (.inr (.inr (.inr (fun _ => none))))))]) [0, 1] rfl
  have hD9 := hD.sub (ws' := [(h0, .inr (2, [.int mc, .ref q2, .int 0])), (q2, .inl (cA3, 10, .inr (.inr (.inr (.inr (fun _ => none))))))]) [0, 1] (by decide) rfl
  have hK9 := hK.sub (tys' := [(cA3, .object "java/lang/Object")]) [0] rfl
  refine W.widen (k := 1) (n := 10) (Nat.le_of_ble_eq_true rfl) (Nat.le_of_ble_eq_true rfl) ?_
  exact W.aret (v := .ref q2) hx hb hr (Or.inr ⟨_, rfl⟩) (Or.inr ⟨_, rfl⟩) (fun t ht hW => ⟨⟨some q2, q2, rfl, rfl, ⟨cA3, PE.mk hP9 hK9 hD9 ht hW⟩⟩, hS.F ht⟩) hS.2.2 dJx4a65c_grow_d5877_10

set_option maxHeartbeats 4000000 in
set_option maxRecDepth 100000 in
/-- c_List_addAt -/
theorem c_List_addAt (l : Launch) (dC : Nat → ClassId) (dI : Nat → Nat → Nat) (dE : Nat) (h0 : Nat) (mc : Int32) (v0 : Nat) (kd : Int32) (di : Nat) (si : Nat) (mi : Nat) (th : Nat) (sz : Nat) : Met l yJx4a65c_add_72be8 wsJx4a65c_add_72be8 ({ frames := 3, cells := 1, slots := 10, locals := 83 }) (va_Pc [.ref h0, .ref v0, .ref dE, .int 0] (PB dC dI dE [] [(h0, .inr (2, [.int mc, .ref dE, .int 0])), (v0, .inr (11, [.int kd, .ref di, .ref si, .int 0, .ref mi, .ref th]))] sz)) (va_Qv (fun (_ : Unit) => True) (fun (_ : Unit) (t : State) => ∃ e0 : Nat, PE dC dI [] [(h0, .inr (2, [.int mc, .ref e0, .int 1]))] (va_A [(h0, .inr (2, [.int mc, .ref dE, .int 0])), (v0, .inr (11, [.int kd, .ref di, .ref si, .int 0, .ref mi, .ref th]))] sz) t) (va_A [(h0, .inr (2, [.int mc, .ref dE, .int 0])), (v0, .inr (11, [.int kd, .ref di, .ref si, .int 0, .ref mi, .ref th]))] sz)) 1 10 (va_A [(h0, .inr (2, [.int mc, .ref dE, .int 0])), (v0, .inr (11, [.int kd, .ref di, .ref si, .int 0, .ref mi, .ref th]))] sz) := by
  refine Met.ofW (cc := cJx4a65c_add_72be8) (maxL := 4) (ret := none) (by decide) rfl ?_
  intro p e s m args below meth c s₁ B hml hv
  obtain ⟨rfl, hsz, hP, hK, hD0, hTb, hZ⟩ := hv
  have hx := B.exec
  have hb := B.bytes
  have hr := B.returns
  have hts := atoms_spec (ws := wsJx4a65c_add_72be8) B.pre
  have hown : s.vm.findClass RJx4a65c = some m.cls := findClass_of_methodNamed B.named
  have hlocks := B.notSynchronized
  subst hsz
  have hD := hD0.self (sz := s.heap.size)
  generalize hAe : va_A [(h0, .inr (2, [.int mc, .ref dE, .int 0])), (v0, .inr (11, [.int kd, .ref di, .ref si, .int 0, .ref mi, .ref th]))] s.heap.size = A at hD hZ ⊢
  have hA : ∀ q : Nat, s.heap.size ≤ q → A q := fun q h => by rw [← hAe]; exact Or.inr h
  have hS : va_S A s.heap s.heap [] := va_S.rf
  have hP : va_P (dC, dI) vwCl [(h0, .inr (2, [.int mc, .ref dE, .int 0])), (v0, .inr (11, [.int kd, .ref di, .ref si, .int 0, .ref mi, .ref th]))] s.heap := hP
  have hl := lv_entry ([.ref h0, .ref v0, .ref dE, .int 0]) (n := 4) (Nat.le_of_ble_eq_true rfl)
  rw [lg_entry_eq]
  generalize (lg_sl ([.ref h0, .ref v0, .ref dE, .int 0]) ++ List.replicate (4 - (lg_sl ([.ref h0, .ref v0, .ref dE, .int 0])).length) Slot.unset).toArray = ls at hl ⊢
  have hl : lv_has ls 4 [(0, .ref h0), (1, .ref v0), (2, .ref dE), (3, .int 0)] := hl
  obtain ⟨H, eH⟩ : ∃ z, z = s.heap := ⟨_, rfl⟩
  rw [← eH] at hP ⊢
  have hS : va_S A s.heap H [] := by rw [eH]; exact va_S.rf
  refine lv_iload_n hx hb dJx4a65c_add_72be8_0 rfl (lv_at hl 3 rfl) ?_
  refine lv_aload_n hx hb dJx4a65c_add_72be8_1 rfl (lv_at hl 2 rfl) ?_
  refine va_tlen hx hb hZ.2.2.2 hS (v := 0) (by decide) dJx4a65c_add_72be8_2 ?_
  refine lv_icmp_ne (tgt := 11) hx hb dJx4a65c_add_72be8_3 (by decide) (fun c9 => absurd (by decide) c9) (fun _ => ?_)
  refine lv_aload_n hx hb dJx4a65c_add_72be8_6 rfl (lv_at hl 0 rfl) ?_
  have hPc := hP.sub (ws' := [(h0, .inr (2, [.int mc, .ref dE, .int 0]))]) [0] rfl
  have hDc := hD.sub (ws' := [(h0, .inr (2, [.int mc, .ref dE, .int 0]))]) [0] (by decide) rfl
  have hKc := hK.sub (tys' := []) [] rfl
  have hFc := va_free (wc := [(h0, .inr (2, [.int mc, .ref dE, .int 0]))]) hD hS hA [0] rfl
  refine va_callq (va_runV (As := []) (rest := []) ⟨hx, hb, hml, hown, hts⟩ (c_List_grow l dC dI dE h0 mc H.size) (cwV 0 hts gJx4a65c_add_72be8_Jx4a65c_grow_d5877 rfl rfl rfl (by decide +kernel) ⟨Nat.le_of_ble_eq_true rfl, Nat.le_of_ble_eq_true rfl⟩) ⟨fun a U g mk q => ⟨q.1, PB.blind q.2⟩, va_recv hKc hPc (ci := 2) (q0 := 0) rfl rfl, fun U hU hW => ⟨rfl, PB.call hPc hKc hDc hTb hZ hS hFc hU hW⟩⟩ rfl rfl hl.1 rfl (lv_room (Nat.le_of_ble_eq_true rfl)) dJx4a65c_add_72be8_7 ⟨Nat.le_of_ble_eq_true rfl, Nat.le_of_ble_eq_true rfl⟩) hS (fun q _ h => hFc q h) hFc (fun r q1 t H locs ht hvm hw hB hz1 hk1 hS => ?_)
  obtain ⟨cA2, hB⟩ := hB
  obtain ⟨hP, hD, hK⟩ := PE.join (wc := [(h0, .inr (2, [.int mc, .ref dE, .int 0]))]) (wr := [(v0, .inr (11, [.int kd, .ref di, .ref si, .int 0, .ref mi, .ref th]))]) (w1 := [(h0, .inr (2, [.int mc, .ref q1, .int 0])), (q1, .inl (cA2, 10, .inr (.inr (.inr (.inr (fun _ => none))))))]) (tr := []) (t1 := [(cA2, .object "java/lang/Object")]) hP hD hK [0] [1] [] rfl rfl rfl (by decide) (by decide) hk1 hFc ht hvm hB
  have hP : va_P (dC, dI) vwCl [(v0, .inr (11, [.int kd, .ref di, .ref si, .int 0, .ref mi, .ref th])), (h0, .inr (2, [.int mc, .ref q1, .int 0])), (q1, .inl (cA2, 10, .inr (.inr (.inr (.inr (fun _ => none))))))] H := hP
  have hD : va_D A [(v0, .inr (11, [.int kd, .ref di, .ref si, .int 0, .ref mi, .ref th])), (h0, .inr (2, [.int mc, .ref q1, .int 0])), (q1, .inl (cA2, 10, .inr (.inr (.inr (.inr (fun _ => none))))))] := hD
  have hK : va_K (dC, dI) vwCl [(cA2, .object "java/lang/Object")] s := hK
  subst hw
  refine W.eq (g2 := F0 m 10 ls [.ref q1]) rfl ?_
  refine W.widen (k := 1) (n := 10) (by omega) (by omega) ?_
  refine lv_astore_n (lv' := [(2, .ref q1), (0, .ref h0), (1, .ref v0), (3, .int 0)]) hx hb dJx4a65c_add_72be8_10 rfl hl (by decide) rfl (fun ls hl => ?_)
  refine lv_aload_n hx hb dJx4a65c_add_72be8_11 rfl (lv_at hl 0 rfl) ?_
  refine lv_iload_n hx hb dJx4a65c_add_72be8_12 rfl (lv_at hl 3 rfl) ?_
  refine lv_aload_n hx hb dJx4a65c_add_72be8_13 rfl (lv_at hl 2 rfl) ?_
  refine va_astqO (r := (RX8, TX8, 6)) (E := "java/lang/Object") hx hb hK hP hD hS 2 0 0 11 rfl rfl (Tb_c3 hTb) rfl rfl (by unfold vp_in; decide) dJx4a65c_add_72be8_14 (fun H locs hP hD hS => ?_)
  generalize va_up (fun _ => none) (Int32.toNatClampNeg 0) (some v0) = g3 at hP hD
  have hP : va_P (dC, dI) vwCl [(v0, .inr (11, [.int kd, .ref di, .ref si, .int 0, .ref mi, .ref th])), (h0, .inr (2, [.int mc, .ref q1, .int 0])), (q1, .inl (cA2, 10, .inr (.inr (.inr (.inr g3)))))] H := hP
  have hD : va_D A [(v0, .inr (11, [.int kd, .ref di, .ref si, .int 0, .ref mi, .ref th])), (h0, .inr (2, [.int mc, .ref q1, .int 0])), (q1, .inl (cA2, 10, .inr (.inr (.inr (.inr g3)))))] := hD
  refine lv_aload_n hx hb dJx4a65c_add_72be8_15 rfl (lv_at hl 1 rfl) ?_
  refine lv_iload_n hx hb dJx4a65c_add_72be8_16 rfl (lv_at hl 3 rfl) ?_
  refine lv_iconst (v := 1) hx hb dJx4a65c_add_72be8_17 (by decide) ?_
  refine lv_iadd hx hb dJx4a65c_add_72be8_18 ?_
  refine lv_topi (fun f4 ef4 => ?_)
  obtain rfl : f4 = 1 := ef4.trans (by decide)
  refine va_put (D := (dC, dI)) (ci := 2) (v := .int 1) (ty := .int) (C := RJx4a65c) (T := TJx4a65c) (N := 3) hx hb hts (by decide +kernel) tyJx4a65c tyJx4a65c_ok nmJx4a65c hown hK hP hD hS 1 rfl rfl 2 (by decide) (hts (.fieldLink RJx4a65c 48 "java/util/ArrayList" "size" "I") (by decide +kernel)) (fun _ h9 => h9) rfl (by decide +kernel) rfl rfl (Nat.le_of_ble_eq_true rfl) dJx4a65c_add_72be8_19 (fun H locs hP hD hS => ?_)
  have hP : va_P (dC, dI) vwCl [(v0, .inr (11, [.int kd, .ref di, .ref si, .int 0, .ref mi, .ref th])), (h0, .inr (2, [.int mc, .ref q1, .int 1])), (q1, .inl (cA2, 10, .inr (.inr (.inr (.inr g3)))))] H := hP
  have hD : va_D A [(v0, .inr (11, [.int kd, .ref di, .ref si, .int 0, .ref mi, .ref th])), (h0, .inr (2, [.int mc, .ref q1, .int 1])), (q1, .inl (cA2, 10, .inr (.inr (.inr (.inr g3)))))] := hD
  have hP9 := hP.sub (ws' := [(h0, .inr (2, [.int mc, .ref q1, .int 1]))]) [1] rfl
  have hD9 := hD.sub (ws' := [(h0, .inr (2, [.int mc, .ref q1, .int 1]))]) [1] (by decide) rfl
  have hK9 := hK.sub (tys' := []) [] rfl
  refine W.widen (k := 1) (n := 10) (Nat.le_of_ble_eq_true rfl) (Nat.le_of_ble_eq_true rfl) ?_
  exact W.vret hx hb hr (fun t ht hW => ⟨⟨(), rfl, trivial, ⟨q1, PE.mk hP9 hK9 hD9 ht hW⟩⟩, hS.F ht⟩) hS.2.2 dJx4a65c_add_72be8_22

set_option maxHeartbeats 4000000 in
set_option maxRecDepth 100000 in
/-- c_List_add -/
theorem c_List_add (l : Launch) (dC : Nat → ClassId) (dI : Nat → Nat → Nat) (dE : Nat) (h0 : Nat) (v0 : Nat) (kd : Int32) (di : Nat) (si : Nat) (mi : Nat) (th : Nat) (sz : Nat) : Met l yJx4a65c_add_9ea2d wsJx4a65c_add_9ea2d ({ frames := 4, cells := 1, slots := 10, locals := 106 }) (va_Pc [.ref h0, .ref v0] (PB dC dI dE [] [(h0, .inr (2, [.int 0, .ref dE, .int 0])), (v0, .inr (11, [.int kd, .ref di, .ref si, .int 0, .ref mi, .ref th]))] sz)) (va_Qi (fun (r : Int32) (_ : Unit) => r = 1) (fun (_ : Unit) (t : State) => ∃ e0 : Nat, PE dC dI [] [(h0, .inr (2, [.int 1, .ref e0, .int 1]))] (va_A [(h0, .inr (2, [.int 0, .ref dE, .int 0])), (v0, .inr (11, [.int kd, .ref di, .ref si, .int 0, .ref mi, .ref th]))] sz) t) (va_A [(h0, .inr (2, [.int 0, .ref dE, .int 0])), (v0, .inr (11, [.int kd, .ref di, .ref si, .int 0, .ref mi, .ref th]))] sz)) 1 10 (va_A [(h0, .inr (2, [.int 0, .ref dE, .int 0])), (v0, .inr (11, [.int kd, .ref di, .ref si, .int 0, .ref mi, .ref th]))] sz) := by
  refine Met.ofW (cc := cJx4a65c_add_9ea2d) (maxL := 2) (ret := (some .boolean)) (by decide) rfl ?_
  intro p e s m args below meth c s₁ B hml hv
  obtain ⟨rfl, hsz, hP, hK, hD0, hTb, hZ⟩ := hv
  have hx := B.exec
  have hb := B.bytes
  have hr := B.returns
  have hts := atoms_spec (ws := wsJx4a65c_add_9ea2d) B.pre
  have hown : s.vm.findClass RJx4a65c = some m.cls := findClass_of_methodNamed B.named
  have hlocks := B.notSynchronized
  subst hsz
  have hD := hD0.self (sz := s.heap.size)
  generalize hAe : va_A [(h0, .inr (2, [.int 0, .ref dE, .int 0])), (v0, .inr (11, [.int kd, .ref di, .ref si, .int 0, .ref mi, .ref th]))] s.heap.size = A at hD hZ ⊢
  have hA : ∀ q : Nat, s.heap.size ≤ q → A q := fun q h => by rw [← hAe]; exact Or.inr h
  have hS : va_S A s.heap s.heap [] := va_S.rf
  have hP : va_P (dC, dI) vwCl [(h0, .inr (2, [.int 0, .ref dE, .int 0])), (v0, .inr (11, [.int kd, .ref di, .ref si, .int 0, .ref mi, .ref th]))] s.heap := hP
  have hl := lv_entry ([.ref h0, .ref v0]) (n := 2) (Nat.le_of_ble_eq_true rfl)
  rw [lg_entry_eq]
  generalize (lg_sl ([.ref h0, .ref v0]) ++ List.replicate (2 - (lg_sl ([.ref h0, .ref v0])).length) Slot.unset).toArray = ls at hl ⊢
  have hl : lv_has ls 2 [(0, .ref h0), (1, .ref v0)] := hl
  obtain ⟨H, eH⟩ : ∃ z, z = s.heap := ⟨_, rfl⟩
  rw [← eH] at hP ⊢
  have hS : va_S A s.heap H [] := by rw [eH]; exact va_S.rf
  refine lv_aload_n hx hb dJx4a65c_add_9ea2d_0 rfl (lv_at hl 0 rfl) ?_
  refine lv_dup hx hb dJx4a65c_add_9ea2d_1 rfl ?_
  refine va_get (D := (dC, dI)) (ci := 2) (v := .int 0) (C := RJx4a65c) (T := TJx4a65c) (N := 3) hx hb hts (by decide +kernel) hown hK hP 0 rfl rfl 0 (by decide) (hts (.fieldLink RJx4a65c 63 "java/util/ArrayList" "modCount" "I") (by decide +kernel)) (fun x9 h9 => u_same (hts (.sameField "java/util/ArrayList" "java/util/AbstractList" "modCount" "I") (by decide +kernel)) x9 h9) rfl dJx4a65c_add_9ea2d_2 ?_
  refine lv_iconst (v := 1) hx hb dJx4a65c_add_9ea2d_5 (by decide) ?_
  refine lv_iadd hx hb dJx4a65c_add_9ea2d_6 ?_
  refine lv_topi (fun f1 ef1 => ?_)
  obtain rfl : f1 = 1 := ef1.trans (by decide)
  refine va_put (D := (dC, dI)) (ci := 2) (v := .int 1) (ty := .int) (C := RJx4a65c) (T := TJx4a65c) (N := 3) hx hb hts (by decide +kernel) tyJx4a65c tyJx4a65c_ok nmJx4a65c hown hK hP hD hS 0 rfl rfl 0 (by decide) (hts (.fieldLink RJx4a65c 63 "java/util/ArrayList" "modCount" "I") (by decide +kernel)) (fun x9 h9 => u_same (hts (.sameField "java/util/ArrayList" "java/util/AbstractList" "modCount" "I") (by decide +kernel)) x9 h9) rfl (by decide +kernel) rfl rfl (Nat.le_of_ble_eq_true rfl) dJx4a65c_add_9ea2d_7 (fun H locs hP hD hS => ?_)
  have hP : va_P (dC, dI) vwCl [(h0, .inr (2, [.int 1, .ref dE, .int 0])), (v0, .inr (11, [.int kd, .ref di, .ref si, .int 0, .ref mi, .ref th]))] H := hP
  have hD : va_D A [(h0, .inr (2, [.int 1, .ref dE, .int 0])), (v0, .inr (11, [.int kd, .ref di, .ref si, .int 0, .ref mi, .ref th]))] := hD
  refine lv_aload_n hx hb dJx4a65c_add_9ea2d_10 rfl (lv_at hl 0 rfl) ?_
  refine lv_aload_n hx hb dJx4a65c_add_9ea2d_11 rfl (lv_at hl 1 rfl) ?_
  refine lv_aload_n hx hb dJx4a65c_add_9ea2d_12 rfl (lv_at hl 0 rfl) ?_
  refine va_get (D := (dC, dI)) (ci := 2) (v := .ref dE) (C := RJx4a65c) (T := TJx4a65c) (N := 3) hx hb hts (by decide +kernel) hown hK hP 0 rfl rfl 1 (by decide) (hts (.fieldLink RJx4a65c 9 "java/util/ArrayList" "elementData" "[Ljava/lang/Object;") (by decide +kernel)) (fun _ h9 => h9) rfl dJx4a65c_add_9ea2d_13 ?_
  refine lv_aload_n hx hb dJx4a65c_add_9ea2d_16 rfl (lv_at hl 0 rfl) ?_
  refine va_get (D := (dC, dI)) (ci := 2) (v := .int 0) (C := RJx4a65c) (T := TJx4a65c) (N := 3) hx hb hts (by decide +kernel) hown hK hP 0 rfl rfl 2 (by decide) (hts (.fieldLink RJx4a65c 48 "java/util/ArrayList" "size" "I") (by decide +kernel)) (fun _ h9 => h9) rfl dJx4a65c_add_9ea2d_17 ?_
  have hPc := hP.sub (ws' := [(h0, .inr (2, [.int 1, .ref dE, .int 0])), (v0, .inr (11, [.int kd, .ref di, .ref si, .int 0, .ref mi, .ref th]))]) [0, 1] rfl
  have hDc := hD.sub (ws' := [(h0, .inr (2, [.int 1, .ref dE, .int 0])), (v0, .inr (11, [.int kd, .ref di, .ref si, .int 0, .ref mi, .ref th]))]) [0, 1] (by decide) rfl
  have hKc := hK.sub (tys' := []) [] rfl
  have hFc := va_free (wc := [(h0, .inr (2, [.int 1, .ref dE, .int 0])), (v0, .inr (11, [.int kd, .ref di, .ref si, .int 0, .ref mi, .ref th]))]) hD hS hA [0, 1] rfl
  refine va_callv (va_runV (As := [.ref v0, .ref dE, .int 0]) (rest := []) ⟨hx, hb, hml, hown, hts⟩ (c_List_addAt l dC dI dE h0 1 v0 kd di si mi th H.size) (cwV 3 hts gJx4a65c_add_9ea2d_Jx4a65c_add_72be8 rfl rfl rfl (by decide +kernel) ⟨Nat.le_of_ble_eq_true rfl, Nat.le_of_ble_eq_true rfl⟩) ⟨fun a U g mk q => ⟨q.1, PB.blind q.2⟩, va_recv hKc hPc (ci := 2) (q0 := 0) rfl rfl, fun U hU hW => ⟨rfl, PB.call hPc hKc hDc hTb hZ hS hFc hU hW⟩⟩ rfl rfl hl.1 rfl (lv_room (Nat.le_of_ble_eq_true rfl)) dJx4a65c_add_9ea2d_20 ⟨Nat.le_of_ble_eq_true rfl, Nat.le_of_ble_eq_true rfl⟩) hS (fun q _ h => hFc q h) hFc (fun u t H locs ht hvm hw hB hz1 hk1 hS => ?_)
  obtain ⟨q2, hB⟩ := hB
  obtain ⟨hP, hD, hK⟩ := PE.join (wc := [(h0, .inr (2, [.int 1, .ref dE, .int 0])), (v0, .inr (11, [.int kd, .ref di, .ref si, .int 0, .ref mi, .ref th]))]) (wr := []) (w1 := [(h0, .inr (2, [.int 1, .ref q2, .int 1]))]) (tr := []) (t1 := []) hP hD hK [0, 1] [] [] rfl rfl rfl (by decide) (by decide) hk1 hFc ht hvm hB
  have hP : va_P (dC, dI) vwCl [(h0, .inr (2, [.int 1, .ref q2, .int 1]))] H := hP
  have hD : va_D A [(h0, .inr (2, [.int 1, .ref q2, .int 1]))] := hD
  have hK : va_K (dC, dI) vwCl [] s := hK
  refine W.widen (k := 1) (n := 10) (by omega) (by omega) ?_
  refine lv_iconst (v := 1) hx hb dJx4a65c_add_9ea2d_23 (by decide) ?_
  have hP9 := hP.sub (ws' := [(h0, .inr (2, [.int 1, .ref q2, .int 1]))]) [0] rfl
  have hD9 := hD.sub (ws' := [(h0, .inr (2, [.int 1, .ref q2, .int 1]))]) [0] (by decide) rfl
  have hK9 := hK.sub (tys' := []) [] rfl
  refine W.widen (k := 1) (n := 10) (Nat.le_of_ble_eq_true rfl) (Nat.le_of_ble_eq_true rfl) ?_
  exact W.zret (v := 1) (ty := .boolean) hx hb hr rfl (fun t ht hW => ⟨⟨_, (), rfl, rfl, ⟨q2, PE.mk hP9 hK9 hD9 ht hW⟩⟩, hS.F ht⟩) hS.2.2 dJx4a65c_add_9ea2d_24

set_option maxHeartbeats 4000000 in
set_option maxRecDepth 100000 in
/-- c_MA_init -/
theorem c_MA_init (l : Launch) (dC : Nat → ClassId) (dI : Nat → Nat → Nat) (dE : Nat) (h0 : Nat) (m0 : Nat) (kd : Int32) (sz : Nat) : Met l yX8_init wsX8_init ({ frames := 4, cells := 4, slots := 9, locals := 100 }) (va_Pc [.ref h0, .ref m0, .int kd] (PB dC dI dE [] [(h0, .inr (11, [.int 0, .null, .null, .int 0, .null, .null]))] sz)) (va_Qv (fun (_ : Unit) => True) (fun (_ : Unit) (t : State) => ∃ e0 : Nat, ∃ e1 : Nat, ∃ e2 : Nat, PE dC dI [] [(h0, .inr (11, [.int kd, .ref e0, .ref e1, .int 0, .ref e2, .ref m0]))] (va_A [(h0, .inr (11, [.int 0, .null, .null, .int 0, .null, .null]))] sz) t) (va_A [(h0, .inr (11, [.int 0, .null, .null, .int 0, .null, .null]))] sz)) 4 9 (va_A [(h0, .inr (11, [.int 0, .null, .null, .int 0, .null, .null]))] sz) := by
  refine Met.ofW (cc := cX8_init) (maxL := 3) (ret := none) (by decide) rfl ?_
  intro p e s m args below meth c s₁ B hml hv
  obtain ⟨rfl, hsz, hP, hK, hD0, hTb, hZ⟩ := hv
  have hx := B.exec
  have hb := B.bytes
  have hr := B.returns
  have hts := atoms_spec (ws := wsX8_init) B.pre
  have hown : s.vm.findClass RX8 = some m.cls := findClass_of_methodNamed B.named
  have hlocks := B.notSynchronized
  have hin : meth.name = "<init>" := (name_of_methodNamed B.named B.method).1
  subst hsz
  have hD := hD0.self (sz := s.heap.size)
  generalize hAe : va_A [(h0, .inr (11, [.int 0, .null, .null, .int 0, .null, .null]))] s.heap.size = A at hD hZ ⊢
  have hA : ∀ q : Nat, s.heap.size ≤ q → A q := fun q h => by rw [← hAe]; exact Or.inr h
  have hS : va_S A s.heap s.heap [] := va_S.rf
  have hP : va_P (dC, dI) vwCl [(h0, .inr (11, [.int 0, .null, .null, .int 0, .null, .null]))] s.heap := hP
  have hl := lv_entry ([.ref h0, .ref m0, .int kd]) (n := 3) (Nat.le_of_ble_eq_true rfl)
  rw [lg_entry_eq]
  generalize (lg_sl ([.ref h0, .ref m0, .int kd]) ++ List.replicate (3 - (lg_sl ([.ref h0, .ref m0, .int kd])).length) Slot.unset).toArray = ls at hl ⊢
  have hl : lv_has ls 3 [(0, .ref h0), (1, .ref m0), (2, .int kd)] := hl
  obtain ⟨H, eH⟩ : ∃ z, z = s.heap := ⟨_, rfl⟩
  rw [← eH] at hP ⊢
  have hS : va_S A s.heap H [] := by rw [eH]; exact va_S.rf
  refine lv_aload_n hx hb dX8_init_0 rfl (lv_at hl 0 rfl) ?_
  refine lv_aload_n hx hb dX8_init_1 rfl (lv_at hl 1 rfl) ?_
  refine va_putF (D := (dC, dI)) (ci := 11) (v := .ref m0) (ty := .object "VersorhallModel") (C := RX8) (T := TX8) (N := 6) hx hb hts (by decide +kernel) tyX8 tyX8_ok nmX8 hown hK hP hD hS 0 rfl rfl 5 (by decide) (hts (.fieldLink RX8 3 "VersorhallModel$Algebra" "this$0" "LVersorhallModel;") (by decide +kernel)) (fun _ h9 => h9) rfl hin rfl (by decide +kernel) rfl rfl (Nat.le_of_ble_eq_true rfl) dX8_init_2 (fun H locs hP hD hS => ?_)
  have hP : va_P (dC, dI) vwCl [(h0, .inr (11, [.int 0, .null, .null, .int 0, .null, .ref m0]))] H := hP
  have hD : va_D A [(h0, .inr (11, [.int 0, .null, .null, .int 0, .null, .ref m0]))] := hD
  refine lv_aload_n hx hb dX8_init_5 rfl (lv_at hl 0 rfl) ?_
  refine W.objInit hx hb hown (hts (.methodLink RX8 9 objectInit) (by decide +kernel)) (hts (.instanceMethod objectInit) (by decide +kernel)) (hts (.code objectInit ⟨#[0xb1]⟩ 1 none) (by decide +kernel)) rfl (by rw [hml]; exact hl.1) rfl dX8_init_6 (Nat.le_of_ble_eq_true rfl) (Nat.le_of_ble_eq_true rfl) ?_
  refine W.eq (g2 := F0 m 9 ls []) rfl ?_
  refine lv_aload_n hx hb dX8_init_9 rfl (lv_at hl 0 rfl) ?_
  refine lv_iconst (v := 4) hx hb dX8_init_10 (by decide) ?_
  refine va_newa (atype := .int) (ty := .int) (a0 := (4, .inl (fun _ => 0))) (n := 4) (N' := 4) hx hb (hts (.arrayClass .int) (by decide +kernel)) rfl hK hP hD hS hA (fun _ => rfl) (by decide) (by decide) (Nat.le_of_ble_eq_true rfl) (Nat.le_of_ble_eq_true rfl) (Nat.le_of_ble_eq_true rfl) dX8_init_11 (fun q1 cAq1 H hK hP hD hS => ?_)
  have hP : va_P (dC, dI) vwCl [(h0, .inr (11, [.int 0, .null, .null, .int 0, .null, .ref m0])), (q1, .inl (cAq1, 4, .inl (fun _ => 0)))] H := hP
  have hD : va_D A [(h0, .inr (11, [.int 0, .null, .null, .int 0, .null, .ref m0])), (q1, .inl (cAq1, 4, .inl (fun _ => 0)))] := hD
  have hK : va_K (dC, dI) vwCl [(cAq1, .int)] s := hK
  refine W.widen (k := 1) (n := 4) (by omega) (by omega) ?_
  refine va_putF (D := (dC, dI)) (ci := 11) (v := .ref q1) (ty := .array .int) (C := RX8) (T := TX8) (N := 6) hx hb hts (by decide +kernel) tyX8 tyX8_ok nmX8 hown hK hP hD hS 0 rfl rfl 1 (by decide) (hts (.fieldLink RX8 15 "VersorhallModel$Algebra" "dials" "[I") (by decide +kernel)) (fun _ h9 => h9) rfl hin rfl (by decide +kernel) rfl rfl (Nat.le_of_ble_eq_true rfl) dX8_init_13 (fun H locs hP hD hS => ?_)
  have hP : va_P (dC, dI) vwCl [(h0, .inr (11, [.int 0, .ref q1, .null, .int 0, .null, .ref m0])), (q1, .inl (cAq1, 4, .inl (fun _ => 0)))] H := hP
  have hD : va_D A [(h0, .inr (11, [.int 0, .ref q1, .null, .int 0, .null, .ref m0])), (q1, .inl (cAq1, 4, .inl (fun _ => 0)))] := hD
  refine lv_aload_n hx hb dX8_init_16 rfl (lv_at hl 0 rfl) ?_
  refine lv_iconst (v := 1) hx hb dX8_init_17 (by decide) ?_
  refine tk_newqI (n := 1) (N' := 1) hx hb hown (hts (.classLink RX8 19 "[I") (by decide +kernel)) (Tb_a5 hTb) hK hP hD hS hA (by decide) (by decide) (Nat.le_of_ble_eq_true rfl) (Nat.le_of_ble_eq_true rfl) (Nat.le_of_ble_eq_true rfl) dX8_init_18 (fun q2 cAq2 H kAq2 cpq2 hkAq2 hkdq2 hcpq2 hK hP hD hS => ?_)
  have hP : va_P (dC, dI) vwCl [(h0, .inr (11, [.int 0, .ref q1, .null, .int 0, .null, .ref m0])), (q1, .inl (cAq1, 4, .inl (fun _ => 0))), (q2, .inl (cAq2, 1, .inr (.inr (.inr (.inr (fun _ => none))))))] H := hP
  have hD : va_D A [(h0, .inr (11, [.int 0, .ref q1, .null, .int 0, .null, .ref m0])), (q1, .inl (cAq1, 4, .inl (fun _ => 0))), (q2, .inl (cAq2, 1, .inr (.inr (.inr (.inr (fun _ => none))))))] := hD
  have hK : va_K (dC, dI) vwCl [(cAq1, .int), (cAq2, .array .int)] s := hK
  refine W.widen (k := 2) (n := 5) (by omega) (by omega) ?_
  refine lv_dup hx hb dX8_init_21 rfl ?_
  refine lv_iconst (v := 0) hx hb dX8_init_22 (by decide) ?_
  refine lv_iconst (v := 1) hx hb dX8_init_23 (by decide) ?_
  refine va_newa (atype := .int) (ty := .int) (a0 := (1, .inl (fun _ => 0))) (n := 1) (N' := 1) hx hb (hts (.arrayClass .int) (by decide +kernel)) rfl hK hP hD hS hA (fun _ => rfl) (by decide) (by decide) (Nat.le_of_ble_eq_true rfl) (Nat.le_of_ble_eq_true rfl) (Nat.le_of_ble_eq_true rfl) dX8_init_24 (fun q3 cAq3 H hK hP hD hS => ?_)
  have hP : va_P (dC, dI) vwCl [(h0, .inr (11, [.int 0, .ref q1, .null, .int 0, .null, .ref m0])), (q1, .inl (cAq1, 4, .inl (fun _ => 0))), (q2, .inl (cAq2, 1, .inr (.inr (.inr (.inr (fun _ => none)))))), (q3, .inl (cAq3, 1, .inl (fun _ => 0)))] H := hP
  have hD : va_D A [(h0, .inr (11, [.int 0, .ref q1, .null, .int 0, .null, .ref m0])), (q1, .inl (cAq1, 4, .inl (fun _ => 0))), (q2, .inl (cAq2, 1, .inr (.inr (.inr (.inr (fun _ => none)))))), (q3, .inl (cAq3, 1, .inl (fun _ => 0)))] := hD
  have hK : va_K (dC, dI) vwCl [(cAq1, .int), (cAq2, .array .int), (cAq3, .int)] s := hK
  refine W.widen (k := 3) (n := 6) (by omega) (by omega) ?_
  refine lv_dup hx hb dX8_init_26 rfl ?_
  refine lv_iconst (v := 0) hx hb dX8_init_27 (by decide) ?_
  refine lv_iconst (v := 1) hx hb dX8_init_28 (by decide) ?_
  refine va_iast hx hb hK hP hD hS 3 2 rfl rfl (by unfold vp_in; decide) dX8_init_29 (fun H locs hP hD hS => ?_)
  have hP : va_P (dC, dI) vwCl [(h0, .inr (11, [.int 0, .ref q1, .null, .int 0, .null, .ref m0])), (q1, .inl (cAq1, 4, .inl (fun _ => 0))), (q2, .inl (cAq2, 1, .inr (.inr (.inr (.inr (fun _ => none)))))), (q3, .inl (cAq3, 1, .inl (upd (fun _ => 0) (Int32.toNatClampNeg 0) 1)))] H := hP
  have hD : va_D A [(h0, .inr (11, [.int 0, .ref q1, .null, .int 0, .null, .ref m0])), (q1, .inl (cAq1, 4, .inl (fun _ => 0))), (q2, .inl (cAq2, 1, .inr (.inr (.inr (.inr (fun _ => none)))))), (q3, .inl (cAq3, 1, .inl (upd (fun _ => 0) (Int32.toNatClampNeg 0) 1)))] := hD
  refine tk_astqI hx hb hK hP hD hS 2 3 2 rfl hkAq2 hkdq2 hcpq2 rfl rfl (by unfold vp_in; decide) dX8_init_30 (fun H locs hP hD hS => ?_)
  generalize va_up (fun _ => none) (Int32.toNatClampNeg 0) (some q3) = g4 at hP hD
  have hP : va_P (dC, dI) vwCl [(h0, .inr (11, [.int 0, .ref q1, .null, .int 0, .null, .ref m0])), (q1, .inl (cAq1, 4, .inl (fun _ => 0))), (q2, .inl (cAq2, 1, .inr (.inr (.inr (.inr g4))))), (q3, .inl (cAq3, 1, .inl (upd (fun _ => 0) (Int32.toNatClampNeg 0) 1)))] H := hP
  have hD : va_D A [(h0, .inr (11, [.int 0, .ref q1, .null, .int 0, .null, .ref m0])), (q1, .inl (cAq1, 4, .inl (fun _ => 0))), (q2, .inl (cAq2, 1, .inr (.inr (.inr (.inr g4))))), (q3, .inl (cAq3, 1, .inl (upd (fun _ => 0) (Int32.toNatClampNeg 0) 1)))] := hD
  refine va_put (D := (dC, dI)) (ci := 11) (v := .ref q2) (ty := .array (.array .int)) (C := RX8) (T := TX8) (N := 6) hx hb hts (by decide +kernel) tyX8 tyX8_ok nmX8 hown hK hP hD hS 0 rfl rfl 2 (by decide) (hts (.fieldLink RX8 20 "VersorhallModel$Algebra" "signs" "[[I") (by decide +kernel)) (fun _ h9 => h9) rfl (by decide +kernel) rfl rfl (Nat.le_of_ble_eq_true rfl) dX8_init_31 (fun H locs hP hD hS => ?_)
  have hP : va_P (dC, dI) vwCl [(h0, .inr (11, [.int 0, .ref q1, .ref q2, .int 0, .null, .ref m0])), (q1, .inl (cAq1, 4, .inl (fun _ => 0))), (q2, .inl (cAq2, 1, .inr (.inr (.inr (.inr g4))))), (q3, .inl (cAq3, 1, .inl (upd (fun _ => 0) (Int32.toNatClampNeg 0) 1)))] H := hP
  have hD : va_D A [(h0, .inr (11, [.int 0, .ref q1, .ref q2, .int 0, .null, .ref m0])), (q1, .inl (cAq1, 4, .inl (fun _ => 0))), (q2, .inl (cAq2, 1, .inr (.inr (.inr (.inr g4))))), (q3, .inl (cAq3, 1, .inl (upd (fun _ => 0) (Int32.toNatClampNeg 0) 1)))] := hD
  refine lv_aload_n hx hb dX8_init_34 rfl (lv_at hl 0 rfl) ?_
  refine va_new (ci := 2) (fs := [.int 0, .null, .int 0]) (C := RJx4a65c) (T := TJx4a65c) (N := 3) hx hb hts (by decide +kernel) tyJx4a65c tyJx4a65c_ok hown (hts (.classLink RX8 24 RJx4a65c) (by decide +kernel)) (hts (.instantiable RJx4a65c 3) (by decide +kernel)) (hts (.initialized RJx4a65c) (by decide +kernel)) hK hP hD hS hA rfl (fun j hj => by rcases (show j = 0 ∨ j = 1 ∨ j = 2 by omega) with rfl | rfl | rfl <;> rfl) (Nat.le_of_ble_eq_true rfl) (Nat.le_of_ble_eq_true rfl) dX8_init_35 (fun q5 H hP hD hS => ?_)
  have hP : va_P (dC, dI) vwCl [(h0, .inr (11, [.int 0, .ref q1, .ref q2, .int 0, .null, .ref m0])), (q1, .inl (cAq1, 4, .inl (fun _ => 0))), (q2, .inl (cAq2, 1, .inr (.inr (.inr (.inr g4))))), (q3, .inl (cAq3, 1, .inl (upd (fun _ => 0) (Int32.toNatClampNeg 0) 1))), (q5, .inr (2, [.int 0, .null, .int 0]))] H := hP
  have hD : va_D A [(h0, .inr (11, [.int 0, .ref q1, .ref q2, .int 0, .null, .ref m0])), (q1, .inl (cAq1, 4, .inl (fun _ => 0))), (q2, .inl (cAq2, 1, .inr (.inr (.inr (.inr g4))))), (q3, .inl (cAq3, 1, .inl (upd (fun _ => 0) (Int32.toNatClampNeg 0) 1))), (q5, .inr (2, [.int 0, .null, .int 0]))] := hD
  refine W.widen (k := 4) (n := 9) (by omega) (by omega) ?_
  refine lv_dup hx hb dX8_init_38 rfl ?_
  have hPc := hP.sub (ws' := [(q5, .inr (2, [.int 0, .null, .int 0]))]) [4] rfl
  have hDc := hD.sub (ws' := [(q5, .inr (2, [.int 0, .null, .int 0]))]) [4] (by decide) rfl
  have hKc := hK.sub (tys' := []) [] rfl
  have hFc := va_free (wc := [(q5, .inr (2, [.int 0, .null, .int 0]))]) hD hS hA [4] rfl
  refine va_callv (va_runI (As := []) (rest := [.ref q5, .ref h0]) ⟨hx, hb, hml, hown, hts⟩ (c_List_init l dC dI dE q5 H.size) (cwI 0 hts gX8_init_Jx4a65c_init_da8c8 rfl rfl rfl (hts (.initialized RJx4a65c) (by decide +kernel)) (hts (.methodLink RX8 26 yJx4a65c_init_da8c8) (by decide +kernel)) (hts (.instanceMethod yJx4a65c_init_da8c8) (by decide +kernel)) rfl (by decide +kernel) ⟨Nat.le_of_ble_eq_true rfl, Nat.le_of_ble_eq_true rfl⟩) ⟨fun a U g mk q => ⟨q.1, PB.blind q.2⟩, fun U hU hW => ⟨rfl, PB.call hPc hKc hDc hTb hZ hS hFc hU hW⟩⟩ rfl rfl hl.1 rfl (lv_room (Nat.le_of_ble_eq_true rfl)) dX8_init_39 ⟨Nat.le_of_ble_eq_true rfl, Nat.le_of_ble_eq_true rfl⟩) hS (fun q _ h => hFc q h) hFc (fun u t H locs ht hvm hw hB hz1 hk1 hS => ?_)
  obtain ⟨hP, hD, hK⟩ := PE.join (wc := [(q5, .inr (2, [.int 0, .null, .int 0]))]) (wr := [(h0, .inr (11, [.int 0, .ref q1, .ref q2, .int 0, .null, .ref m0])), (q1, .inl (cAq1, 4, .inl (fun _ => 0))), (q2, .inl (cAq2, 1, .inr (.inr (.inr (.inr g4))))), (q3, .inl (cAq3, 1, .inl (upd (fun _ => 0) (Int32.toNatClampNeg 0) 1)))]) (w1 := [(q5, .inr (2, [.int 0, .ref dE, .int 0]))]) (tr := [(cAq1, .int), (cAq2, .array .int), (cAq3, .int)]) (t1 := []) hP hD hK [4] [0, 1, 2, 3] [0, 1, 2] rfl rfl rfl (by decide) (by decide) hk1 hFc ht hvm hB
  have hP : va_P (dC, dI) vwCl [(h0, .inr (11, [.int 0, .ref q1, .ref q2, .int 0, .null, .ref m0])), (q1, .inl (cAq1, 4, .inl (fun _ => 0))), (q2, .inl (cAq2, 1, .inr (.inr (.inr (.inr g4))))), (q3, .inl (cAq3, 1, .inl (upd (fun _ => 0) (Int32.toNatClampNeg 0) 1))), (q5, .inr (2, [.int 0, .ref dE, .int 0]))] H := hP
  have hD : va_D A [(h0, .inr (11, [.int 0, .ref q1, .ref q2, .int 0, .null, .ref m0])), (q1, .inl (cAq1, 4, .inl (fun _ => 0))), (q2, .inl (cAq2, 1, .inr (.inr (.inr (.inr g4))))), (q3, .inl (cAq3, 1, .inl (upd (fun _ => 0) (Int32.toNatClampNeg 0) 1))), (q5, .inr (2, [.int 0, .ref dE, .int 0]))] := hD
  have hK : va_K (dC, dI) vwCl [(cAq1, .int), (cAq2, .array .int), (cAq3, .int)] s := hK
  refine va_putF (D := (dC, dI)) (ci := 11) (v := .ref q5) (ty := .object "java/util/List") (C := RX8) (T := TX8) (N := 6) hx hb hts (by decide +kernel) tyX8 tyX8_ok nmX8 hown hK hP hD hS 0 rfl rfl 4 (by decide) (hts (.fieldLink RX8 27 "VersorhallModel$Algebra" "mirrors" "Ljava/util/List;") (by decide +kernel)) (fun _ h9 => h9) rfl hin rfl (by decide +kernel) rfl rfl (Nat.le_of_ble_eq_true rfl) dX8_init_42 (fun H locs hP hD hS => ?_)
  have hP : va_P (dC, dI) vwCl [(h0, .inr (11, [.int 0, .ref q1, .ref q2, .int 0, .ref q5, .ref m0])), (q1, .inl (cAq1, 4, .inl (fun _ => 0))), (q2, .inl (cAq2, 1, .inr (.inr (.inr (.inr g4))))), (q3, .inl (cAq3, 1, .inl (upd (fun _ => 0) (Int32.toNatClampNeg 0) 1))), (q5, .inr (2, [.int 0, .ref dE, .int 0]))] H := hP
  have hD : va_D A [(h0, .inr (11, [.int 0, .ref q1, .ref q2, .int 0, .ref q5, .ref m0])), (q1, .inl (cAq1, 4, .inl (fun _ => 0))), (q2, .inl (cAq2, 1, .inr (.inr (.inr (.inr g4))))), (q3, .inl (cAq3, 1, .inl (upd (fun _ => 0) (Int32.toNatClampNeg 0) 1))), (q5, .inr (2, [.int 0, .ref dE, .int 0]))] := hD
  refine lv_aload_n hx hb dX8_init_45 rfl (lv_at hl 0 rfl) ?_
  refine lv_iload_n hx hb dX8_init_46 rfl (lv_at hl 2 rfl) ?_
  refine va_putF (D := (dC, dI)) (ci := 11) (v := .int kd) (ty := .int) (C := RX8) (T := TX8) (N := 6) hx hb hts (by decide +kernel) tyX8 tyX8_ok nmX8 hown hK hP hD hS 0 rfl rfl 0 (by decide) (hts (.fieldLink RX8 31 "VersorhallModel$Algebra" "kind" "I") (by decide +kernel)) (fun _ h9 => h9) rfl hin rfl (by decide +kernel) rfl rfl (Nat.le_of_ble_eq_true rfl) dX8_init_47 (fun H locs hP hD hS => ?_)
  have hP : va_P (dC, dI) vwCl [(h0, .inr (11, [.int kd, .ref q1, .ref q2, .int 0, .ref q5, .ref m0])), (q1, .inl (cAq1, 4, .inl (fun _ => 0))), (q2, .inl (cAq2, 1, .inr (.inr (.inr (.inr g4))))), (q3, .inl (cAq3, 1, .inl (upd (fun _ => 0) (Int32.toNatClampNeg 0) 1))), (q5, .inr (2, [.int 0, .ref dE, .int 0]))] H := hP
  have hD : va_D A [(h0, .inr (11, [.int kd, .ref q1, .ref q2, .int 0, .ref q5, .ref m0])), (q1, .inl (cAq1, 4, .inl (fun _ => 0))), (q2, .inl (cAq2, 1, .inr (.inr (.inr (.inr g4))))), (q3, .inl (cAq3, 1, .inl (upd (fun _ => 0) (Int32.toNatClampNeg 0) 1))), (q5, .inr (2, [.int 0, .ref dE, .int 0]))] := hD
  have hP9 := hP.sub (ws' := [(h0, .inr (11, [.int kd, .ref q1, .ref q2, .int 0, .ref q5, .ref m0]))]) [0] rfl
  have hD9 := hD.sub (ws' := [(h0, .inr (11, [.int kd, .ref q1, .ref q2, .int 0, .ref q5, .ref m0]))]) [0] (by decide) rfl
  have hK9 := hK.sub (tys' := []) [] rfl
  refine W.widen (k := 4) (n := 9) (Nat.le_of_ble_eq_true rfl) (Nat.le_of_ble_eq_true rfl) ?_
  exact W.vret hx hb hr (fun t ht hW => ⟨⟨(), rfl, trivial, ⟨q1, q2, q5, PE.mk hP9 hK9 hD9 ht hW⟩⟩, hS.F ht⟩) hS.2.2 dX8_init_50

set_option maxHeartbeats 4000000 in
set_option maxRecDepth 100000 in
/-- c_M_algebra_0 -/
theorem c_M_algebra_0 (l : Launch) (dC : Nat → ClassId) (dI : Nat → Nat → Nat) (dE : Nat) (h0 : Nat) (l1 : Nat) (l2 : Nat) (sz : Nat) : Met l yX10_algebra wsX10_algebra ({ frames := 5, cells := 6, slots := 25, locals := 127 }) (va_Pc [.ref h0, .int 0] (PB dC dI dE [] [(h0, .inr (13, [.int 0, .int 7, .int 0, .ref l1, .ref l2])), (l1, .inr (2, [.int 0, .ref dE, .int 0])), (l2, .inr (2, [.int 0, .ref dE, .int 0]))] sz)) (va_Qi (fun (r : Int32) (_ : Unit) => r = 0) (fun (_ : Unit) (t : State) => PE dC dI [] [(h0, .inr (13, [.int 0, .int 7, .int 0, .ref l1, .ref l2]))] (va_A [(h0, .inr (13, [.int 0, .int 7, .int 0, .ref l1, .ref l2])), (l1, .inr (2, [.int 0, .ref dE, .int 0])), (l2, .inr (2, [.int 0, .ref dE, .int 0]))] sz) t) (va_A [(h0, .inr (13, [.int 0, .int 7, .int 0, .ref l1, .ref l2])), (l1, .inr (2, [.int 0, .ref dE, .int 0])), (l2, .inr (2, [.int 0, .ref dE, .int 0]))] sz)) 6 25 (va_A [(h0, .inr (13, [.int 0, .int 7, .int 0, .ref l1, .ref l2])), (l1, .inr (2, [.int 0, .ref dE, .int 0])), (l2, .inr (2, [.int 0, .ref dE, .int 0]))] sz) := by
  refine Met.ofW (cc := cX10_algebra) (maxL := 2) (ret := (some .int)) (by decide) rfl ?_
  intro p e s m args below meth c s₁ B hml hv
  obtain ⟨rfl, hsz, hP, hK, hD0, hTb, hZ⟩ := hv
  have hx := B.exec
  have hb := B.bytes
  have hr := B.returns
  have hts := atoms_spec (ws := wsX10_algebra) B.pre
  have hown : s.vm.findClass RX10 = some m.cls := findClass_of_methodNamed B.named
  have hlocks := B.notSynchronized
  subst hsz
  have hD := hD0.self (sz := s.heap.size)
  generalize hAe : va_A [(h0, .inr (13, [.int 0, .int 7, .int 0, .ref l1, .ref l2])), (l1, .inr (2, [.int 0, .ref dE, .int 0])), (l2, .inr (2, [.int 0, .ref dE, .int 0]))] s.heap.size = A at hD hZ ⊢
  have hA : ∀ q : Nat, s.heap.size ≤ q → A q := fun q h => by rw [← hAe]; exact Or.inr h
  have hS : va_S A s.heap s.heap [] := va_S.rf
  have hP : va_P (dC, dI) vwCl [(h0, .inr (13, [.int 0, .int 7, .int 0, .ref l1, .ref l2])), (l1, .inr (2, [.int 0, .ref dE, .int 0])), (l2, .inr (2, [.int 0, .ref dE, .int 0]))] s.heap := hP
  have hl := lv_entry ([.ref h0, .int 0]) (n := 2) (Nat.le_of_ble_eq_true rfl)
  rw [lg_entry_eq]
  generalize (lg_sl ([.ref h0, .int 0]) ++ List.replicate (2 - (lg_sl ([.ref h0, .int 0])).length) Slot.unset).toArray = ls at hl ⊢
  have hl : lv_has ls 2 [(0, .ref h0), (1, .int 0)] := hl
  obtain ⟨H, eH⟩ : ∃ z, z = s.heap := ⟨_, rfl⟩
  rw [← eH] at hP ⊢
  have hS : va_S A s.heap H [] := by rw [eH]; exact va_S.rf
  refine lv_aload_n hx hb dX10_algebra_0 rfl (lv_at hl 0 rfl) ?_
  refine lv_iconst (v := 0) hx hb dX10_algebra_1 (by decide) ?_
  refine va_put (D := (dC, dI)) (ci := 13) (v := .int 0) (ty := .int) (C := RX10) (T := TX10) (N := 5) hx hb hts (by decide +kernel) tyX10 tyX10_ok nmX10 hown hK hP hD hS 0 rfl rfl 0 (by decide) (hts (.fieldLink RX10 23 "VersorhallModel" "thrown" "I") (by decide +kernel)) (fun _ h9 => h9) rfl (by decide +kernel) rfl rfl (Nat.le_of_ble_eq_true rfl) dX10_algebra_2 (fun H locs hP hD hS => ?_)
  have hP : va_P (dC, dI) vwCl [(h0, .inr (13, [.int 0, .int 7, .int 0, .ref l1, .ref l2])), (l1, .inr (2, [.int 0, .ref dE, .int 0])), (l2, .inr (2, [.int 0, .ref dE, .int 0]))] H := hP
  have hD : va_D A [(h0, .inr (13, [.int 0, .int 7, .int 0, .ref l1, .ref l2])), (l1, .inr (2, [.int 0, .ref dE, .int 0])), (l2, .inr (2, [.int 0, .ref dE, .int 0]))] := hD
  refine lv_iload_n hx hb dX10_algebra_5 rfl (lv_at hl 1 rfl) ?_
  refine lv_iconst (v := 0) hx hb dX10_algebra_6 (by decide) ?_
  refine lv_iconst (v := 1) hx hb dX10_algebra_7 (by decide) ?_
  have hPc := hP.sub (ws' := []) [] rfl
  have hDc := hD.sub (ws' := []) [] (by decide) rfl
  have hKc := hK.sub (tys' := []) [] rfl
  have hFc := va_free (wc := []) hD hS hA [] rfl
  refine va_calli (va_runS (As := [.int 0, .int 0, .int 1]) (rest := []) ⟨hx, hb, hml, hown, hts⟩ (c_M_in_1_0 l dC dI dE H.size) (va_cwS 3 hts gX10_algebra_X10_in rfl rfl rfl (by decide +kernel) ⟨Nat.le_of_ble_eq_true rfl, Nat.le_of_ble_eq_true rfl⟩) ⟨fun a U g mk q => ⟨q.1, PB.blind q.2⟩, fun U hU hW => ⟨rfl, PB.call hPc hKc hDc hTb hZ hS hFc hU hW⟩⟩ rfl rfl hl.1 rfl (lv_room (Nat.le_of_ble_eq_true rfl)) dX10_algebra_8 ⟨Nat.le_of_ble_eq_true rfl, Nat.le_of_ble_eq_true rfl⟩) hS (fun q _ h => hFc q h) hFc (fun r u t H locs ht hvm hw hB hz1 hk1 hS => ?_)
  obtain ⟨hP, hD, hK⟩ := PE.join (wc := []) (wr := [(h0, .inr (13, [.int 0, .int 7, .int 0, .ref l1, .ref l2])), (l1, .inr (2, [.int 0, .ref dE, .int 0])), (l2, .inr (2, [.int 0, .ref dE, .int 0]))]) (w1 := []) (tr := []) (t1 := []) hP hD hK [] [0, 1, 2] [] rfl rfl rfl (by decide) (by decide) hk1 hFc ht hvm hB
  have hP : va_P (dC, dI) vwCl [(h0, .inr (13, [.int 0, .int 7, .int 0, .ref l1, .ref l2])), (l1, .inr (2, [.int 0, .ref dE, .int 0])), (l2, .inr (2, [.int 0, .ref dE, .int 0]))] H := hP
  have hD : va_D A [(h0, .inr (13, [.int 0, .int 7, .int 0, .ref l1, .ref l2])), (l1, .inr (2, [.int 0, .ref dE, .int 0])), (l2, .inr (2, [.int 0, .ref dE, .int 0]))] := hD
  have hK : va_K (dC, dI) vwCl [] s := hK
  subst hw
  refine lv_if_ne (tgt := 20) hx hb dX10_algebra_11 (by decide) (fun _ => ?_) (fun c9 => absurd c9 (by decide))
  refine lv_aload_n hx hb dX10_algebra_20 rfl (lv_at hl 0 rfl) ?_
  refine va_get (D := (dC, dI)) (ci := 13) (v := .ref l1) (C := RX10) (T := TX10) (N := 5) hx hb hts (by decide +kernel) hown hK hP 0 rfl rfl 3 (by decide) (hts (.fieldLink RX10 16 "VersorhallModel" "algebras" "Ljava/util/List;") (by decide +kernel)) (fun _ h9 => h9) rfl dX10_algebra_21 ?_
  have hPc := hP.sub (ws' := [(l1, .inr (2, [.int 0, .ref dE, .int 0]))]) [1] rfl
  have hDc := hD.sub (ws' := [(l1, .inr (2, [.int 0, .ref dE, .int 0]))]) [1] (by decide) rfl
  have hKc := hK.sub (tys' := []) [] rfl
  have hFc := va_free (wc := [(l1, .inr (2, [.int 0, .ref dE, .int 0]))]) hD hS hA [1] rfl
  refine va_callFi (va_runF ((hK.1 2 _ rfl).2) (As := []) (rest := []) ⟨hx, hb, hml, hown, hts⟩ (c_List_size l dC dI dE l1 0 dE 0 H.size) (va_cwF 0 hts gX10_algebra_Jx4a65c_size_8abf5_f30Jx4a65c rfl rfl rfl (Tb_w1 hTb) (by decide +kernel) ⟨Nat.le_of_ble_eq_true rfl, Nat.le_of_ble_eq_true rfl⟩) ⟨fun a U g mk q => ⟨q.1, PB.blind q.2⟩, va_recv hKc hPc (ci := 2) (q0 := 0) rfl rfl, fun U hU hW => ⟨rfl, PB.call hPc hKc hDc hTb hZ hS hFc hU hW⟩⟩ rfl rfl hl.1 rfl (lv_room (Nat.le_of_ble_eq_true rfl)) dX10_algebra_24 ⟨Nat.le_of_ble_eq_true rfl, Nat.le_of_ble_eq_true rfl⟩) hS (fun q _ h => hFc q h) hFc (fun r u t H locs ht hvm hw hB hz1 hk1 hS => ?_)
  obtain ⟨hP, hD, hK⟩ := PE.join (wc := [(l1, .inr (2, [.int 0, .ref dE, .int 0]))]) (wr := [(h0, .inr (13, [.int 0, .int 7, .int 0, .ref l1, .ref l2])), (l2, .inr (2, [.int 0, .ref dE, .int 0]))]) (w1 := [(l1, .inr (2, [.int 0, .ref dE, .int 0]))]) (tr := []) (t1 := []) hP hD hK [1] [0, 2] [] rfl rfl rfl (by decide) (by decide) hk1 hFc ht hvm hB
  have hP : va_P (dC, dI) vwCl [(h0, .inr (13, [.int 0, .int 7, .int 0, .ref l1, .ref l2])), (l2, .inr (2, [.int 0, .ref dE, .int 0])), (l1, .inr (2, [.int 0, .ref dE, .int 0]))] H := hP
  have hD : va_D A [(h0, .inr (13, [.int 0, .int 7, .int 0, .ref l1, .ref l2])), (l2, .inr (2, [.int 0, .ref dE, .int 0])), (l1, .inr (2, [.int 0, .ref dE, .int 0]))] := hD
  have hK : va_K (dC, dI) vwCl [] s := hK
  subst hw
  refine lv_iconst (v := 4) hx hb dX10_algebra_29 (by decide) ?_
  refine lv_icmp_ne (tgt := 39) hx hb dX10_algebra_30 (by decide) (fun _ => ?_) (fun c9 => absurd c9 (by decide))
  refine lv_aload_n hx hb dX10_algebra_39 rfl (lv_at hl 0 rfl) ?_
  refine va_get (D := (dC, dI)) (ci := 13) (v := .ref l1) (C := RX10) (T := TX10) (N := 5) hx hb hts (by decide +kernel) hown hK hP 0 rfl rfl 3 (by decide) (hts (.fieldLink RX10 16 "VersorhallModel" "algebras" "Ljava/util/List;") (by decide +kernel)) (fun _ h9 => h9) rfl dX10_algebra_40 ?_
  refine va_new (ci := 11) (fs := [.int 0, .null, .null, .int 0, .null, .null]) (C := RX8) (T := TX8) (N := 6) hx hb hts (by decide +kernel) tyX8 tyX8_ok hown (hts (.classLink RX10 53 RX8) (by decide +kernel)) (hts (.instantiable RX8 6) (by decide +kernel)) (hts (.initialized RX8) (by decide +kernel)) hK hP hD hS hA rfl (fun j hj => by rcases (show j = 0 ∨ j = 1 ∨ j = 2 ∨ j = 3 ∨ j = 4 ∨ j = 5 by omega) with rfl | rfl | rfl | rfl | rfl | rfl <;> rfl) (Nat.le_of_ble_eq_true rfl) (Nat.le_of_ble_eq_true rfl) dX10_algebra_43 (fun q1 H hP hD hS => ?_)
  have hP : va_P (dC, dI) vwCl [(h0, .inr (13, [.int 0, .int 7, .int 0, .ref l1, .ref l2])), (l2, .inr (2, [.int 0, .ref dE, .int 0])), (l1, .inr (2, [.int 0, .ref dE, .int 0])), (q1, .inr (11, [.int 0, .null, .null, .int 0, .null, .null]))] H := hP
  have hD : va_D A [(h0, .inr (13, [.int 0, .int 7, .int 0, .ref l1, .ref l2])), (l2, .inr (2, [.int 0, .ref dE, .int 0])), (l1, .inr (2, [.int 0, .ref dE, .int 0])), (q1, .inr (11, [.int 0, .null, .null, .int 0, .null, .null]))] := hD
  refine W.widen (k := 1) (n := 6) (by omega) (by omega) ?_
  refine lv_dup hx hb dX10_algebra_46 rfl ?_
  refine lv_aload_n hx hb dX10_algebra_47 rfl (lv_at hl 0 rfl) ?_
  refine lv_iload_n hx hb dX10_algebra_48 rfl (lv_at hl 1 rfl) ?_
  have hPc := hP.sub (ws' := [(q1, .inr (11, [.int 0, .null, .null, .int 0, .null, .null]))]) [3] rfl
  have hDc := hD.sub (ws' := [(q1, .inr (11, [.int 0, .null, .null, .int 0, .null, .null]))]) [3] (by decide) rfl
  have hKc := hK.sub (tys' := []) [] rfl
  have hFc := va_free (wc := [(q1, .inr (11, [.int 0, .null, .null, .int 0, .null, .null]))]) hD hS hA [3] rfl
  refine va_callv (va_runI (As := [.ref h0, .int 0]) (rest := [.ref q1, .ref l1]) ⟨hx, hb, hml, hown, hts⟩ (c_MA_init l dC dI dE q1 h0 0 H.size) (cwI 2 hts gX10_algebra_X8_init rfl rfl rfl (hts (.initialized RX8) (by decide +kernel)) (hts (.methodLink RX10 61 yX8_init) (by decide +kernel)) (hts (.instanceMethod yX8_init) (by decide +kernel)) rfl (by decide +kernel) ⟨Nat.le_of_ble_eq_true rfl, Nat.le_of_ble_eq_true rfl⟩) ⟨fun a U g mk q => ⟨q.1, PB.blind q.2⟩, fun U hU hW => ⟨rfl, PB.call hPc hKc hDc hTb hZ hS hFc hU hW⟩⟩ rfl rfl hl.1 rfl (lv_room (Nat.le_of_ble_eq_true rfl)) dX10_algebra_49 ⟨Nat.le_of_ble_eq_true rfl, Nat.le_of_ble_eq_true rfl⟩) hS (fun q _ h => hFc q h) hFc (fun u t H locs ht hvm hw hB hz1 hk1 hS => ?_)
  obtain ⟨q2, q3, q4, hB⟩ := hB
  obtain ⟨hP, hD, hK⟩ := PE.join (wc := [(q1, .inr (11, [.int 0, .null, .null, .int 0, .null, .null]))]) (wr := [(h0, .inr (13, [.int 0, .int 7, .int 0, .ref l1, .ref l2])), (l2, .inr (2, [.int 0, .ref dE, .int 0])), (l1, .inr (2, [.int 0, .ref dE, .int 0]))]) (w1 := [(q1, .inr (11, [.int 0, .ref q2, .ref q3, .int 0, .ref q4, .ref h0]))]) (tr := []) (t1 := []) hP hD hK [3] [0, 1, 2] [] rfl rfl rfl (by decide) (by decide) hk1 hFc ht hvm hB
  have hP : va_P (dC, dI) vwCl [(h0, .inr (13, [.int 0, .int 7, .int 0, .ref l1, .ref l2])), (l2, .inr (2, [.int 0, .ref dE, .int 0])), (l1, .inr (2, [.int 0, .ref dE, .int 0])), (q1, .inr (11, [.int 0, .ref q2, .ref q3, .int 0, .ref q4, .ref h0]))] H := hP
  have hD : va_D A [(h0, .inr (13, [.int 0, .int 7, .int 0, .ref l1, .ref l2])), (l2, .inr (2, [.int 0, .ref dE, .int 0])), (l1, .inr (2, [.int 0, .ref dE, .int 0])), (q1, .inr (11, [.int 0, .ref q2, .ref q3, .int 0, .ref q4, .ref h0]))] := hD
  have hK : va_K (dC, dI) vwCl [] s := hK
  refine W.widen (k := 5) (n := 15) (by omega) (by omega) ?_
  have hPc := hP.sub (ws' := [(l1, .inr (2, [.int 0, .ref dE, .int 0])), (q1, .inr (11, [.int 0, .ref q2, .ref q3, .int 0, .ref q4, .ref h0]))]) [2, 3] rfl
  have hDc := hD.sub (ws' := [(l1, .inr (2, [.int 0, .ref dE, .int 0])), (q1, .inr (11, [.int 0, .ref q2, .ref q3, .int 0, .ref q4, .ref h0]))]) [2, 3] (by decide) rfl
  have hKc := hK.sub (tys' := []) [] rfl
  have hFc := va_free (wc := [(l1, .inr (2, [.int 0, .ref dE, .int 0])), (q1, .inr (11, [.int 0, .ref q2, .ref q3, .int 0, .ref q4, .ref h0]))]) hD hS hA [2, 3] rfl
  refine va_callFi (va_runF ((hK.1 2 _ rfl).2) (As := [.ref q1]) (rest := []) ⟨hx, hb, hml, hown, hts⟩ (c_List_add l dC dI dE l1 q1 0 q2 q3 q4 h0 H.size) (va_cwF 1 hts gX10_algebra_Jx4a65c_add_9ea2d_f64Jx4a65c rfl rfl rfl (Tb_w2 hTb) (by decide +kernel) ⟨Nat.le_of_ble_eq_true rfl, Nat.le_of_ble_eq_true rfl⟩) ⟨fun a U g mk q => ⟨q.1, PB.blind q.2⟩, va_recv hKc hPc (ci := 2) (q0 := 0) rfl rfl, fun U hU hW => ⟨rfl, PB.call hPc hKc hDc hTb hZ hS hFc hU hW⟩⟩ rfl rfl hl.1 rfl (lv_room (Nat.le_of_ble_eq_true rfl)) dX10_algebra_52 ⟨Nat.le_of_ble_eq_true rfl, Nat.le_of_ble_eq_true rfl⟩) hS (fun q _ h => hFc q h) hFc (fun r u t H locs ht hvm hw hB hz1 hk1 hS => ?_)
  obtain ⟨q5, hB⟩ := hB
  obtain ⟨hP, hD, hK⟩ := PE.join (wc := [(l1, .inr (2, [.int 0, .ref dE, .int 0])), (q1, .inr (11, [.int 0, .ref q2, .ref q3, .int 0, .ref q4, .ref h0]))]) (wr := [(h0, .inr (13, [.int 0, .int 7, .int 0, .ref l1, .ref l2])), (l2, .inr (2, [.int 0, .ref dE, .int 0]))]) (w1 := [(l1, .inr (2, [.int 1, .ref q5, .int 1]))]) (tr := []) (t1 := []) hP hD hK [2, 3] [0, 1] [] rfl rfl rfl (by decide) (by decide) hk1 hFc ht hvm hB
  have hP : va_P (dC, dI) vwCl [(h0, .inr (13, [.int 0, .int 7, .int 0, .ref l1, .ref l2])), (l2, .inr (2, [.int 0, .ref dE, .int 0])), (l1, .inr (2, [.int 1, .ref q5, .int 1]))] H := hP
  have hD : va_D A [(h0, .inr (13, [.int 0, .int 7, .int 0, .ref l1, .ref l2])), (l2, .inr (2, [.int 0, .ref dE, .int 0])), (l1, .inr (2, [.int 1, .ref q5, .int 1]))] := hD
  have hK : va_K (dC, dI) vwCl [] s := hK
  subst hw
  refine W.widen (k := 6) (n := 25) (by omega) (by omega) ?_
  refine lv_pop hx hb dX10_algebra_57 rfl ?_
  refine lv_aload_n hx hb dX10_algebra_58 rfl (lv_at hl 0 rfl) ?_
  refine va_get (D := (dC, dI)) (ci := 13) (v := .ref l1) (C := RX10) (T := TX10) (N := 5) hx hb hts (by decide +kernel) hown hK hP 0 rfl rfl 3 (by decide) (hts (.fieldLink RX10 16 "VersorhallModel" "algebras" "Ljava/util/List;") (by decide +kernel)) (fun _ h9 => h9) rfl dX10_algebra_59 ?_
  have hPc := hP.sub (ws' := [(l1, .inr (2, [.int 1, .ref q5, .int 1]))]) [2] rfl
  have hDc := hD.sub (ws' := [(l1, .inr (2, [.int 1, .ref q5, .int 1]))]) [2] (by decide) rfl
  have hKc := hK.sub (tys' := []) [] rfl
  have hFc := va_free (wc := [(l1, .inr (2, [.int 1, .ref q5, .int 1]))]) hD hS hA [2] rfl
  refine va_callFi (va_runF ((hK.1 2 _ rfl).2) (As := []) (rest := []) ⟨hx, hb, hml, hown, hts⟩ (c_List_size l dC dI dE l1 1 q5 1 H.size) (va_cwF 0 hts gX10_algebra_Jx4a65c_size_8abf5_f30Jx4a65c rfl rfl rfl (Tb_w1 hTb) (by decide +kernel) ⟨Nat.le_of_ble_eq_true rfl, Nat.le_of_ble_eq_true rfl⟩) ⟨fun a U g mk q => ⟨q.1, PB.blind q.2⟩, va_recv hKc hPc (ci := 2) (q0 := 0) rfl rfl, fun U hU hW => ⟨rfl, PB.call hPc hKc hDc hTb hZ hS hFc hU hW⟩⟩ rfl rfl hl.1 rfl (lv_room (Nat.le_of_ble_eq_true rfl)) dX10_algebra_62 ⟨Nat.le_of_ble_eq_true rfl, Nat.le_of_ble_eq_true rfl⟩) hS (fun q _ h => hFc q h) hFc (fun r u t H locs ht hvm hw hB hz1 hk1 hS => ?_)
  obtain ⟨hP, hD, hK⟩ := PE.join (wc := [(l1, .inr (2, [.int 1, .ref q5, .int 1]))]) (wr := [(h0, .inr (13, [.int 0, .int 7, .int 0, .ref l1, .ref l2])), (l2, .inr (2, [.int 0, .ref dE, .int 0]))]) (w1 := [(l1, .inr (2, [.int 1, .ref q5, .int 1]))]) (tr := []) (t1 := []) hP hD hK [2] [0, 1] [] rfl rfl rfl (by decide) (by decide) hk1 hFc ht hvm hB
  have hP : va_P (dC, dI) vwCl [(h0, .inr (13, [.int 0, .int 7, .int 0, .ref l1, .ref l2])), (l2, .inr (2, [.int 0, .ref dE, .int 0])), (l1, .inr (2, [.int 1, .ref q5, .int 1]))] H := hP
  have hD : va_D A [(h0, .inr (13, [.int 0, .int 7, .int 0, .ref l1, .ref l2])), (l2, .inr (2, [.int 0, .ref dE, .int 0])), (l1, .inr (2, [.int 1, .ref q5, .int 1]))] := hD
  have hK : va_K (dC, dI) vwCl [] s := hK
  subst hw
  refine lv_iconst (v := 1) hx hb dX10_algebra_67 (by decide) ?_
  refine lv_isub hx hb dX10_algebra_68 ?_
  refine lv_topi (fun f6 ef6 => ?_)
  obtain rfl : f6 = 0 := ef6.trans (by decide)
  have hP9 := hP.sub (ws' := [(h0, .inr (13, [.int 0, .int 7, .int 0, .ref l1, .ref l2]))]) [0] rfl
  have hD9 := hD.sub (ws' := [(h0, .inr (13, [.int 0, .int 7, .int 0, .ref l1, .ref l2]))]) [0] (by decide) rfl
  have hK9 := hK.sub (tys' := []) [] rfl
  refine W.widen (k := 6) (n := 25) (Nat.le_of_ble_eq_true rfl) (Nat.le_of_ble_eq_true rfl) ?_
  exact W.iret (v := 0) hx hb hr (fun t ht hW => ⟨⟨_, (), rfl, rfl, PE.mk hP9 hK9 hD9 ht hW⟩, hS.F ht⟩) hS.2.2 dX10_algebra_69

set_option maxHeartbeats 4000000 in
set_option maxRecDepth 100000 in
/-- c_M_algebra_1 -/
theorem c_M_algebra_1 (l : Launch) (dC : Nat → ClassId) (dI : Nat → Nat → Nat) (dE : Nat) (h0 : Nat) (l1 : Nat) (l2 : Nat) (sz : Nat) : Met l yX10_algebra wsX10_algebra ({ frames := 5, cells := 6, slots := 25, locals := 127 }) (va_Pc [.ref h0, .int 1] (PB dC dI dE [] [(h0, .inr (13, [.int 0, .int 7, .int 0, .ref l1, .ref l2])), (l1, .inr (2, [.int 0, .ref dE, .int 0])), (l2, .inr (2, [.int 0, .ref dE, .int 0]))] sz)) (va_Qi (fun (r : Int32) (_ : Unit) => r = 0) (fun (_ : Unit) (t : State) => PE dC dI [] [(h0, .inr (13, [.int 0, .int 7, .int 0, .ref l1, .ref l2]))] (va_A [(h0, .inr (13, [.int 0, .int 7, .int 0, .ref l1, .ref l2])), (l1, .inr (2, [.int 0, .ref dE, .int 0])), (l2, .inr (2, [.int 0, .ref dE, .int 0]))] sz) t) (va_A [(h0, .inr (13, [.int 0, .int 7, .int 0, .ref l1, .ref l2])), (l1, .inr (2, [.int 0, .ref dE, .int 0])), (l2, .inr (2, [.int 0, .ref dE, .int 0]))] sz)) 6 25 (va_A [(h0, .inr (13, [.int 0, .int 7, .int 0, .ref l1, .ref l2])), (l1, .inr (2, [.int 0, .ref dE, .int 0])), (l2, .inr (2, [.int 0, .ref dE, .int 0]))] sz) := by
  refine Met.ofW (cc := cX10_algebra) (maxL := 2) (ret := (some .int)) (by decide) rfl ?_
  intro p e s m args below meth c s₁ B hml hv
  obtain ⟨rfl, hsz, hP, hK, hD0, hTb, hZ⟩ := hv
  have hx := B.exec
  have hb := B.bytes
  have hr := B.returns
  have hts := atoms_spec (ws := wsX10_algebra) B.pre
  have hown : s.vm.findClass RX10 = some m.cls := findClass_of_methodNamed B.named
  have hlocks := B.notSynchronized
  subst hsz
  have hD := hD0.self (sz := s.heap.size)
  generalize hAe : va_A [(h0, .inr (13, [.int 0, .int 7, .int 0, .ref l1, .ref l2])), (l1, .inr (2, [.int 0, .ref dE, .int 0])), (l2, .inr (2, [.int 0, .ref dE, .int 0]))] s.heap.size = A at hD hZ ⊢
  have hA : ∀ q : Nat, s.heap.size ≤ q → A q := fun q h => by rw [← hAe]; exact Or.inr h
  have hS : va_S A s.heap s.heap [] := va_S.rf
  have hP : va_P (dC, dI) vwCl [(h0, .inr (13, [.int 0, .int 7, .int 0, .ref l1, .ref l2])), (l1, .inr (2, [.int 0, .ref dE, .int 0])), (l2, .inr (2, [.int 0, .ref dE, .int 0]))] s.heap := hP
  have hl := lv_entry ([.ref h0, .int 1]) (n := 2) (Nat.le_of_ble_eq_true rfl)
  rw [lg_entry_eq]
  generalize (lg_sl ([.ref h0, .int 1]) ++ List.replicate (2 - (lg_sl ([.ref h0, .int 1])).length) Slot.unset).toArray = ls at hl ⊢
  have hl : lv_has ls 2 [(0, .ref h0), (1, .int 1)] := hl
  obtain ⟨H, eH⟩ : ∃ z, z = s.heap := ⟨_, rfl⟩
  rw [← eH] at hP ⊢
  have hS : va_S A s.heap H [] := by rw [eH]; exact va_S.rf
  refine lv_aload_n hx hb dX10_algebra_0 rfl (lv_at hl 0 rfl) ?_
  refine lv_iconst (v := 0) hx hb dX10_algebra_1 (by decide) ?_
  refine va_put (D := (dC, dI)) (ci := 13) (v := .int 0) (ty := .int) (C := RX10) (T := TX10) (N := 5) hx hb hts (by decide +kernel) tyX10 tyX10_ok nmX10 hown hK hP hD hS 0 rfl rfl 0 (by decide) (hts (.fieldLink RX10 23 "VersorhallModel" "thrown" "I") (by decide +kernel)) (fun _ h9 => h9) rfl (by decide +kernel) rfl rfl (Nat.le_of_ble_eq_true rfl) dX10_algebra_2 (fun H locs hP hD hS => ?_)
  have hP : va_P (dC, dI) vwCl [(h0, .inr (13, [.int 0, .int 7, .int 0, .ref l1, .ref l2])), (l1, .inr (2, [.int 0, .ref dE, .int 0])), (l2, .inr (2, [.int 0, .ref dE, .int 0]))] H := hP
  have hD : va_D A [(h0, .inr (13, [.int 0, .int 7, .int 0, .ref l1, .ref l2])), (l1, .inr (2, [.int 0, .ref dE, .int 0])), (l2, .inr (2, [.int 0, .ref dE, .int 0]))] := hD
  refine lv_iload_n hx hb dX10_algebra_5 rfl (lv_at hl 1 rfl) ?_
  refine lv_iconst (v := 0) hx hb dX10_algebra_6 (by decide) ?_
  refine lv_iconst (v := 1) hx hb dX10_algebra_7 (by decide) ?_
  have hPc := hP.sub (ws' := []) [] rfl
  have hDc := hD.sub (ws' := []) [] (by decide) rfl
  have hKc := hK.sub (tys' := []) [] rfl
  have hFc := va_free (wc := []) hD hS hA [] rfl
  refine va_calli (va_runS (As := [.int 1, .int 0, .int 1]) (rest := []) ⟨hx, hb, hml, hown, hts⟩ (c_M_in_1_1 l dC dI dE H.size) (va_cwS 3 hts gX10_algebra_X10_in rfl rfl rfl (by decide +kernel) ⟨Nat.le_of_ble_eq_true rfl, Nat.le_of_ble_eq_true rfl⟩) ⟨fun a U g mk q => ⟨q.1, PB.blind q.2⟩, fun U hU hW => ⟨rfl, PB.call hPc hKc hDc hTb hZ hS hFc hU hW⟩⟩ rfl rfl hl.1 rfl (lv_room (Nat.le_of_ble_eq_true rfl)) dX10_algebra_8 ⟨Nat.le_of_ble_eq_true rfl, Nat.le_of_ble_eq_true rfl⟩) hS (fun q _ h => hFc q h) hFc (fun r u t H locs ht hvm hw hB hz1 hk1 hS => ?_)
  obtain ⟨hP, hD, hK⟩ := PE.join (wc := []) (wr := [(h0, .inr (13, [.int 0, .int 7, .int 0, .ref l1, .ref l2])), (l1, .inr (2, [.int 0, .ref dE, .int 0])), (l2, .inr (2, [.int 0, .ref dE, .int 0]))]) (w1 := []) (tr := []) (t1 := []) hP hD hK [] [0, 1, 2] [] rfl rfl rfl (by decide) (by decide) hk1 hFc ht hvm hB
  have hP : va_P (dC, dI) vwCl [(h0, .inr (13, [.int 0, .int 7, .int 0, .ref l1, .ref l2])), (l1, .inr (2, [.int 0, .ref dE, .int 0])), (l2, .inr (2, [.int 0, .ref dE, .int 0]))] H := hP
  have hD : va_D A [(h0, .inr (13, [.int 0, .int 7, .int 0, .ref l1, .ref l2])), (l1, .inr (2, [.int 0, .ref dE, .int 0])), (l2, .inr (2, [.int 0, .ref dE, .int 0]))] := hD
  have hK : va_K (dC, dI) vwCl [] s := hK
  subst hw
  refine lv_if_ne (tgt := 20) hx hb dX10_algebra_11 (by decide) (fun _ => ?_) (fun c9 => absurd c9 (by decide))
  refine lv_aload_n hx hb dX10_algebra_20 rfl (lv_at hl 0 rfl) ?_
  refine va_get (D := (dC, dI)) (ci := 13) (v := .ref l1) (C := RX10) (T := TX10) (N := 5) hx hb hts (by decide +kernel) hown hK hP 0 rfl rfl 3 (by decide) (hts (.fieldLink RX10 16 "VersorhallModel" "algebras" "Ljava/util/List;") (by decide +kernel)) (fun _ h9 => h9) rfl dX10_algebra_21 ?_
  have hPc := hP.sub (ws' := [(l1, .inr (2, [.int 0, .ref dE, .int 0]))]) [1] rfl
  have hDc := hD.sub (ws' := [(l1, .inr (2, [.int 0, .ref dE, .int 0]))]) [1] (by decide) rfl
  have hKc := hK.sub (tys' := []) [] rfl
  have hFc := va_free (wc := [(l1, .inr (2, [.int 0, .ref dE, .int 0]))]) hD hS hA [1] rfl
  refine va_callFi (va_runF ((hK.1 2 _ rfl).2) (As := []) (rest := []) ⟨hx, hb, hml, hown, hts⟩ (c_List_size l dC dI dE l1 0 dE 0 H.size) (va_cwF 0 hts gX10_algebra_Jx4a65c_size_8abf5_f30Jx4a65c rfl rfl rfl (Tb_w1 hTb) (by decide +kernel) ⟨Nat.le_of_ble_eq_true rfl, Nat.le_of_ble_eq_true rfl⟩) ⟨fun a U g mk q => ⟨q.1, PB.blind q.2⟩, va_recv hKc hPc (ci := 2) (q0 := 0) rfl rfl, fun U hU hW => ⟨rfl, PB.call hPc hKc hDc hTb hZ hS hFc hU hW⟩⟩ rfl rfl hl.1 rfl (lv_room (Nat.le_of_ble_eq_true rfl)) dX10_algebra_24 ⟨Nat.le_of_ble_eq_true rfl, Nat.le_of_ble_eq_true rfl⟩) hS (fun q _ h => hFc q h) hFc (fun r u t H locs ht hvm hw hB hz1 hk1 hS => ?_)
  obtain ⟨hP, hD, hK⟩ := PE.join (wc := [(l1, .inr (2, [.int 0, .ref dE, .int 0]))]) (wr := [(h0, .inr (13, [.int 0, .int 7, .int 0, .ref l1, .ref l2])), (l2, .inr (2, [.int 0, .ref dE, .int 0]))]) (w1 := [(l1, .inr (2, [.int 0, .ref dE, .int 0]))]) (tr := []) (t1 := []) hP hD hK [1] [0, 2] [] rfl rfl rfl (by decide) (by decide) hk1 hFc ht hvm hB
  have hP : va_P (dC, dI) vwCl [(h0, .inr (13, [.int 0, .int 7, .int 0, .ref l1, .ref l2])), (l2, .inr (2, [.int 0, .ref dE, .int 0])), (l1, .inr (2, [.int 0, .ref dE, .int 0]))] H := hP
  have hD : va_D A [(h0, .inr (13, [.int 0, .int 7, .int 0, .ref l1, .ref l2])), (l2, .inr (2, [.int 0, .ref dE, .int 0])), (l1, .inr (2, [.int 0, .ref dE, .int 0]))] := hD
  have hK : va_K (dC, dI) vwCl [] s := hK
  subst hw
  refine lv_iconst (v := 4) hx hb dX10_algebra_29 (by decide) ?_
  refine lv_icmp_ne (tgt := 39) hx hb dX10_algebra_30 (by decide) (fun _ => ?_) (fun c9 => absurd c9 (by decide))
  refine lv_aload_n hx hb dX10_algebra_39 rfl (lv_at hl 0 rfl) ?_
  refine va_get (D := (dC, dI)) (ci := 13) (v := .ref l1) (C := RX10) (T := TX10) (N := 5) hx hb hts (by decide +kernel) hown hK hP 0 rfl rfl 3 (by decide) (hts (.fieldLink RX10 16 "VersorhallModel" "algebras" "Ljava/util/List;") (by decide +kernel)) (fun _ h9 => h9) rfl dX10_algebra_40 ?_
  refine va_new (ci := 11) (fs := [.int 0, .null, .null, .int 0, .null, .null]) (C := RX8) (T := TX8) (N := 6) hx hb hts (by decide +kernel) tyX8 tyX8_ok hown (hts (.classLink RX10 53 RX8) (by decide +kernel)) (hts (.instantiable RX8 6) (by decide +kernel)) (hts (.initialized RX8) (by decide +kernel)) hK hP hD hS hA rfl (fun j hj => by rcases (show j = 0 ∨ j = 1 ∨ j = 2 ∨ j = 3 ∨ j = 4 ∨ j = 5 by omega) with rfl | rfl | rfl | rfl | rfl | rfl <;> rfl) (Nat.le_of_ble_eq_true rfl) (Nat.le_of_ble_eq_true rfl) dX10_algebra_43 (fun q1 H hP hD hS => ?_)
  have hP : va_P (dC, dI) vwCl [(h0, .inr (13, [.int 0, .int 7, .int 0, .ref l1, .ref l2])), (l2, .inr (2, [.int 0, .ref dE, .int 0])), (l1, .inr (2, [.int 0, .ref dE, .int 0])), (q1, .inr (11, [.int 0, .null, .null, .int 0, .null, .null]))] H := hP
  have hD : va_D A [(h0, .inr (13, [.int 0, .int 7, .int 0, .ref l1, .ref l2])), (l2, .inr (2, [.int 0, .ref dE, .int 0])), (l1, .inr (2, [.int 0, .ref dE, .int 0])), (q1, .inr (11, [.int 0, .null, .null, .int 0, .null, .null]))] := hD
  refine W.widen (k := 1) (n := 6) (by omega) (by omega) ?_
  refine lv_dup hx hb dX10_algebra_46 rfl ?_
  refine lv_aload_n hx hb dX10_algebra_47 rfl (lv_at hl 0 rfl) ?_
  refine lv_iload_n hx hb dX10_algebra_48 rfl (lv_at hl 1 rfl) ?_
  have hPc := hP.sub (ws' := [(q1, .inr (11, [.int 0, .null, .null, .int 0, .null, .null]))]) [3] rfl
  have hDc := hD.sub (ws' := [(q1, .inr (11, [.int 0, .null, .null, .int 0, .null, .null]))]) [3] (by decide) rfl
  have hKc := hK.sub (tys' := []) [] rfl
  have hFc := va_free (wc := [(q1, .inr (11, [.int 0, .null, .null, .int 0, .null, .null]))]) hD hS hA [3] rfl
  refine va_callv (va_runI (As := [.ref h0, .int 1]) (rest := [.ref q1, .ref l1]) ⟨hx, hb, hml, hown, hts⟩ (c_MA_init l dC dI dE q1 h0 1 H.size) (cwI 2 hts gX10_algebra_X8_init rfl rfl rfl (hts (.initialized RX8) (by decide +kernel)) (hts (.methodLink RX10 61 yX8_init) (by decide +kernel)) (hts (.instanceMethod yX8_init) (by decide +kernel)) rfl (by decide +kernel) ⟨Nat.le_of_ble_eq_true rfl, Nat.le_of_ble_eq_true rfl⟩) ⟨fun a U g mk q => ⟨q.1, PB.blind q.2⟩, fun U hU hW => ⟨rfl, PB.call hPc hKc hDc hTb hZ hS hFc hU hW⟩⟩ rfl rfl hl.1 rfl (lv_room (Nat.le_of_ble_eq_true rfl)) dX10_algebra_49 ⟨Nat.le_of_ble_eq_true rfl, Nat.le_of_ble_eq_true rfl⟩) hS (fun q _ h => hFc q h) hFc (fun u t H locs ht hvm hw hB hz1 hk1 hS => ?_)
  obtain ⟨q2, q3, q4, hB⟩ := hB
  obtain ⟨hP, hD, hK⟩ := PE.join (wc := [(q1, .inr (11, [.int 0, .null, .null, .int 0, .null, .null]))]) (wr := [(h0, .inr (13, [.int 0, .int 7, .int 0, .ref l1, .ref l2])), (l2, .inr (2, [.int 0, .ref dE, .int 0])), (l1, .inr (2, [.int 0, .ref dE, .int 0]))]) (w1 := [(q1, .inr (11, [.int 1, .ref q2, .ref q3, .int 0, .ref q4, .ref h0]))]) (tr := []) (t1 := []) hP hD hK [3] [0, 1, 2] [] rfl rfl rfl (by decide) (by decide) hk1 hFc ht hvm hB
  have hP : va_P (dC, dI) vwCl [(h0, .inr (13, [.int 0, .int 7, .int 0, .ref l1, .ref l2])), (l2, .inr (2, [.int 0, .ref dE, .int 0])), (l1, .inr (2, [.int 0, .ref dE, .int 0])), (q1, .inr (11, [.int 1, .ref q2, .ref q3, .int 0, .ref q4, .ref h0]))] H := hP
  have hD : va_D A [(h0, .inr (13, [.int 0, .int 7, .int 0, .ref l1, .ref l2])), (l2, .inr (2, [.int 0, .ref dE, .int 0])), (l1, .inr (2, [.int 0, .ref dE, .int 0])), (q1, .inr (11, [.int 1, .ref q2, .ref q3, .int 0, .ref q4, .ref h0]))] := hD
  have hK : va_K (dC, dI) vwCl [] s := hK
  refine W.widen (k := 5) (n := 15) (by omega) (by omega) ?_
  have hPc := hP.sub (ws' := [(l1, .inr (2, [.int 0, .ref dE, .int 0])), (q1, .inr (11, [.int 1, .ref q2, .ref q3, .int 0, .ref q4, .ref h0]))]) [2, 3] rfl
  have hDc := hD.sub (ws' := [(l1, .inr (2, [.int 0, .ref dE, .int 0])), (q1, .inr (11, [.int 1, .ref q2, .ref q3, .int 0, .ref q4, .ref h0]))]) [2, 3] (by decide) rfl
  have hKc := hK.sub (tys' := []) [] rfl
  have hFc := va_free (wc := [(l1, .inr (2, [.int 0, .ref dE, .int 0])), (q1, .inr (11, [.int 1, .ref q2, .ref q3, .int 0, .ref q4, .ref h0]))]) hD hS hA [2, 3] rfl
  refine va_callFi (va_runF ((hK.1 2 _ rfl).2) (As := [.ref q1]) (rest := []) ⟨hx, hb, hml, hown, hts⟩ (c_List_add l dC dI dE l1 q1 1 q2 q3 q4 h0 H.size) (va_cwF 1 hts gX10_algebra_Jx4a65c_add_9ea2d_f64Jx4a65c rfl rfl rfl (Tb_w2 hTb) (by decide +kernel) ⟨Nat.le_of_ble_eq_true rfl, Nat.le_of_ble_eq_true rfl⟩) ⟨fun a U g mk q => ⟨q.1, PB.blind q.2⟩, va_recv hKc hPc (ci := 2) (q0 := 0) rfl rfl, fun U hU hW => ⟨rfl, PB.call hPc hKc hDc hTb hZ hS hFc hU hW⟩⟩ rfl rfl hl.1 rfl (lv_room (Nat.le_of_ble_eq_true rfl)) dX10_algebra_52 ⟨Nat.le_of_ble_eq_true rfl, Nat.le_of_ble_eq_true rfl⟩) hS (fun q _ h => hFc q h) hFc (fun r u t H locs ht hvm hw hB hz1 hk1 hS => ?_)
  obtain ⟨q5, hB⟩ := hB
  obtain ⟨hP, hD, hK⟩ := PE.join (wc := [(l1, .inr (2, [.int 0, .ref dE, .int 0])), (q1, .inr (11, [.int 1, .ref q2, .ref q3, .int 0, .ref q4, .ref h0]))]) (wr := [(h0, .inr (13, [.int 0, .int 7, .int 0, .ref l1, .ref l2])), (l2, .inr (2, [.int 0, .ref dE, .int 0]))]) (w1 := [(l1, .inr (2, [.int 1, .ref q5, .int 1]))]) (tr := []) (t1 := []) hP hD hK [2, 3] [0, 1] [] rfl rfl rfl (by decide) (by decide) hk1 hFc ht hvm hB
  have hP : va_P (dC, dI) vwCl [(h0, .inr (13, [.int 0, .int 7, .int 0, .ref l1, .ref l2])), (l2, .inr (2, [.int 0, .ref dE, .int 0])), (l1, .inr (2, [.int 1, .ref q5, .int 1]))] H := hP
  have hD : va_D A [(h0, .inr (13, [.int 0, .int 7, .int 0, .ref l1, .ref l2])), (l2, .inr (2, [.int 0, .ref dE, .int 0])), (l1, .inr (2, [.int 1, .ref q5, .int 1]))] := hD
  have hK : va_K (dC, dI) vwCl [] s := hK
  subst hw
  refine W.widen (k := 6) (n := 25) (by omega) (by omega) ?_
  refine lv_pop hx hb dX10_algebra_57 rfl ?_
  refine lv_aload_n hx hb dX10_algebra_58 rfl (lv_at hl 0 rfl) ?_
  refine va_get (D := (dC, dI)) (ci := 13) (v := .ref l1) (C := RX10) (T := TX10) (N := 5) hx hb hts (by decide +kernel) hown hK hP 0 rfl rfl 3 (by decide) (hts (.fieldLink RX10 16 "VersorhallModel" "algebras" "Ljava/util/List;") (by decide +kernel)) (fun _ h9 => h9) rfl dX10_algebra_59 ?_
  have hPc := hP.sub (ws' := [(l1, .inr (2, [.int 1, .ref q5, .int 1]))]) [2] rfl
  have hDc := hD.sub (ws' := [(l1, .inr (2, [.int 1, .ref q5, .int 1]))]) [2] (by decide) rfl
  have hKc := hK.sub (tys' := []) [] rfl
  have hFc := va_free (wc := [(l1, .inr (2, [.int 1, .ref q5, .int 1]))]) hD hS hA [2] rfl
  refine va_callFi (va_runF ((hK.1 2 _ rfl).2) (As := []) (rest := []) ⟨hx, hb, hml, hown, hts⟩ (c_List_size l dC dI dE l1 1 q5 1 H.size) (va_cwF 0 hts gX10_algebra_Jx4a65c_size_8abf5_f30Jx4a65c rfl rfl rfl (Tb_w1 hTb) (by decide +kernel) ⟨Nat.le_of_ble_eq_true rfl, Nat.le_of_ble_eq_true rfl⟩) ⟨fun a U g mk q => ⟨q.1, PB.blind q.2⟩, va_recv hKc hPc (ci := 2) (q0 := 0) rfl rfl, fun U hU hW => ⟨rfl, PB.call hPc hKc hDc hTb hZ hS hFc hU hW⟩⟩ rfl rfl hl.1 rfl (lv_room (Nat.le_of_ble_eq_true rfl)) dX10_algebra_62 ⟨Nat.le_of_ble_eq_true rfl, Nat.le_of_ble_eq_true rfl⟩) hS (fun q _ h => hFc q h) hFc (fun r u t H locs ht hvm hw hB hz1 hk1 hS => ?_)
  obtain ⟨hP, hD, hK⟩ := PE.join (wc := [(l1, .inr (2, [.int 1, .ref q5, .int 1]))]) (wr := [(h0, .inr (13, [.int 0, .int 7, .int 0, .ref l1, .ref l2])), (l2, .inr (2, [.int 0, .ref dE, .int 0]))]) (w1 := [(l1, .inr (2, [.int 1, .ref q5, .int 1]))]) (tr := []) (t1 := []) hP hD hK [2] [0, 1] [] rfl rfl rfl (by decide) (by decide) hk1 hFc ht hvm hB
  have hP : va_P (dC, dI) vwCl [(h0, .inr (13, [.int 0, .int 7, .int 0, .ref l1, .ref l2])), (l2, .inr (2, [.int 0, .ref dE, .int 0])), (l1, .inr (2, [.int 1, .ref q5, .int 1]))] H := hP
  have hD : va_D A [(h0, .inr (13, [.int 0, .int 7, .int 0, .ref l1, .ref l2])), (l2, .inr (2, [.int 0, .ref dE, .int 0])), (l1, .inr (2, [.int 1, .ref q5, .int 1]))] := hD
  have hK : va_K (dC, dI) vwCl [] s := hK
  subst hw
  refine lv_iconst (v := 1) hx hb dX10_algebra_67 (by decide) ?_
  refine lv_isub hx hb dX10_algebra_68 ?_
  refine lv_topi (fun f6 ef6 => ?_)
  obtain rfl : f6 = 0 := ef6.trans (by decide)
  have hP9 := hP.sub (ws' := [(h0, .inr (13, [.int 0, .int 7, .int 0, .ref l1, .ref l2]))]) [0] rfl
  have hD9 := hD.sub (ws' := [(h0, .inr (13, [.int 0, .int 7, .int 0, .ref l1, .ref l2]))]) [0] (by decide) rfl
  have hK9 := hK.sub (tys' := []) [] rfl
  refine W.widen (k := 6) (n := 25) (Nat.le_of_ble_eq_true rfl) (Nat.le_of_ble_eq_true rfl) ?_
  exact W.iret (v := 0) hx hb hr (fun t ht hW => ⟨⟨_, (), rfl, rfl, PE.mk hP9 hK9 hD9 ht hW⟩, hS.F ht⟩) hS.2.2 dX10_algebra_69

