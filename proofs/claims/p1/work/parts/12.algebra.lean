def wsX0_putSign : List Cond := .code yX0_putSign cX0_putSign 5 none :: ([.fieldLink RX0 32 "Versorhall$Algebra" "signs" "[I"] ++ wsX00)
theorem dX0_putSign_0 : decode cX0_putSign 0 = .ok (.iload_n 1, 1) := by decide +kernel
theorem dX0_putSign_1 : decode cX0_putSign 1 = .ok (.bipush 16, 2) := by decide +kernel
theorem dX0_putSign_3 : decode cX0_putSign 3 = .ok (.imul, 1) := by decide +kernel
theorem dX0_putSign_4 : decode cX0_putSign 4 = .ok (.iload_n 2, 1) := by decide +kernel
theorem dX0_putSign_5 : decode cX0_putSign 5 = .ok (.iadd, 1) := by decide +kernel
theorem dX0_putSign_6 : decode cX0_putSign 6 = .ok (.istore 4, 2) := by decide +kernel
theorem dX0_putSign_8 : decode cX0_putSign 8 = .ok (.iload 4, 2) := by decide +kernel
theorem dX0_putSign_10 : decode cX0_putSign 10 = .ok (.ifCond .lt 21, 3) := by decide +kernel
theorem dX0_putSign_13 : decode cX0_putSign 13 = .ok (.iload 4, 2) := by decide +kernel
theorem dX0_putSign_15 : decode cX0_putSign 15 = .ok (.aload_n 0, 1) := by decide +kernel
theorem dX0_putSign_16 : decode cX0_putSign 16 = .ok (.getfield 32, 3) := by decide +kernel
theorem dX0_putSign_19 : decode cX0_putSign 19 = .ok (.arraylength, 1) := by decide +kernel
theorem dX0_putSign_20 : decode cX0_putSign 20 = .ok (.if_icmp .ge 11, 3) := by decide +kernel
theorem dX0_putSign_23 : decode cX0_putSign 23 = .ok (.aload_n 0, 1) := by decide +kernel
theorem dX0_putSign_24 : decode cX0_putSign 24 = .ok (.getfield 32, 3) := by decide +kernel
theorem dX0_putSign_27 : decode cX0_putSign 27 = .ok (.iload 4, 2) := by decide +kernel
theorem dX0_putSign_29 : decode cX0_putSign 29 = .ok (.iload_n 3, 1) := by decide +kernel
theorem dX0_putSign_30 : decode cX0_putSign 30 = .ok (.iastore, 1) := by decide +kernel
theorem dX0_putSign_31 : decode cX0_putSign 31 = .ok (.return_, 1) := by decide +kernel
def wsX0_forgetBreaks : List Cond := .code yX0_forgetBreaks cX0_forgetBreaks 2 none :: ([.fieldLink RX0 35 "Versorhall$Algebra" "firstBreaks" "[I"] ++ wsX00)
theorem dX0_forgetBreaks_0 : decode cX0_forgetBreaks 0 = .ok (.iconst 0, 1) := by decide +kernel
theorem dX0_forgetBreaks_1 : decode cX0_forgetBreaks 1 = .ok (.istore_n 1, 1) := by decide +kernel
theorem dX0_forgetBreaks_2 : decode cX0_forgetBreaks 2 = .ok (.iload_n 1, 1) := by decide +kernel
theorem dX0_forgetBreaks_3 : decode cX0_forgetBreaks 3 = .ok (.aload_n 0, 1) := by decide +kernel
theorem dX0_forgetBreaks_4 : decode cX0_forgetBreaks 4 = .ok (.getfield 35, 3) := by decide +kernel
theorem dX0_forgetBreaks_7 : decode cX0_forgetBreaks 7 = .ok (.arraylength, 1) := by decide +kernel
theorem dX0_forgetBreaks_8 : decode cX0_forgetBreaks 8 = .ok (.if_icmp .ge 17, 3) := by decide +kernel
theorem dX0_forgetBreaks_11 : decode cX0_forgetBreaks 11 = .ok (.aload_n 0, 1) := by decide +kernel
theorem dX0_forgetBreaks_12 : decode cX0_forgetBreaks 12 = .ok (.getfield 35, 3) := by decide +kernel
theorem dX0_forgetBreaks_15 : decode cX0_forgetBreaks 15 = .ok (.iload_n 1, 1) := by decide +kernel
theorem dX0_forgetBreaks_16 : decode cX0_forgetBreaks 16 = .ok (.bipush (-2), 2) := by decide +kernel
theorem dX0_forgetBreaks_18 : decode cX0_forgetBreaks 18 = .ok (.iastore, 1) := by decide +kernel
theorem dX0_forgetBreaks_19 : decode cX0_forgetBreaks 19 = .ok (.iinc 1 1, 3) := by decide +kernel
theorem dX0_forgetBreaks_22 : decode cX0_forgetBreaks 22 = .ok (.goto (-20), 3) := by decide +kernel
theorem dX0_forgetBreaks_25 : decode cX0_forgetBreaks 25 = .ok (.return_, 1) := by decide +kernel
def wsX0_init_r1 : List Cond := [Cond.methodLink RX0 3 objectInit, Cond.instanceMethod objectInit, Cond.code objectInit ⟨#[0xb1]⟩ 1 none, Cond.fieldLink RX0 9 "Versorhall$Algebra" "dialCount" "I", Cond.fieldLink RX0 15 "Versorhall$Algebra" "units" "I", Cond.fieldLink RX0 18 "Versorhall$Algebra" "elementCount" "I", Cond.classLink RX0 21 RX3, Cond.instantiable RX3 2, Cond.initialized RX3, Cond.fieldLink RX0 24 "Versorhall$Algebra" "mirrors" "LVersorhall$Pile;", Cond.arrayClass .int, Cond.fieldLink RX0 28 "Versorhall$Algebra" "dials" "[I", Cond.fieldLink RX0 32 "Versorhall$Algebra" "signs" "[I", Cond.fieldLink RX0 35 "Versorhall$Algebra" "firstBreaks" "[I", Cond.classLink RX0 38 RX4, Cond.instantiable RX4 1, Cond.initialized RX4, Cond.fieldLink RX0 41 "Versorhall$Algebra" "gathered" "LVersorhall$Row;", Cond.fieldLink RX0 45 "Versorhall$Algebra" "number" "I", Cond.fieldLink RX0 48 "Versorhall$Algebra" "kind" "I", Cond.fieldLink RX0 51 "Versorhall$Algebra" "prime" "I", Cond.methodLink RX0 23 yX3_init, Cond.instanceMethod yX3_init, Cond.code yX3_init cX3_init 2 none]
def wsX0_init_r2 : List Cond := [Cond.methodLink RX3 3 objectInit, Cond.classLink RX3 9 RX4, Cond.fieldLink RX3 11 "Versorhall$Pile" "rows" "[LVersorhall$Row;", Cond.fieldLink RX3 17 "Versorhall$Pile" "height" "I", Cond.instanceMethod yX4_init, Cond.code yX4_init cX4_init 1 none, Cond.methodLink RX4 3 objectInit, Cond.fieldLink RX4 9 "Versorhall$Row" "numbers" "[I", Cond.methodLink RX0 54 yX0_putSign, Cond.instanceMethod yX0_putSign, Cond.selects RX0 yX0_putSign yX0_putSign, Cond.initialized RX0, Cond.code yX0_putSign cX0_putSign 5 none, Cond.methodLink RX0 58 yX0_forgetBreaks, Cond.instanceMethod yX0_forgetBreaks, Cond.selects RX0 yX0_forgetBreaks yX0_forgetBreaks, Cond.code yX0_forgetBreaks cX0_forgetBreaks 2 none]
def wsX0_init : List Cond := .code yX0_init cX0_init 4 none :: ((wsX0_init_r1 ++ wsX0_init_r2) ++ wsX00 ++ wsX30 ++ wsX40)
theorem dX0_init_0 : decode cX0_init 0 = .ok (.aload_n 0, 1) := by decide +kernel
theorem dX0_init_1 : decode cX0_init 1 = .ok (.invokespecial 3, 3) := by decide +kernel
theorem dX0_init_4 : decode cX0_init 4 = .ok (.aload_n 0, 1) := by decide +kernel
theorem dX0_init_5 : decode cX0_init 5 = .ok (.iconst 0, 1) := by decide +kernel
theorem dX0_init_6 : decode cX0_init 6 = .ok (.putfield 9, 3) := by decide +kernel
theorem dX0_init_9 : decode cX0_init 9 = .ok (.aload_n 0, 1) := by decide +kernel
theorem dX0_init_10 : decode cX0_init 10 = .ok (.iconst 1, 1) := by decide +kernel
theorem dX0_init_11 : decode cX0_init 11 = .ok (.putfield 15, 3) := by decide +kernel
theorem dX0_init_14 : decode cX0_init 14 = .ok (.aload_n 0, 1) := by decide +kernel
theorem dX0_init_15 : decode cX0_init 15 = .ok (.iconst 0, 1) := by decide +kernel
theorem dX0_init_16 : decode cX0_init 16 = .ok (.putfield 18, 3) := by decide +kernel
theorem dX0_init_19 : decode cX0_init 19 = .ok (.aload_n 0, 1) := by decide +kernel
theorem dX0_init_20 : decode cX0_init 20 = .ok (.new 21, 3) := by decide +kernel
theorem dX0_init_23 : decode cX0_init 23 = .ok (.dup, 1) := by decide +kernel
set_option maxRecDepth 20000 in
theorem ggX0_init_X3_init : GoodIn wsX0_init wsX3_init := goodIn_r _ [24, 25, 2, 3, 26, 27, 28, 16, 17, 29, 30, 31, 11, 32, 53, 54, 55] (by decide +kernel) (by decide +kernel)
set_option maxRecDepth 20000 in
theorem gX0_init_X3_init : GoodIn wsX0_init (wsX3_init) := ggX0_init_X3_init
theorem dX0_init_24 : decode cX0_init 24 = .ok (.invokespecial 23, 3) := by decide +kernel
theorem dX0_init_27 : decode cX0_init 27 = .ok (.putfield 24, 3) := by decide +kernel
theorem dX0_init_30 : decode cX0_init 30 = .ok (.aload_n 0, 1) := by decide +kernel
theorem dX0_init_31 : decode cX0_init 31 = .ok (.iconst 4, 1) := by decide +kernel
theorem dX0_init_32 : decode cX0_init 32 = .ok (.newarray .int, 2) := by decide +kernel
theorem dX0_init_34 : decode cX0_init 34 = .ok (.putfield 28, 3) := by decide +kernel
theorem dX0_init_37 : decode cX0_init 37 = .ok (.aload_n 0, 1) := by decide +kernel
theorem dX0_init_38 : decode cX0_init 38 = .ok (.sipush 256, 3) := by decide +kernel
theorem dX0_init_41 : decode cX0_init 41 = .ok (.newarray .int, 2) := by decide +kernel
theorem dX0_init_43 : decode cX0_init 43 = .ok (.putfield 32, 3) := by decide +kernel
theorem dX0_init_46 : decode cX0_init 46 = .ok (.aload_n 0, 1) := by decide +kernel
theorem dX0_init_47 : decode cX0_init 47 = .ok (.iconst 4, 1) := by decide +kernel
theorem dX0_init_48 : decode cX0_init 48 = .ok (.newarray .int, 2) := by decide +kernel
theorem dX0_init_50 : decode cX0_init 50 = .ok (.putfield 35, 3) := by decide +kernel
theorem dX0_init_53 : decode cX0_init 53 = .ok (.aload_n 0, 1) := by decide +kernel
theorem dX0_init_54 : decode cX0_init 54 = .ok (.new 38, 3) := by decide +kernel
theorem dX0_init_57 : decode cX0_init 57 = .ok (.dup, 1) := by decide +kernel
set_option maxRecDepth 20000 in
theorem ggX0_init_X4_init : GoodIn wsX0_init wsX4_init := goodIn_r _ [30, 31, 2, 3, 11, 32, 55] (by decide +kernel) (by decide +kernel)
set_option maxRecDepth 20000 in
theorem gX0_init_X4_init_n40 : GoodIn wsX0_init (wsX4_init) := ggX0_init_X4_init
theorem dX0_init_58 : decode cX0_init 58 = .ok (.invokespecial 40, 3) := by decide +kernel
theorem dX0_init_61 : decode cX0_init 61 = .ok (.putfield 41, 3) := by decide +kernel
theorem dX0_init_64 : decode cX0_init 64 = .ok (.aload_n 0, 1) := by decide +kernel
theorem dX0_init_65 : decode cX0_init 65 = .ok (.iload_n 1, 1) := by decide +kernel
theorem dX0_init_66 : decode cX0_init 66 = .ok (.putfield 45, 3) := by decide +kernel
theorem dX0_init_69 : decode cX0_init 69 = .ok (.aload_n 0, 1) := by decide +kernel
theorem dX0_init_70 : decode cX0_init 70 = .ok (.iload_n 2, 1) := by decide +kernel
theorem dX0_init_71 : decode cX0_init 71 = .ok (.putfield 48, 3) := by decide +kernel
theorem dX0_init_74 : decode cX0_init 74 = .ok (.aload_n 0, 1) := by decide +kernel
theorem dX0_init_75 : decode cX0_init 75 = .ok (.iload_n 3, 1) := by decide +kernel
theorem dX0_init_76 : decode cX0_init 76 = .ok (.putfield 51, 3) := by decide +kernel
theorem dX0_init_79 : decode cX0_init 79 = .ok (.aload_n 0, 1) := by decide +kernel
theorem dX0_init_80 : decode cX0_init 80 = .ok (.iconst 0, 1) := by decide +kernel
theorem dX0_init_81 : decode cX0_init 81 = .ok (.iconst 0, 1) := by decide +kernel
theorem dX0_init_82 : decode cX0_init 82 = .ok (.iconst 1, 1) := by decide +kernel
set_option maxRecDepth 20000 in
theorem ggX0_init_X0_putSign : GoodIn wsX0_init wsX0_putSign := goodIn_r _ [37, 13, 42, 43, 44, 45, 46, 47, 48, 49, 50, 51, 52] (by decide +kernel) (by decide +kernel)
set_option maxRecDepth 20000 in
theorem gX0_init_X0_putSign : GoodIn wsX0_init (wsV RX0 54 RX0 yX0_putSign wsX0_putSign) := goodIn_app (goodIn_of _ (by decide +kernel)) ggX0_init_X0_putSign
theorem dX0_init_83 : decode cX0_init 83 = .ok (.invokevirtual 54, 3) := by decide +kernel
theorem dX0_init_86 : decode cX0_init 86 = .ok (.aload_n 0, 1) := by decide +kernel
set_option maxRecDepth 20000 in
theorem ggX0_init_X0_forgetBreaks : GoodIn wsX0_init wsX0_forgetBreaks := goodIn_r _ [41, 14, 42, 43, 44, 45, 46, 47, 48, 49, 50, 51, 52] (by decide +kernel) (by decide +kernel)
set_option maxRecDepth 20000 in
theorem gX0_init_X0_forgetBreaks : GoodIn wsX0_init (wsV RX0 58 RX0 yX0_forgetBreaks wsX0_forgetBreaks) := goodIn_app (goodIn_of _ (by decide +kernel)) ggX0_init_X0_forgetBreaks
theorem dX0_init_87 : decode cX0_init 87 = .ok (.invokevirtual 58, 3) := by decide +kernel
theorem dX0_init_90 : decode cX0_init 90 = .ok (.return_, 1) := by decide +kernel
def wsX6_algebra_r1 : List Cond := [Cond.classLink RX6 52 "java/lang/IllegalArgumentException", Cond.initialized "java/lang/IllegalArgumentException", Cond.classLink RX6 59 "java/lang/IllegalStateException", Cond.initialized "java/lang/IllegalStateException", Cond.fieldLink RX6 19 "Versorhall" "algebraCount" "I", Cond.fieldLink RX6 15 "Versorhall" "algebras" "[LVersorhall$Algebra;", Cond.classLink RX6 13 RX0, Cond.instantiable RX0 11, Cond.initialized RX0, Cond.fieldLink RX6 9 "Versorhall" "prime" "I", Cond.methodLink RX6 68 yX0_init, Cond.instanceMethod yX0_init, Cond.code yX0_init cX0_init 4 none, Cond.methodLink RX0 3 objectInit, Cond.instanceMethod objectInit, Cond.code objectInit ⟨#[0xb1]⟩ 1 none, Cond.fieldLink RX0 9 "Versorhall$Algebra" "dialCount" "I", Cond.fieldLink RX0 15 "Versorhall$Algebra" "units" "I", Cond.fieldLink RX0 18 "Versorhall$Algebra" "elementCount" "I", Cond.classLink RX0 21 RX3, Cond.instantiable RX3 2, Cond.initialized RX3, Cond.fieldLink RX0 24 "Versorhall$Algebra" "mirrors" "LVersorhall$Pile;", Cond.arrayClass .int]
def wsX6_algebra_r2 : List Cond := [Cond.fieldLink RX0 28 "Versorhall$Algebra" "dials" "[I", Cond.fieldLink RX0 32 "Versorhall$Algebra" "signs" "[I", Cond.fieldLink RX0 35 "Versorhall$Algebra" "firstBreaks" "[I", Cond.classLink RX0 38 RX4, Cond.instantiable RX4 1, Cond.initialized RX4, Cond.fieldLink RX0 41 "Versorhall$Algebra" "gathered" "LVersorhall$Row;", Cond.fieldLink RX0 45 "Versorhall$Algebra" "number" "I", Cond.fieldLink RX0 48 "Versorhall$Algebra" "kind" "I", Cond.fieldLink RX0 51 "Versorhall$Algebra" "prime" "I", Cond.methodLink RX0 23 yX3_init, Cond.instanceMethod yX3_init, Cond.code yX3_init cX3_init 2 none, Cond.methodLink RX3 3 objectInit, Cond.classLink RX3 9 RX4, Cond.fieldLink RX3 11 "Versorhall$Pile" "rows" "[LVersorhall$Row;", Cond.fieldLink RX3 17 "Versorhall$Pile" "height" "I", Cond.instanceMethod yX4_init, Cond.code yX4_init cX4_init 1 none, Cond.methodLink RX4 3 objectInit, Cond.fieldLink RX4 9 "Versorhall$Row" "numbers" "[I", Cond.methodLink RX0 54 yX0_putSign, Cond.instanceMethod yX0_putSign, Cond.selects RX0 yX0_putSign yX0_putSign]
def wsX6_algebra_r3 : List Cond := [Cond.code yX0_putSign cX0_putSign 5 none, Cond.methodLink RX0 58 yX0_forgetBreaks, Cond.instanceMethod yX0_forgetBreaks, Cond.selects RX0 yX0_forgetBreaks yX0_forgetBreaks, Cond.code yX0_forgetBreaks cX0_forgetBreaks 2 none]
def wsX6_algebra : List Cond := .code yX6_algebra cX6_algebra 3 (some .int) :: ((wsX6_algebra_r1 ++ (wsX6_algebra_r2 ++ wsX6_algebra_r3)) ++ wsX60 ++ wsX00 ++ wsX30 ++ wsX40 ++ (vx_atS RX6 56 "java/lang/IllegalArgumentException" ["java/lang/RuntimeException", "java/lang/Exception"]).filter goodWord ++ (vx_atS RX6 63 "java/lang/IllegalStateException" ["java/lang/RuntimeException", "java/lang/Exception"]).filter goodWord)
theorem dX6_algebra_0 : decode cX6_algebra 0 = .ok (.iload_n 1, 1) := by decide +kernel
theorem dX6_algebra_1 : decode cX6_algebra 1 = .ok (.ifCond .eq 18, 3) := by decide +kernel
theorem dX6_algebra_19 : decode cX6_algebra 19 = .ok (.aload_n 0, 1) := by decide +kernel
theorem dX6_algebra_20 : decode cX6_algebra 20 = .ok (.getfield 19, 3) := by decide +kernel
theorem dX6_algebra_23 : decode cX6_algebra 23 = .ok (.ifCond .lt 15, 3) := by decide +kernel
theorem dX6_algebra_26 : decode cX6_algebra 26 = .ok (.aload_n 0, 1) := by decide +kernel
theorem dX6_algebra_27 : decode cX6_algebra 27 = .ok (.getfield 19, 3) := by decide +kernel
theorem dX6_algebra_30 : decode cX6_algebra 30 = .ok (.aload_n 0, 1) := by decide +kernel
theorem dX6_algebra_31 : decode cX6_algebra 31 = .ok (.getfield 15, 3) := by decide +kernel
theorem dX6_algebra_34 : decode cX6_algebra 34 = .ok (.arraylength, 1) := by decide +kernel
theorem dX6_algebra_35 : decode cX6_algebra 35 = .ok (.if_icmp .lt 13, 3) := by decide +kernel
theorem dX6_algebra_48 : decode cX6_algebra 48 = .ok (.aload_n 0, 1) := by decide +kernel
theorem dX6_algebra_49 : decode cX6_algebra 49 = .ok (.getfield 19, 3) := by decide +kernel
theorem dX6_algebra_52 : decode cX6_algebra 52 = .ok (.istore_n 2, 1) := by decide +kernel
theorem dX6_algebra_53 : decode cX6_algebra 53 = .ok (.aload_n 0, 1) := by decide +kernel
theorem dX6_algebra_54 : decode cX6_algebra 54 = .ok (.getfield 15, 3) := by decide +kernel
theorem dX6_algebra_57 : decode cX6_algebra 57 = .ok (.iload_n 2, 1) := by decide +kernel
theorem dX6_algebra_58 : decode cX6_algebra 58 = .ok (.new 13, 3) := by decide +kernel
theorem dX6_algebra_61 : decode cX6_algebra 61 = .ok (.dup, 1) := by decide +kernel
theorem dX6_algebra_62 : decode cX6_algebra 62 = .ok (.iload_n 2, 1) := by decide +kernel
theorem dX6_algebra_63 : decode cX6_algebra 63 = .ok (.iload_n 1, 1) := by decide +kernel
theorem dX6_algebra_64 : decode cX6_algebra 64 = .ok (.aload_n 0, 1) := by decide +kernel
theorem dX6_algebra_65 : decode cX6_algebra 65 = .ok (.getfield 9, 3) := by decide +kernel
set_option maxRecDepth 20000 in
theorem ggX6_algebra_X0_init : GoodIn wsX6_algebra wsX0_init := goodIn_r _ [13, 14, 15, 16, 17, 18, 19, 20, 21, 22, 23, 24, 25, 26, 27, 28, 29, 30, 31, 32, 33, 34, 35, 36, 37, 38, 39, 40, 41, 42, 43, 44, 45, 46, 47, 48, 9, 49, 50, 51, 52, 53, 63, 64, 65, 66, 67, 68, 69, 70, 71, 72, 73, 74, 75, 76] (by decide +kernel) (by decide +kernel)
set_option maxRecDepth 20000 in
theorem gX6_algebra_X0_init : GoodIn wsX6_algebra (wsX0_init) := ggX6_algebra_X0_init
theorem dX6_algebra_68 : decode cX6_algebra 68 = .ok (.invokespecial 68, 3) := by decide +kernel
theorem dX6_algebra_71 : decode cX6_algebra 71 = .ok (.aastore, 1) := by decide +kernel
theorem dX6_algebra_72 : decode cX6_algebra 72 = .ok (.aload_n 0, 1) := by decide +kernel
theorem dX6_algebra_73 : decode cX6_algebra 73 = .ok (.iload_n 2, 1) := by decide +kernel
theorem dX6_algebra_74 : decode cX6_algebra 74 = .ok (.iconst 1, 1) := by decide +kernel
theorem dX6_algebra_75 : decode cX6_algebra 75 = .ok (.iadd, 1) := by decide +kernel
theorem dX6_algebra_76 : decode cX6_algebra 76 = .ok (.putfield 19, 3) := by decide +kernel
theorem dX6_algebra_79 : decode cX6_algebra 79 = .ok (.iload_n 2, 1) := by decide +kernel
theorem dX6_algebra_80 : decode cX6_algebra 80 = .ok (.ireturn, 1) := by decide +kernel
theorem dX6_algebra_4 : decode cX6_algebra 4 = .ok (.iload_n 1, 1) := by decide +kernel
theorem dX6_algebra_5 : decode cX6_algebra 5 = .ok (.iconst 1, 1) := by decide +kernel
theorem dX6_algebra_6 : decode cX6_algebra 6 = .ok (.if_icmp .eq 13, 3) := by decide +kernel
theorem dX6_algebra_9 : decode cX6_algebra 9 = .ok (.new 52, 3) := by decide +kernel
theorem dX6_algebra_12 : decode cX6_algebra 12 = .ok (.dup, 1) := by decide +kernel
theorem dX6_algebra_13 : decode cX6_algebra 13 = .ok (.ldc 64, 2) := by decide +kernel
theorem dX6_algebra_15 : decode cX6_algebra 15 = .ok (.invokespecial 56, 3) := by decide +kernel
theorem dX6_algebra_18 : decode cX6_algebra 18 = .ok (.athrow, 1) := by decide +kernel
set_option maxHeartbeats 4000000 in
set_option maxRecDepth 100000 in
/-- c_A_putSign -/
theorem c_A_putSign (l : Launch) (dC : Nat → ClassId) (dI : Nat → Nat → Nat) (dE : Nat) (h0 : Nat) (nu : Int32) (kd : Int32) (pr : Int32) (dc : Int32) (un : Int32) (ec : Int32) (mi : Nat) (di : Nat) (si : Nat) (fi : Nat) (ga : Nat) (cAs : ClassId) (fs : Nat → Int32) (sz : Nat) : Met l yX0_putSign wsX0_putSign ({ frames := 0, cells := 0, slots := 0, locals := 0 }) (va_Pc [.ref h0, .int 0, .int 0, .int 1] (PB dC dI dE [(cAs, .int)] [(h0, .inr (3, [.int nu, .int kd, .int pr, .int dc, .int un, .int ec, .ref mi, .ref di, .ref si, .ref fi, .ref ga])), (si, .inl (cAs, 256, .inl fs))] sz)) (va_Qv (fun (_ : Unit) => True) (fun (_ : Unit) (t : State) => ∃ e0 : Nat → Int32, PE dC dI [(cAs, .int)] [(h0, .inr (3, [.int nu, .int kd, .int pr, .int dc, .int un, .int ec, .ref mi, .ref di, .ref si, .ref fi, .ref ga])), (si, .inl (cAs, 256, .inl e0))] (va_A [(h0, .inr (3, [.int nu, .int kd, .int pr, .int dc, .int un, .int ec, .ref mi, .ref di, .ref si, .ref fi, .ref ga])), (si, .inl (cAs, 256, .inl fs))] sz) t) (va_A [(h0, .inr (3, [.int nu, .int kd, .int pr, .int dc, .int un, .int ec, .ref mi, .ref di, .ref si, .ref fi, .ref ga])), (si, .inl (cAs, 256, .inl fs))] sz)) 0 0 (va_A [(h0, .inr (3, [.int nu, .int kd, .int pr, .int dc, .int un, .int ec, .ref mi, .ref di, .ref si, .ref fi, .ref ga])), (si, .inl (cAs, 256, .inl fs))] sz) := by
  refine Met.ofW (cc := cX0_putSign) (maxL := 5) (ret := none) (by decide) rfl ?_
  intro p e s m args below meth c s₁ B hml hv
  obtain ⟨rfl, hsz, hP, hK, hD0, hTb, hZ⟩ := hv
  have hx := B.exec
  have hb := B.bytes
  have hr := B.returns
  have hts := atoms_spec (ws := wsX0_putSign) B.pre
  have hown : s.vm.findClass RX0 = some m.cls := findClass_of_methodNamed B.named
  have hlocks := B.notSynchronized
  subst hsz
  have hD := hD0.self (sz := s.heap.size)
  generalize hAe : va_A [(h0, .inr (3, [.int nu, .int kd, .int pr, .int dc, .int un, .int ec, .ref mi, .ref di, .ref si, .ref fi, .ref ga])), (si, .inl (cAs, 256, .inl fs))] s.heap.size = A at hD hZ ⊢
  have hA : ∀ q : Nat, s.heap.size ≤ q → A q := fun q h => by rw [← hAe]; exact Or.inr h
  have hS : va_S A s.heap s.heap [] := va_S.rf
  have hP : va_P (dC, dI) vwCl [(h0, .inr (3, [.int nu, .int kd, .int pr, .int dc, .int un, .int ec, .ref mi, .ref di, .ref si, .ref fi, .ref ga])), (si, .inl (cAs, 256, .inl fs))] s.heap := hP
  have hl := lv_entry ([.ref h0, .int 0, .int 0, .int 1]) (n := 5) (Nat.le_of_ble_eq_true rfl)
  rw [lg_entry_eq]
  generalize (lg_sl ([.ref h0, .int 0, .int 0, .int 1]) ++ List.replicate (5 - (lg_sl ([.ref h0, .int 0, .int 0, .int 1])).length) Slot.unset).toArray = ls at hl ⊢
  have hl : lv_has ls 5 [(0, .ref h0), (1, .int 0), (2, .int 0), (3, .int 1)] := hl
  obtain ⟨H, eH⟩ : ∃ z, z = s.heap := ⟨_, rfl⟩
  rw [← eH] at hP ⊢
  have hS : va_S A s.heap H [] := by rw [eH]; exact va_S.rf
  refine lv_iload_n hx hb dX0_putSign_0 rfl (lv_at hl 1 rfl) ?_
  refine lv_bipush (v := 16) hx hb dX0_putSign_1 (by decide) ?_
  refine lv_imul hx hb dX0_putSign_3 ?_
  refine lv_topi (fun f1 ef1 => ?_)
  obtain rfl : f1 = 0 := ef1.trans (by decide)
  refine lv_iload_n hx hb dX0_putSign_4 rfl (lv_at hl 2 rfl) ?_
  refine lv_iadd hx hb dX0_putSign_5 ?_
  refine lv_topi (fun f2 ef2 => ?_)
  obtain rfl : f2 = 0 := ef2.trans (by decide)
  refine lv_istore (lv' := [(4, .int 0), (0, .ref h0), (1, .int 0), (2, .int 0), (3, .int 1)]) hx hb dX0_putSign_6 hl (by decide) rfl (fun ls hl => ?_)
  refine lv_iload hx hb dX0_putSign_8 (lv_at hl 0 rfl) ?_
  refine lv_if_lt (tgt := 31) hx hb dX0_putSign_10 (by decide) (fun c9 => absurd c9 (by decide)) (fun _ => ?_)
  refine lv_iload hx hb dX0_putSign_13 (lv_at hl 0 rfl) ?_
  refine lv_aload_n hx hb dX0_putSign_15 rfl (lv_at hl 1 rfl) ?_
  refine va_get (D := (dC, dI)) (ci := 3) (v := .ref si) (C := RX0) (T := TX0) (N := 11) hx hb hts (by decide +kernel) hown hK hP 0 rfl rfl 8 (by decide) (hts (.fieldLink RX0 32 "Versorhall$Algebra" "signs" "[I") (by decide +kernel)) (fun _ h9 => h9) rfl dX0_putSign_16 ?_
  refine va_alen (v := 256) hx hb hK hP 1 0 rfl rfl (show Int32.ofNat 256 = 256 by decide) dX0_putSign_19 ?_
  refine lv_icmp_ge (tgt := 31) hx hb dX0_putSign_20 (by decide) (fun c9 => absurd c9 (by decide)) (fun _ => ?_)
  refine lv_aload_n hx hb dX0_putSign_23 rfl (lv_at hl 1 rfl) ?_
  refine va_get (D := (dC, dI)) (ci := 3) (v := .ref si) (C := RX0) (T := TX0) (N := 11) hx hb hts (by decide +kernel) hown hK hP 0 rfl rfl 8 (by decide) (hts (.fieldLink RX0 32 "Versorhall$Algebra" "signs" "[I") (by decide +kernel)) (fun _ h9 => h9) rfl dX0_putSign_24 ?_
  refine lv_iload hx hb dX0_putSign_27 (lv_at hl 0 rfl) ?_
  refine lv_iload_n hx hb dX0_putSign_29 rfl (lv_at hl 4 rfl) ?_
  refine va_iast hx hb hK hP hD hS 1 0 rfl rfl (by unfold vp_in; decide) dX0_putSign_30 (fun H locs hP hD hS => ?_)
  generalize upd fs (Int32.toNatClampNeg 0) 1 = g3 at hP hD
  have hP : va_P (dC, dI) vwCl [(h0, .inr (3, [.int nu, .int kd, .int pr, .int dc, .int un, .int ec, .ref mi, .ref di, .ref si, .ref fi, .ref ga])), (si, .inl (cAs, 256, .inl g3))] H := hP
  have hD : va_D A [(h0, .inr (3, [.int nu, .int kd, .int pr, .int dc, .int un, .int ec, .ref mi, .ref di, .ref si, .ref fi, .ref ga])), (si, .inl (cAs, 256, .inl g3))] := hD
  have hP9 := hP.sub (ws' := [(h0, .inr (3, [.int nu, .int kd, .int pr, .int dc, .int un, .int ec, .ref mi, .ref di, .ref si, .ref fi, .ref ga])), (si, .inl (cAs, 256, .inl g3))]) [0, 1] rfl
  have hD9 := hD.sub (ws' := [(h0, .inr (3, [.int nu, .int kd, .int pr, .int dc, .int un, .int ec, .ref mi, .ref di, .ref si, .ref fi, .ref ga])), (si, .inl (cAs, 256, .inl g3))]) [0, 1] (by decide) rfl
  have hK9 := hK.sub (tys' := [(cAs, .int)]) [0] rfl
  refine W.widen (k := 0) (n := 0) (Nat.le_of_ble_eq_true rfl) (Nat.le_of_ble_eq_true rfl) ?_
  exact W.vret hx hb hr (fun t ht hW => ⟨⟨(), rfl, trivial, ⟨g3, PE.mk hP9 hK9 hD9 ht hW⟩⟩, hS.F ht⟩) hS.2.2 dX0_putSign_31

set_option maxHeartbeats 4000000 in
set_option maxRecDepth 100000 in
/-- c_A_forget -/
theorem c_A_forget (l : Launch) (dC : Nat → ClassId) (dI : Nat → Nat → Nat) (dE : Nat) (h0 : Nat) (nu : Int32) (kd : Int32) (pr : Int32) (dc : Int32) (un : Int32) (ec : Int32) (mi : Nat) (di : Nat) (si : Nat) (fi : Nat) (ga : Nat) (cAf : ClassId) (ff : Nat → Int32) (sz : Nat) : Met l yX0_forgetBreaks wsX0_forgetBreaks ({ frames := 0, cells := 0, slots := 0, locals := 0 }) (va_Pc [.ref h0] (PB dC dI dE [(cAf, .int)] [(h0, .inr (3, [.int nu, .int kd, .int pr, .int dc, .int un, .int ec, .ref mi, .ref di, .ref si, .ref fi, .ref ga])), (fi, .inl (cAf, 4, .inl ff))] sz)) (va_Qv (fun (_ : Unit) => True) (fun (_ : Unit) (t : State) => ∃ e0 : Nat → Int32, PE dC dI [(cAf, .int)] [(h0, .inr (3, [.int nu, .int kd, .int pr, .int dc, .int un, .int ec, .ref mi, .ref di, .ref si, .ref fi, .ref ga])), (fi, .inl (cAf, 4, .inl e0))] (va_A [(h0, .inr (3, [.int nu, .int kd, .int pr, .int dc, .int un, .int ec, .ref mi, .ref di, .ref si, .ref fi, .ref ga])), (fi, .inl (cAf, 4, .inl ff))] sz) t) (va_A [(h0, .inr (3, [.int nu, .int kd, .int pr, .int dc, .int un, .int ec, .ref mi, .ref di, .ref si, .ref fi, .ref ga])), (fi, .inl (cAf, 4, .inl ff))] sz)) 0 0 (va_A [(h0, .inr (3, [.int nu, .int kd, .int pr, .int dc, .int un, .int ec, .ref mi, .ref di, .ref si, .ref fi, .ref ga])), (fi, .inl (cAf, 4, .inl ff))] sz) := by
  refine Met.ofW (cc := cX0_forgetBreaks) (maxL := 2) (ret := none) (by decide) rfl ?_
  intro p e s m args below meth c s₁ B hml hv
  obtain ⟨rfl, hsz, hP, hK, hD0, hTb, hZ⟩ := hv
  have hx := B.exec
  have hb := B.bytes
  have hr := B.returns
  have hts := atoms_spec (ws := wsX0_forgetBreaks) B.pre
  have hown : s.vm.findClass RX0 = some m.cls := findClass_of_methodNamed B.named
  have hlocks := B.notSynchronized
  subst hsz
  have hD := hD0.self (sz := s.heap.size)
  generalize hAe : va_A [(h0, .inr (3, [.int nu, .int kd, .int pr, .int dc, .int un, .int ec, .ref mi, .ref di, .ref si, .ref fi, .ref ga])), (fi, .inl (cAf, 4, .inl ff))] s.heap.size = A at hD hZ ⊢
  have hA : ∀ q : Nat, s.heap.size ≤ q → A q := fun q h => by rw [← hAe]; exact Or.inr h
  have hS : va_S A s.heap s.heap [] := va_S.rf
  have hP : va_P (dC, dI) vwCl [(h0, .inr (3, [.int nu, .int kd, .int pr, .int dc, .int un, .int ec, .ref mi, .ref di, .ref si, .ref fi, .ref ga])), (fi, .inl (cAf, 4, .inl ff))] s.heap := hP
  have hl := lv_entry ([.ref h0]) (n := 2) (Nat.le_of_ble_eq_true rfl)
  rw [lg_entry_eq]
  generalize (lg_sl ([.ref h0]) ++ List.replicate (2 - (lg_sl ([.ref h0])).length) Slot.unset).toArray = ls at hl ⊢
  have hl : lv_has ls 2 [(0, .ref h0)] := hl
  obtain ⟨H, eH⟩ : ∃ z, z = s.heap := ⟨_, rfl⟩
  rw [← eH] at hP ⊢
  have hS : va_S A s.heap H [] := by rw [eH]; exact va_S.rf
  refine lv_iconst (v := 0) hx hb dX0_forgetBreaks_0 (by decide) ?_
  refine lv_istore_n (lv' := [(1, .int 0), (0, .ref h0)]) hx hb dX0_forgetBreaks_1 rfl hl (by decide) rfl (fun ls hl => ?_)
  refine lv_iload_n hx hb dX0_forgetBreaks_2 rfl (lv_at hl 0 rfl) ?_
  refine lv_aload_n hx hb dX0_forgetBreaks_3 rfl (lv_at hl 1 rfl) ?_
  refine va_get (D := (dC, dI)) (ci := 3) (v := .ref fi) (C := RX0) (T := TX0) (N := 11) hx hb hts (by decide +kernel) hown hK hP 0 rfl rfl 9 (by decide) (hts (.fieldLink RX0 35 "Versorhall$Algebra" "firstBreaks" "[I") (by decide +kernel)) (fun _ h9 => h9) rfl dX0_forgetBreaks_4 ?_
  refine va_alen (v := 4) hx hb hK hP 1 0 rfl rfl (show Int32.ofNat 4 = 4 by decide) dX0_forgetBreaks_7 ?_
  refine lv_icmp_ge (tgt := 25) hx hb dX0_forgetBreaks_8 (by decide) (fun c9 => absurd c9 (by decide)) (fun _ => ?_)
  refine lv_aload_n hx hb dX0_forgetBreaks_11 rfl (lv_at hl 1 rfl) ?_
  refine va_get (D := (dC, dI)) (ci := 3) (v := .ref fi) (C := RX0) (T := TX0) (N := 11) hx hb hts (by decide +kernel) hown hK hP 0 rfl rfl 9 (by decide) (hts (.fieldLink RX0 35 "Versorhall$Algebra" "firstBreaks" "[I") (by decide +kernel)) (fun _ h9 => h9) rfl dX0_forgetBreaks_12 ?_
  refine lv_iload_n hx hb dX0_forgetBreaks_15 rfl (lv_at hl 0 rfl) ?_
  refine lv_bipush (v := (-2)) hx hb dX0_forgetBreaks_16 (by decide) ?_
  refine va_iast hx hb hK hP hD hS 1 0 rfl rfl (by unfold vp_in; decide) dX0_forgetBreaks_18 (fun H locs hP hD hS => ?_)
  generalize upd ff (Int32.toNatClampNeg 0) (-2) = g1 at hP hD
  have hP : va_P (dC, dI) vwCl [(h0, .inr (3, [.int nu, .int kd, .int pr, .int dc, .int un, .int ec, .ref mi, .ref di, .ref si, .ref fi, .ref ga])), (fi, .inl (cAf, 4, .inl g1))] H := hP
  have hD : va_D A [(h0, .inr (3, [.int nu, .int kd, .int pr, .int dc, .int un, .int ec, .ref mi, .ref di, .ref si, .ref fi, .ref ga])), (fi, .inl (cAf, 4, .inl g1))] := hD
  refine lv_iinc (v := 1) (lv' := [(1, .int 1), (0, .ref h0)]) hx hb dX0_forgetBreaks_19 hl (k := 0) rfl (by decide) (by decide) rfl (fun ls hl => ?_)
  refine lv_goto (tgt := 2) hx hb dX0_forgetBreaks_22 (by decide) ?_
  refine lv_iload_n hx hb dX0_forgetBreaks_2 rfl (lv_at hl 0 rfl) ?_
  refine lv_aload_n hx hb dX0_forgetBreaks_3 rfl (lv_at hl 1 rfl) ?_
  refine va_get (D := (dC, dI)) (ci := 3) (v := .ref fi) (C := RX0) (T := TX0) (N := 11) hx hb hts (by decide +kernel) hown hK hP 0 rfl rfl 9 (by decide) (hts (.fieldLink RX0 35 "Versorhall$Algebra" "firstBreaks" "[I") (by decide +kernel)) (fun _ h9 => h9) rfl dX0_forgetBreaks_4 ?_
  refine va_alen (v := 4) hx hb hK hP 1 0 rfl rfl (show Int32.ofNat 4 = 4 by decide) dX0_forgetBreaks_7 ?_
  refine lv_icmp_ge (tgt := 25) hx hb dX0_forgetBreaks_8 (by decide) (fun c9 => absurd c9 (by decide)) (fun _ => ?_)
  refine lv_aload_n hx hb dX0_forgetBreaks_11 rfl (lv_at hl 1 rfl) ?_
  refine va_get (D := (dC, dI)) (ci := 3) (v := .ref fi) (C := RX0) (T := TX0) (N := 11) hx hb hts (by decide +kernel) hown hK hP 0 rfl rfl 9 (by decide) (hts (.fieldLink RX0 35 "Versorhall$Algebra" "firstBreaks" "[I") (by decide +kernel)) (fun _ h9 => h9) rfl dX0_forgetBreaks_12 ?_
  refine lv_iload_n hx hb dX0_forgetBreaks_15 rfl (lv_at hl 0 rfl) ?_
  refine lv_bipush (v := (-2)) hx hb dX0_forgetBreaks_16 (by decide) ?_
  refine va_iast hx hb hK hP hD hS 1 0 rfl rfl (by unfold vp_in; decide) dX0_forgetBreaks_18 (fun H locs hP hD hS => ?_)
  generalize upd g1 (Int32.toNatClampNeg 1) (-2) = g2 at hP hD
  have hP : va_P (dC, dI) vwCl [(h0, .inr (3, [.int nu, .int kd, .int pr, .int dc, .int un, .int ec, .ref mi, .ref di, .ref si, .ref fi, .ref ga])), (fi, .inl (cAf, 4, .inl g2))] H := hP
  have hD : va_D A [(h0, .inr (3, [.int nu, .int kd, .int pr, .int dc, .int un, .int ec, .ref mi, .ref di, .ref si, .ref fi, .ref ga])), (fi, .inl (cAf, 4, .inl g2))] := hD
  refine lv_iinc (v := 2) (lv' := [(1, .int 2), (0, .ref h0)]) hx hb dX0_forgetBreaks_19 hl (k := 0) rfl (by decide) (by decide) rfl (fun ls hl => ?_)
  refine lv_goto (tgt := 2) hx hb dX0_forgetBreaks_22 (by decide) ?_
  refine lv_iload_n hx hb dX0_forgetBreaks_2 rfl (lv_at hl 0 rfl) ?_
  refine lv_aload_n hx hb dX0_forgetBreaks_3 rfl (lv_at hl 1 rfl) ?_
  refine va_get (D := (dC, dI)) (ci := 3) (v := .ref fi) (C := RX0) (T := TX0) (N := 11) hx hb hts (by decide +kernel) hown hK hP 0 rfl rfl 9 (by decide) (hts (.fieldLink RX0 35 "Versorhall$Algebra" "firstBreaks" "[I") (by decide +kernel)) (fun _ h9 => h9) rfl dX0_forgetBreaks_4 ?_
  refine va_alen (v := 4) hx hb hK hP 1 0 rfl rfl (show Int32.ofNat 4 = 4 by decide) dX0_forgetBreaks_7 ?_
  refine lv_icmp_ge (tgt := 25) hx hb dX0_forgetBreaks_8 (by decide) (fun c9 => absurd c9 (by decide)) (fun _ => ?_)
  refine lv_aload_n hx hb dX0_forgetBreaks_11 rfl (lv_at hl 1 rfl) ?_
  refine va_get (D := (dC, dI)) (ci := 3) (v := .ref fi) (C := RX0) (T := TX0) (N := 11) hx hb hts (by decide +kernel) hown hK hP 0 rfl rfl 9 (by decide) (hts (.fieldLink RX0 35 "Versorhall$Algebra" "firstBreaks" "[I") (by decide +kernel)) (fun _ h9 => h9) rfl dX0_forgetBreaks_12 ?_
  refine lv_iload_n hx hb dX0_forgetBreaks_15 rfl (lv_at hl 0 rfl) ?_
  refine lv_bipush (v := (-2)) hx hb dX0_forgetBreaks_16 (by decide) ?_
  refine va_iast hx hb hK hP hD hS 1 0 rfl rfl (by unfold vp_in; decide) dX0_forgetBreaks_18 (fun H locs hP hD hS => ?_)
  generalize upd g2 (Int32.toNatClampNeg 2) (-2) = g3 at hP hD
  have hP : va_P (dC, dI) vwCl [(h0, .inr (3, [.int nu, .int kd, .int pr, .int dc, .int un, .int ec, .ref mi, .ref di, .ref si, .ref fi, .ref ga])), (fi, .inl (cAf, 4, .inl g3))] H := hP
  have hD : va_D A [(h0, .inr (3, [.int nu, .int kd, .int pr, .int dc, .int un, .int ec, .ref mi, .ref di, .ref si, .ref fi, .ref ga])), (fi, .inl (cAf, 4, .inl g3))] := hD
  refine lv_iinc (v := 3) (lv' := [(1, .int 3), (0, .ref h0)]) hx hb dX0_forgetBreaks_19 hl (k := 0) rfl (by decide) (by decide) rfl (fun ls hl => ?_)
  refine lv_goto (tgt := 2) hx hb dX0_forgetBreaks_22 (by decide) ?_
  refine lv_iload_n hx hb dX0_forgetBreaks_2 rfl (lv_at hl 0 rfl) ?_
  refine lv_aload_n hx hb dX0_forgetBreaks_3 rfl (lv_at hl 1 rfl) ?_
  refine va_get (D := (dC, dI)) (ci := 3) (v := .ref fi) (C := RX0) (T := TX0) (N := 11) hx hb hts (by decide +kernel) hown hK hP 0 rfl rfl 9 (by decide) (hts (.fieldLink RX0 35 "Versorhall$Algebra" "firstBreaks" "[I") (by decide +kernel)) (fun _ h9 => h9) rfl dX0_forgetBreaks_4 ?_
  refine va_alen (v := 4) hx hb hK hP 1 0 rfl rfl (show Int32.ofNat 4 = 4 by decide) dX0_forgetBreaks_7 ?_
  refine lv_icmp_ge (tgt := 25) hx hb dX0_forgetBreaks_8 (by decide) (fun c9 => absurd c9 (by decide)) (fun _ => ?_)
  refine lv_aload_n hx hb dX0_forgetBreaks_11 rfl (lv_at hl 1 rfl) ?_
  refine va_get (D := (dC, dI)) (ci := 3) (v := .ref fi) (C := RX0) (T := TX0) (N := 11) hx hb hts (by decide +kernel) hown hK hP 0 rfl rfl 9 (by decide) (hts (.fieldLink RX0 35 "Versorhall$Algebra" "firstBreaks" "[I") (by decide +kernel)) (fun _ h9 => h9) rfl dX0_forgetBreaks_12 ?_
  refine lv_iload_n hx hb dX0_forgetBreaks_15 rfl (lv_at hl 0 rfl) ?_
  refine lv_bipush (v := (-2)) hx hb dX0_forgetBreaks_16 (by decide) ?_
  refine va_iast hx hb hK hP hD hS 1 0 rfl rfl (by unfold vp_in; decide) dX0_forgetBreaks_18 (fun H locs hP hD hS => ?_)
  generalize upd g3 (Int32.toNatClampNeg 3) (-2) = g4 at hP hD
  have hP : va_P (dC, dI) vwCl [(h0, .inr (3, [.int nu, .int kd, .int pr, .int dc, .int un, .int ec, .ref mi, .ref di, .ref si, .ref fi, .ref ga])), (fi, .inl (cAf, 4, .inl g4))] H := hP
  have hD : va_D A [(h0, .inr (3, [.int nu, .int kd, .int pr, .int dc, .int un, .int ec, .ref mi, .ref di, .ref si, .ref fi, .ref ga])), (fi, .inl (cAf, 4, .inl g4))] := hD
  refine lv_iinc (v := 4) (lv' := [(1, .int 4), (0, .ref h0)]) hx hb dX0_forgetBreaks_19 hl (k := 0) rfl (by decide) (by decide) rfl (fun ls hl => ?_)
  refine lv_goto (tgt := 2) hx hb dX0_forgetBreaks_22 (by decide) ?_
  refine lv_iload_n hx hb dX0_forgetBreaks_2 rfl (lv_at hl 0 rfl) ?_
  refine lv_aload_n hx hb dX0_forgetBreaks_3 rfl (lv_at hl 1 rfl) ?_
  refine va_get (D := (dC, dI)) (ci := 3) (v := .ref fi) (C := RX0) (T := TX0) (N := 11) hx hb hts (by decide +kernel) hown hK hP 0 rfl rfl 9 (by decide) (hts (.fieldLink RX0 35 "Versorhall$Algebra" "firstBreaks" "[I") (by decide +kernel)) (fun _ h9 => h9) rfl dX0_forgetBreaks_4 ?_
  refine va_alen (v := 4) hx hb hK hP 1 0 rfl rfl (show Int32.ofNat 4 = 4 by decide) dX0_forgetBreaks_7 ?_
  refine lv_icmp_ge (tgt := 25) hx hb dX0_forgetBreaks_8 (by decide) (fun _ => ?_) (fun c9 => absurd (by decide) c9)
  have hP9 := hP.sub (ws' := [(h0, .inr (3, [.int nu, .int kd, .int pr, .int dc, .int un, .int ec, .ref mi, .ref di, .ref si, .ref fi, .ref ga])), (fi, .inl (cAf, 4, .inl g4))]) [0, 1] rfl
  have hD9 := hD.sub (ws' := [(h0, .inr (3, [.int nu, .int kd, .int pr, .int dc, .int un, .int ec, .ref mi, .ref di, .ref si, .ref fi, .ref ga])), (fi, .inl (cAf, 4, .inl g4))]) [0, 1] (by decide) rfl
  have hK9 := hK.sub (tys' := [(cAf, .int)]) [0] rfl
  refine W.widen (k := 0) (n := 0) (Nat.le_of_ble_eq_true rfl) (Nat.le_of_ble_eq_true rfl) ?_
  exact W.vret hx hb hr (fun t ht hW => ⟨⟨(), rfl, trivial, ⟨g4, PE.mk hP9 hK9 hD9 ht hW⟩⟩, hS.F ht⟩) hS.2.2 dX0_forgetBreaks_25

set_option maxHeartbeats 4000000 in
set_option maxRecDepth 100000 in
/-- c_A_init -/
theorem c_A_init (l : Launch) (dC : Nat → ClassId) (dI : Nat → Nat → Nat) (dE : Nat) (h0 : Nat) (kd : Int32) (sz : Nat) : Met l yX0_init wsX0_init ({ frames := 3, cells := 27, slots := 463, locals := 81 }) (va_Pc [.ref h0, .int 0, .int kd, .int 7] (PB dC dI dE [] [(h0, .inr (3, [.int 0, .int 0, .int 0, .int 0, .int 0, .int 0, .null, .null, .null, .null, .null]))] sz)) (va_Qv (fun (_ : Unit) => True) (fun (_ : Unit) (t : State) => ∃ e0 : Nat, ∃ e1 : Nat, ∃ e2 : Nat, ∃ e3 : Nat, ∃ e4 : Nat, PE dC dI [] [(h0, .inr (3, [.int 0, .int kd, .int 7, .int 0, .int 1, .int 0, .ref e0, .ref e1, .ref e2, .ref e3, .ref e4]))] (va_A [(h0, .inr (3, [.int 0, .int 0, .int 0, .int 0, .int 0, .int 0, .null, .null, .null, .null, .null]))] sz) t) (va_A [(h0, .inr (3, [.int 0, .int 0, .int 0, .int 0, .int 0, .int 0, .null, .null, .null, .null, .null]))] sz)) 27 463 (va_A [(h0, .inr (3, [.int 0, .int 0, .int 0, .int 0, .int 0, .int 0, .null, .null, .null, .null, .null]))] sz) := by
  refine Met.ofW (cc := cX0_init) (maxL := 4) (ret := none) (by decide) rfl ?_
  intro p e s m args below meth c s₁ B hml hv
  obtain ⟨rfl, hsz, hP, hK, hD0, hTb, hZ⟩ := hv
  have hx := B.exec
  have hb := B.bytes
  have hr := B.returns
  have hts := atoms_spec (ws := wsX0_init) B.pre
  have hown : s.vm.findClass RX0 = some m.cls := findClass_of_methodNamed B.named
  have hlocks := B.notSynchronized
  have hin : meth.name = "<init>" := (name_of_methodNamed B.named B.method).1
  subst hsz
  have hD := hD0.self (sz := s.heap.size)
  generalize hAe : va_A [(h0, .inr (3, [.int 0, .int 0, .int 0, .int 0, .int 0, .int 0, .null, .null, .null, .null, .null]))] s.heap.size = A at hD hZ ⊢
  have hA : ∀ q : Nat, s.heap.size ≤ q → A q := fun q h => by rw [← hAe]; exact Or.inr h
  have hS : va_S A s.heap s.heap [] := va_S.rf
  have hP : va_P (dC, dI) vwCl [(h0, .inr (3, [.int 0, .int 0, .int 0, .int 0, .int 0, .int 0, .null, .null, .null, .null, .null]))] s.heap := hP
  have hl := lv_entry ([.ref h0, .int 0, .int kd, .int 7]) (n := 4) (Nat.le_of_ble_eq_true rfl)
  rw [lg_entry_eq]
  generalize (lg_sl ([.ref h0, .int 0, .int kd, .int 7]) ++ List.replicate (4 - (lg_sl ([.ref h0, .int 0, .int kd, .int 7])).length) Slot.unset).toArray = ls at hl ⊢
  have hl : lv_has ls 4 [(0, .ref h0), (1, .int 0), (2, .int kd), (3, .int 7)] := hl
  obtain ⟨H, eH⟩ : ∃ z, z = s.heap := ⟨_, rfl⟩
  rw [← eH] at hP ⊢
  have hS : va_S A s.heap H [] := by rw [eH]; exact va_S.rf
  refine lv_aload_n hx hb dX0_init_0 rfl (lv_at hl 0 rfl) ?_
  refine W.objInit hx hb hown (hts (.methodLink RX0 3 objectInit) (by decide +kernel)) (hts (.instanceMethod objectInit) (by decide +kernel)) (hts (.code objectInit ⟨#[0xb1]⟩ 1 none) (by decide +kernel)) rfl (by rw [hml]; exact hl.1) rfl dX0_init_1 (Nat.le_of_ble_eq_true rfl) (Nat.le_of_ble_eq_true rfl) ?_
  refine W.eq (g2 := F0 m 4 ls []) rfl ?_
  refine lv_aload_n hx hb dX0_init_4 rfl (lv_at hl 0 rfl) ?_
  refine lv_iconst (v := 0) hx hb dX0_init_5 (by decide) ?_
  refine va_put (D := (dC, dI)) (ci := 3) (v := .int 0) (ty := .int) (C := RX0) (T := TX0) (N := 11) hx hb hts (by decide +kernel) tyX0 tyX0_ok nmX0 hown hK hP hD hS 0 rfl rfl 3 (by decide) (hts (.fieldLink RX0 9 "Versorhall$Algebra" "dialCount" "I") (by decide +kernel)) (fun _ h9 => h9) rfl (by decide +kernel) rfl rfl (Nat.le_of_ble_eq_true rfl) dX0_init_6 (fun H locs hP hD hS => ?_)
  have hP : va_P (dC, dI) vwCl [(h0, .inr (3, [.int 0, .int 0, .int 0, .int 0, .int 0, .int 0, .null, .null, .null, .null, .null]))] H := hP
  have hD : va_D A [(h0, .inr (3, [.int 0, .int 0, .int 0, .int 0, .int 0, .int 0, .null, .null, .null, .null, .null]))] := hD
  refine lv_aload_n hx hb dX0_init_9 rfl (lv_at hl 0 rfl) ?_
  refine lv_iconst (v := 1) hx hb dX0_init_10 (by decide) ?_
  refine va_put (D := (dC, dI)) (ci := 3) (v := .int 1) (ty := .int) (C := RX0) (T := TX0) (N := 11) hx hb hts (by decide +kernel) tyX0 tyX0_ok nmX0 hown hK hP hD hS 0 rfl rfl 4 (by decide) (hts (.fieldLink RX0 15 "Versorhall$Algebra" "units" "I") (by decide +kernel)) (fun _ h9 => h9) rfl (by decide +kernel) rfl rfl (Nat.le_of_ble_eq_true rfl) dX0_init_11 (fun H locs hP hD hS => ?_)
  have hP : va_P (dC, dI) vwCl [(h0, .inr (3, [.int 0, .int 0, .int 0, .int 0, .int 1, .int 0, .null, .null, .null, .null, .null]))] H := hP
  have hD : va_D A [(h0, .inr (3, [.int 0, .int 0, .int 0, .int 0, .int 1, .int 0, .null, .null, .null, .null, .null]))] := hD
  refine lv_aload_n hx hb dX0_init_14 rfl (lv_at hl 0 rfl) ?_
  refine lv_iconst (v := 0) hx hb dX0_init_15 (by decide) ?_
  refine va_put (D := (dC, dI)) (ci := 3) (v := .int 0) (ty := .int) (C := RX0) (T := TX0) (N := 11) hx hb hts (by decide +kernel) tyX0 tyX0_ok nmX0 hown hK hP hD hS 0 rfl rfl 5 (by decide) (hts (.fieldLink RX0 18 "Versorhall$Algebra" "elementCount" "I") (by decide +kernel)) (fun _ h9 => h9) rfl (by decide +kernel) rfl rfl (Nat.le_of_ble_eq_true rfl) dX0_init_16 (fun H locs hP hD hS => ?_)
  have hP : va_P (dC, dI) vwCl [(h0, .inr (3, [.int 0, .int 0, .int 0, .int 0, .int 1, .int 0, .null, .null, .null, .null, .null]))] H := hP
  have hD : va_D A [(h0, .inr (3, [.int 0, .int 0, .int 0, .int 0, .int 1, .int 0, .null, .null, .null, .null, .null]))] := hD
  refine lv_aload_n hx hb dX0_init_19 rfl (lv_at hl 0 rfl) ?_
  refine va_new (ci := 6) (fs := [.null, .int 0]) (C := RX3) (T := TX3) (N := 2) hx hb hts (by decide +kernel) tyX3 tyX3_ok hown (hts (.classLink RX0 21 RX3) (by decide +kernel)) (hts (.instantiable RX3 2) (by decide +kernel)) (hts (.initialized RX3) (by decide +kernel)) hK hP hD hS hA rfl (fun j hj => by rcases (show j = 0 ∨ j = 1 by omega) with rfl | rfl <;> rfl) (Nat.le_of_ble_eq_true rfl) (Nat.le_of_ble_eq_true rfl) dX0_init_20 (fun q1 H hP hD hS => ?_)
  have hP : va_P (dC, dI) vwCl [(h0, .inr (3, [.int 0, .int 0, .int 0, .int 0, .int 1, .int 0, .null, .null, .null, .null, .null])), (q1, .inr (6, [.null, .int 0]))] H := hP
  have hD : va_D A [(h0, .inr (3, [.int 0, .int 0, .int 0, .int 0, .int 1, .int 0, .null, .null, .null, .null, .null])), (q1, .inr (6, [.null, .int 0]))] := hD
  refine W.widen (k := 1) (n := 2) (by omega) (by omega) ?_
  refine lv_dup hx hb dX0_init_23 rfl ?_
  have hPc := hP.sub (ws' := [(q1, .inr (6, [.null, .int 0]))]) [1] rfl
  have hDc := hD.sub (ws' := [(q1, .inr (6, [.null, .int 0]))]) [1] (by decide) rfl
  have hKc := hK.sub (tys' := []) [] rfl
  have hFc := va_free (wc := [(q1, .inr (6, [.null, .int 0]))]) hD hS hA [1] rfl
  refine va_callv (va_runI (As := []) (rest := [.ref q1, .ref h0]) ⟨hx, hb, hml, hown, hts⟩ (c_Pile_init l dC dI dE q1 H.size) (cwI 0 hts gX0_init_X3_init rfl rfl rfl (hts (.initialized RX3) (by decide +kernel)) (hts (.methodLink RX0 23 yX3_init) (by decide +kernel)) (hts (.instanceMethod yX3_init) (by decide +kernel)) rfl (by decide +kernel) ⟨Nat.le_of_ble_eq_true rfl, Nat.le_of_ble_eq_true rfl⟩) ⟨fun a U g mk q => ⟨q.1, PB.blind q.2⟩, fun U hU hW => ⟨rfl, PB.call hPc hKc hDc hTb hZ hS hFc hU hW⟩⟩ rfl rfl hl.1 rfl (lv_room (Nat.le_of_ble_eq_true rfl)) dX0_init_24 ⟨Nat.le_of_ble_eq_true rfl, Nat.le_of_ble_eq_true rfl⟩) hS (fun q _ h => hFc q h) hFc (fun u t H locs ht hvm hw hB hz1 hk1 hS => ?_)
  obtain ⟨hP, hD, hK⟩ := PE.join0 (wc := [(q1, .inr (6, [.null, .int 0]))]) (wr := [(h0, .inr (3, [.int 0, .int 0, .int 0, .int 0, .int 1, .int 0, .null, .null, .null, .null, .null]))]) (tr := []) hP hD hK [1] [0] [] rfl rfl rfl (by decide) (by decide) hk1 hFc
  have hP : va_P (dC, dI) vwCl [(h0, .inr (3, [.int 0, .int 0, .int 0, .int 0, .int 1, .int 0, .null, .null, .null, .null, .null]))] H := hP
  have hD : va_D A [(h0, .inr (3, [.int 0, .int 0, .int 0, .int 0, .int 1, .int 0, .null, .null, .null, .null, .null]))] := hD
  have hK : va_K (dC, dI) vwCl [] s := hK
  refine W.widen (k := 22) (n := 182) (by omega) (by omega) ?_
  refine va_putF (D := (dC, dI)) (ci := 3) (v := .ref q1) (ty := .object "Versorhall$Pile") (C := RX0) (T := TX0) (N := 11) hx hb hts (by decide +kernel) tyX0 tyX0_ok nmX0 hown hK hP hD hS 0 rfl rfl 6 (by decide) (hts (.fieldLink RX0 24 "Versorhall$Algebra" "mirrors" "LVersorhall$Pile;") (by decide +kernel)) (fun _ h9 => h9) rfl hin rfl (by decide +kernel) rfl rfl (Nat.le_of_ble_eq_true rfl) dX0_init_27 (fun H locs hP hD hS => ?_)
  have hP : va_P (dC, dI) vwCl [(h0, .inr (3, [.int 0, .int 0, .int 0, .int 0, .int 1, .int 0, .ref q1, .null, .null, .null, .null]))] H := hP
  have hD : va_D A [(h0, .inr (3, [.int 0, .int 0, .int 0, .int 0, .int 1, .int 0, .ref q1, .null, .null, .null, .null]))] := hD
  refine lv_aload_n hx hb dX0_init_30 rfl (lv_at hl 0 rfl) ?_
  refine lv_iconst (v := 4) hx hb dX0_init_31 (by decide) ?_
  refine va_newa (atype := .int) (ty := .int) (a0 := (4, .inl (fun _ => 0))) (n := 4) (N' := 4) hx hb (hts (.arrayClass .int) (by decide +kernel)) rfl hK hP hD hS hA (fun _ => rfl) (by decide) (by decide) (Nat.le_of_ble_eq_true rfl) (Nat.le_of_ble_eq_true rfl) (Nat.le_of_ble_eq_true rfl) dX0_init_32 (fun q2 cAq2 H hK hP hD hS => ?_)
  have hP : va_P (dC, dI) vwCl [(h0, .inr (3, [.int 0, .int 0, .int 0, .int 0, .int 1, .int 0, .ref q1, .null, .null, .null, .null])), (q2, .inl (cAq2, 4, .inl (fun _ => 0)))] H := hP
  have hD : va_D A [(h0, .inr (3, [.int 0, .int 0, .int 0, .int 0, .int 1, .int 0, .ref q1, .null, .null, .null, .null])), (q2, .inl (cAq2, 4, .inl (fun _ => 0)))] := hD
  have hK : va_K (dC, dI) vwCl [(cAq2, .int)] s := hK
  refine W.widen (k := 23) (n := 186) (by omega) (by omega) ?_
  refine va_putF (D := (dC, dI)) (ci := 3) (v := .ref q2) (ty := .array .int) (C := RX0) (T := TX0) (N := 11) hx hb hts (by decide +kernel) tyX0 tyX0_ok nmX0 hown hK hP hD hS 0 rfl rfl 7 (by decide) (hts (.fieldLink RX0 28 "Versorhall$Algebra" "dials" "[I") (by decide +kernel)) (fun _ h9 => h9) rfl hin rfl (by decide +kernel) rfl rfl (Nat.le_of_ble_eq_true rfl) dX0_init_34 (fun H locs hP hD hS => ?_)
  have hP : va_P (dC, dI) vwCl [(h0, .inr (3, [.int 0, .int 0, .int 0, .int 0, .int 1, .int 0, .ref q1, .ref q2, .null, .null, .null])), (q2, .inl (cAq2, 4, .inl (fun _ => 0)))] H := hP
  have hD : va_D A [(h0, .inr (3, [.int 0, .int 0, .int 0, .int 0, .int 1, .int 0, .ref q1, .ref q2, .null, .null, .null])), (q2, .inl (cAq2, 4, .inl (fun _ => 0)))] := hD
  refine lv_aload_n hx hb dX0_init_37 rfl (lv_at hl 0 rfl) ?_
  refine lv_sipush (v := 256) hx hb dX0_init_38 (by decide) ?_
  refine va_newa (atype := .int) (ty := .int) (a0 := (256, .inl (fun _ => 0))) (n := 256) (N' := 256) hx hb (hts (.arrayClass .int) (by decide +kernel)) rfl hK hP hD hS hA (fun _ => rfl) (by decide) (by decide) (Nat.le_of_ble_eq_true rfl) (Nat.le_of_ble_eq_true rfl) (Nat.le_of_ble_eq_true rfl) dX0_init_41 (fun q3 cAq3 H hK hP hD hS => ?_)
  have hP : va_P (dC, dI) vwCl [(h0, .inr (3, [.int 0, .int 0, .int 0, .int 0, .int 1, .int 0, .ref q1, .ref q2, .null, .null, .null])), (q2, .inl (cAq2, 4, .inl (fun _ => 0))), (q3, .inl (cAq3, 256, .inl (fun _ => 0)))] H := hP
  have hD : va_D A [(h0, .inr (3, [.int 0, .int 0, .int 0, .int 0, .int 1, .int 0, .ref q1, .ref q2, .null, .null, .null])), (q2, .inl (cAq2, 4, .inl (fun _ => 0))), (q3, .inl (cAq3, 256, .inl (fun _ => 0)))] := hD
  have hK : va_K (dC, dI) vwCl [(cAq2, .int), (cAq3, .int)] s := hK
  refine W.widen (k := 24) (n := 442) (by omega) (by omega) ?_
  refine va_putF (D := (dC, dI)) (ci := 3) (v := .ref q3) (ty := .array .int) (C := RX0) (T := TX0) (N := 11) hx hb hts (by decide +kernel) tyX0 tyX0_ok nmX0 hown hK hP hD hS 0 rfl rfl 8 (by decide) (hts (.fieldLink RX0 32 "Versorhall$Algebra" "signs" "[I") (by decide +kernel)) (fun _ h9 => h9) rfl hin rfl (by decide +kernel) rfl rfl (Nat.le_of_ble_eq_true rfl) dX0_init_43 (fun H locs hP hD hS => ?_)
  have hP : va_P (dC, dI) vwCl [(h0, .inr (3, [.int 0, .int 0, .int 0, .int 0, .int 1, .int 0, .ref q1, .ref q2, .ref q3, .null, .null])), (q2, .inl (cAq2, 4, .inl (fun _ => 0))), (q3, .inl (cAq3, 256, .inl (fun _ => 0)))] H := hP
  have hD : va_D A [(h0, .inr (3, [.int 0, .int 0, .int 0, .int 0, .int 1, .int 0, .ref q1, .ref q2, .ref q3, .null, .null])), (q2, .inl (cAq2, 4, .inl (fun _ => 0))), (q3, .inl (cAq3, 256, .inl (fun _ => 0)))] := hD
  refine lv_aload_n hx hb dX0_init_46 rfl (lv_at hl 0 rfl) ?_
  refine lv_iconst (v := 4) hx hb dX0_init_47 (by decide) ?_
  refine va_newa (atype := .int) (ty := .int) (a0 := (4, .inl (fun _ => 0))) (n := 4) (N' := 4) hx hb (hts (.arrayClass .int) (by decide +kernel)) rfl hK hP hD hS hA (fun _ => rfl) (by decide) (by decide) (Nat.le_of_ble_eq_true rfl) (Nat.le_of_ble_eq_true rfl) (Nat.le_of_ble_eq_true rfl) dX0_init_48 (fun q4 cAq4 H hK hP hD hS => ?_)
  have hP : va_P (dC, dI) vwCl [(h0, .inr (3, [.int 0, .int 0, .int 0, .int 0, .int 1, .int 0, .ref q1, .ref q2, .ref q3, .null, .null])), (q2, .inl (cAq2, 4, .inl (fun _ => 0))), (q3, .inl (cAq3, 256, .inl (fun _ => 0))), (q4, .inl (cAq4, 4, .inl (fun _ => 0)))] H := hP
  have hD : va_D A [(h0, .inr (3, [.int 0, .int 0, .int 0, .int 0, .int 1, .int 0, .ref q1, .ref q2, .ref q3, .null, .null])), (q2, .inl (cAq2, 4, .inl (fun _ => 0))), (q3, .inl (cAq3, 256, .inl (fun _ => 0))), (q4, .inl (cAq4, 4, .inl (fun _ => 0)))] := hD
  have hK : va_K (dC, dI) vwCl [(cAq2, .int), (cAq3, .int), (cAq4, .int)] s := hK
  refine W.widen (k := 25) (n := 446) (by omega) (by omega) ?_
  refine va_putF (D := (dC, dI)) (ci := 3) (v := .ref q4) (ty := .array .int) (C := RX0) (T := TX0) (N := 11) hx hb hts (by decide +kernel) tyX0 tyX0_ok nmX0 hown hK hP hD hS 0 rfl rfl 9 (by decide) (hts (.fieldLink RX0 35 "Versorhall$Algebra" "firstBreaks" "[I") (by decide +kernel)) (fun _ h9 => h9) rfl hin rfl (by decide +kernel) rfl rfl (Nat.le_of_ble_eq_true rfl) dX0_init_50 (fun H locs hP hD hS => ?_)
  have hP : va_P (dC, dI) vwCl [(h0, .inr (3, [.int 0, .int 0, .int 0, .int 0, .int 1, .int 0, .ref q1, .ref q2, .ref q3, .ref q4, .null])), (q2, .inl (cAq2, 4, .inl (fun _ => 0))), (q3, .inl (cAq3, 256, .inl (fun _ => 0))), (q4, .inl (cAq4, 4, .inl (fun _ => 0)))] H := hP
  have hD : va_D A [(h0, .inr (3, [.int 0, .int 0, .int 0, .int 0, .int 1, .int 0, .ref q1, .ref q2, .ref q3, .ref q4, .null])), (q2, .inl (cAq2, 4, .inl (fun _ => 0))), (q3, .inl (cAq3, 256, .inl (fun _ => 0))), (q4, .inl (cAq4, 4, .inl (fun _ => 0)))] := hD
  refine lv_aload_n hx hb dX0_init_53 rfl (lv_at hl 0 rfl) ?_
  refine va_new (ci := 7) (fs := [.null]) (C := RX4) (T := TX4) (N := 1) hx hb hts (by decide +kernel) tyX4 tyX4_ok hown (hts (.classLink RX0 38 RX4) (by decide +kernel)) (hts (.instantiable RX4 1) (by decide +kernel)) (hts (.initialized RX4) (by decide +kernel)) hK hP hD hS hA rfl (fun j hj => by rcases (show j = 0 by omega) with rfl <;> rfl) (Nat.le_of_ble_eq_true rfl) (Nat.le_of_ble_eq_true rfl) dX0_init_54 (fun q5 H hP hD hS => ?_)
  have hP : va_P (dC, dI) vwCl [(h0, .inr (3, [.int 0, .int 0, .int 0, .int 0, .int 1, .int 0, .ref q1, .ref q2, .ref q3, .ref q4, .null])), (q2, .inl (cAq2, 4, .inl (fun _ => 0))), (q3, .inl (cAq3, 256, .inl (fun _ => 0))), (q4, .inl (cAq4, 4, .inl (fun _ => 0))), (q5, .inr (7, [.null]))] H := hP
  have hD : va_D A [(h0, .inr (3, [.int 0, .int 0, .int 0, .int 0, .int 1, .int 0, .ref q1, .ref q2, .ref q3, .ref q4, .null])), (q2, .inl (cAq2, 4, .inl (fun _ => 0))), (q3, .inl (cAq3, 256, .inl (fun _ => 0))), (q4, .inl (cAq4, 4, .inl (fun _ => 0))), (q5, .inr (7, [.null]))] := hD
  refine W.widen (k := 26) (n := 447) (by omega) (by omega) ?_
  refine lv_dup hx hb dX0_init_57 rfl ?_
  have hPc := hP.sub (ws' := [(q5, .inr (7, [.null]))]) [4] rfl
  have hDc := hD.sub (ws' := [(q5, .inr (7, [.null]))]) [4] (by decide) rfl
  have hKc := hK.sub (tys' := []) [] rfl
  have hFc := va_free (wc := [(q5, .inr (7, [.null]))]) hD hS hA [4] rfl
  refine va_callv (va_runIN (As := []) (rest := [.ref q5, .ref h0]) ⟨hx, hb, hml, hown, hts⟩ (c_Row_init l dC dI dE q5 H.size) ⟨va_cnB 0 hts gX0_init_X4_init_n40 rfl rfl rfl (Tb_n5 hTb) (hts (.initialized RX4) (by decide +kernel)) ⟨by decide, by decide, by decide +kernel⟩ ⟨Nat.le_of_ble_eq_true rfl, Nat.le_of_ble_eq_true rfl⟩, rfl, (hts (.instanceMethod yX4_init) (by decide +kernel))⟩ ⟨fun a U g mk q => ⟨q.1, PB.blind q.2⟩, fun U hU hW => ⟨rfl, PB.call hPc hKc hDc hTb hZ hS hFc hU hW⟩⟩ rfl rfl hl.1 rfl (lv_room (Nat.le_of_ble_eq_true rfl)) dX0_init_58 ⟨Nat.le_of_ble_eq_true rfl, Nat.le_of_ble_eq_true rfl⟩) hS (fun q _ h => hFc q h) hFc (fun u t H locs ht hvm hw hB hz1 hk1 hS => ?_)
  obtain ⟨q6, hB⟩ := hB
  obtain ⟨hP, hD, hK⟩ := PE.join (wc := [(q5, .inr (7, [.null]))]) (wr := [(h0, .inr (3, [.int 0, .int 0, .int 0, .int 0, .int 1, .int 0, .ref q1, .ref q2, .ref q3, .ref q4, .null])), (q2, .inl (cAq2, 4, .inl (fun _ => 0))), (q3, .inl (cAq3, 256, .inl (fun _ => 0))), (q4, .inl (cAq4, 4, .inl (fun _ => 0)))]) (w1 := [(q5, .inr (7, [.ref q6]))]) (tr := [(cAq2, .int), (cAq3, .int), (cAq4, .int)]) (t1 := []) hP hD hK [4] [0, 1, 2, 3] [0, 1, 2] rfl rfl rfl (by decide) (by decide) hk1 hFc ht hvm hB
  have hP : va_P (dC, dI) vwCl [(h0, .inr (3, [.int 0, .int 0, .int 0, .int 0, .int 1, .int 0, .ref q1, .ref q2, .ref q3, .ref q4, .null])), (q2, .inl (cAq2, 4, .inl (fun _ => 0))), (q3, .inl (cAq3, 256, .inl (fun _ => 0))), (q4, .inl (cAq4, 4, .inl (fun _ => 0))), (q5, .inr (7, [.ref q6]))] H := hP
  have hD : va_D A [(h0, .inr (3, [.int 0, .int 0, .int 0, .int 0, .int 1, .int 0, .ref q1, .ref q2, .ref q3, .ref q4, .null])), (q2, .inl (cAq2, 4, .inl (fun _ => 0))), (q3, .inl (cAq3, 256, .inl (fun _ => 0))), (q4, .inl (cAq4, 4, .inl (fun _ => 0))), (q5, .inr (7, [.ref q6]))] := hD
  have hK : va_K (dC, dI) vwCl [(cAq2, .int), (cAq3, .int), (cAq4, .int)] s := hK
  refine W.widen (k := 27) (n := 463) (by omega) (by omega) ?_
  refine va_putF (D := (dC, dI)) (ci := 3) (v := .ref q5) (ty := .object "Versorhall$Row") (C := RX0) (T := TX0) (N := 11) hx hb hts (by decide +kernel) tyX0 tyX0_ok nmX0 hown hK hP hD hS 0 rfl rfl 10 (by decide) (hts (.fieldLink RX0 41 "Versorhall$Algebra" "gathered" "LVersorhall$Row;") (by decide +kernel)) (fun _ h9 => h9) rfl hin rfl (by decide +kernel) rfl rfl (Nat.le_of_ble_eq_true rfl) dX0_init_61 (fun H locs hP hD hS => ?_)
  have hP : va_P (dC, dI) vwCl [(h0, .inr (3, [.int 0, .int 0, .int 0, .int 0, .int 1, .int 0, .ref q1, .ref q2, .ref q3, .ref q4, .ref q5])), (q2, .inl (cAq2, 4, .inl (fun _ => 0))), (q3, .inl (cAq3, 256, .inl (fun _ => 0))), (q4, .inl (cAq4, 4, .inl (fun _ => 0))), (q5, .inr (7, [.ref q6]))] H := hP
  have hD : va_D A [(h0, .inr (3, [.int 0, .int 0, .int 0, .int 0, .int 1, .int 0, .ref q1, .ref q2, .ref q3, .ref q4, .ref q5])), (q2, .inl (cAq2, 4, .inl (fun _ => 0))), (q3, .inl (cAq3, 256, .inl (fun _ => 0))), (q4, .inl (cAq4, 4, .inl (fun _ => 0))), (q5, .inr (7, [.ref q6]))] := hD
  refine lv_aload_n hx hb dX0_init_64 rfl (lv_at hl 0 rfl) ?_
  refine lv_iload_n hx hb dX0_init_65 rfl (lv_at hl 1 rfl) ?_
  refine va_putF (D := (dC, dI)) (ci := 3) (v := .int 0) (ty := .int) (C := RX0) (T := TX0) (N := 11) hx hb hts (by decide +kernel) tyX0 tyX0_ok nmX0 hown hK hP hD hS 0 rfl rfl 0 (by decide) (hts (.fieldLink RX0 45 "Versorhall$Algebra" "number" "I") (by decide +kernel)) (fun _ h9 => h9) rfl hin rfl (by decide +kernel) rfl rfl (Nat.le_of_ble_eq_true rfl) dX0_init_66 (fun H locs hP hD hS => ?_)
  have hP : va_P (dC, dI) vwCl [(h0, .inr (3, [.int 0, .int 0, .int 0, .int 0, .int 1, .int 0, .ref q1, .ref q2, .ref q3, .ref q4, .ref q5])), (q2, .inl (cAq2, 4, .inl (fun _ => 0))), (q3, .inl (cAq3, 256, .inl (fun _ => 0))), (q4, .inl (cAq4, 4, .inl (fun _ => 0))), (q5, .inr (7, [.ref q6]))] H := hP
  have hD : va_D A [(h0, .inr (3, [.int 0, .int 0, .int 0, .int 0, .int 1, .int 0, .ref q1, .ref q2, .ref q3, .ref q4, .ref q5])), (q2, .inl (cAq2, 4, .inl (fun _ => 0))), (q3, .inl (cAq3, 256, .inl (fun _ => 0))), (q4, .inl (cAq4, 4, .inl (fun _ => 0))), (q5, .inr (7, [.ref q6]))] := hD
  refine lv_aload_n hx hb dX0_init_69 rfl (lv_at hl 0 rfl) ?_
  refine lv_iload_n hx hb dX0_init_70 rfl (lv_at hl 2 rfl) ?_
  refine va_putF (D := (dC, dI)) (ci := 3) (v := .int kd) (ty := .int) (C := RX0) (T := TX0) (N := 11) hx hb hts (by decide +kernel) tyX0 tyX0_ok nmX0 hown hK hP hD hS 0 rfl rfl 1 (by decide) (hts (.fieldLink RX0 48 "Versorhall$Algebra" "kind" "I") (by decide +kernel)) (fun _ h9 => h9) rfl hin rfl (by decide +kernel) rfl rfl (Nat.le_of_ble_eq_true rfl) dX0_init_71 (fun H locs hP hD hS => ?_)
  have hP : va_P (dC, dI) vwCl [(h0, .inr (3, [.int 0, .int kd, .int 0, .int 0, .int 1, .int 0, .ref q1, .ref q2, .ref q3, .ref q4, .ref q5])), (q2, .inl (cAq2, 4, .inl (fun _ => 0))), (q3, .inl (cAq3, 256, .inl (fun _ => 0))), (q4, .inl (cAq4, 4, .inl (fun _ => 0))), (q5, .inr (7, [.ref q6]))] H := hP
  have hD : va_D A [(h0, .inr (3, [.int 0, .int kd, .int 0, .int 0, .int 1, .int 0, .ref q1, .ref q2, .ref q3, .ref q4, .ref q5])), (q2, .inl (cAq2, 4, .inl (fun _ => 0))), (q3, .inl (cAq3, 256, .inl (fun _ => 0))), (q4, .inl (cAq4, 4, .inl (fun _ => 0))), (q5, .inr (7, [.ref q6]))] := hD
  refine lv_aload_n hx hb dX0_init_74 rfl (lv_at hl 0 rfl) ?_
  refine lv_iload_n hx hb dX0_init_75 rfl (lv_at hl 3 rfl) ?_
  refine va_putF (D := (dC, dI)) (ci := 3) (v := .int 7) (ty := .int) (C := RX0) (T := TX0) (N := 11) hx hb hts (by decide +kernel) tyX0 tyX0_ok nmX0 hown hK hP hD hS 0 rfl rfl 2 (by decide) (hts (.fieldLink RX0 51 "Versorhall$Algebra" "prime" "I") (by decide +kernel)) (fun _ h9 => h9) rfl hin rfl (by decide +kernel) rfl rfl (Nat.le_of_ble_eq_true rfl) dX0_init_76 (fun H locs hP hD hS => ?_)
  have hP : va_P (dC, dI) vwCl [(h0, .inr (3, [.int 0, .int kd, .int 7, .int 0, .int 1, .int 0, .ref q1, .ref q2, .ref q3, .ref q4, .ref q5])), (q2, .inl (cAq2, 4, .inl (fun _ => 0))), (q3, .inl (cAq3, 256, .inl (fun _ => 0))), (q4, .inl (cAq4, 4, .inl (fun _ => 0))), (q5, .inr (7, [.ref q6]))] H := hP
  have hD : va_D A [(h0, .inr (3, [.int 0, .int kd, .int 7, .int 0, .int 1, .int 0, .ref q1, .ref q2, .ref q3, .ref q4, .ref q5])), (q2, .inl (cAq2, 4, .inl (fun _ => 0))), (q3, .inl (cAq3, 256, .inl (fun _ => 0))), (q4, .inl (cAq4, 4, .inl (fun _ => 0))), (q5, .inr (7, [.ref q6]))] := hD
  refine lv_aload_n hx hb dX0_init_79 rfl (lv_at hl 0 rfl) ?_
  refine lv_iconst (v := 0) hx hb dX0_init_80 (by decide) ?_
  refine lv_iconst (v := 0) hx hb dX0_init_81 (by decide) ?_
  refine lv_iconst (v := 1) hx hb dX0_init_82 (by decide) ?_
  have hPc := hP.sub (ws' := [(h0, .inr (3, [.int 0, .int kd, .int 7, .int 0, .int 1, .int 0, .ref q1, .ref q2, .ref q3, .ref q4, .ref q5])), (q3, .inl (cAq3, 256, .inl (fun _ => 0)))]) [0, 2] rfl
  have hDc := hD.sub (ws' := [(h0, .inr (3, [.int 0, .int kd, .int 7, .int 0, .int 1, .int 0, .ref q1, .ref q2, .ref q3, .ref q4, .ref q5])), (q3, .inl (cAq3, 256, .inl (fun _ => 0)))]) [0, 2] (by decide) rfl
  have hKc := hK.sub (tys' := [(cAq3, .int)]) [1] rfl
  have hFc := va_free (wc := [(h0, .inr (3, [.int 0, .int kd, .int 7, .int 0, .int 1, .int 0, .ref q1, .ref q2, .ref q3, .ref q4, .ref q5])), (q3, .inl (cAq3, 256, .inl (fun _ => 0)))]) hD hS hA [0, 2] rfl
  refine va_callv (va_runV (As := [.int 0, .int 0, .int 1]) (rest := []) ⟨hx, hb, hml, hown, hts⟩ (c_A_putSign l dC dI dE h0 0 kd 7 0 1 0 q1 q2 q3 q4 q5 cAq3 (fun _ => 0) H.size) (cwV 3 hts gX0_init_X0_putSign rfl rfl rfl (by decide +kernel) ⟨Nat.le_of_ble_eq_true rfl, Nat.le_of_ble_eq_true rfl⟩) ⟨fun a U g mk q => ⟨q.1, PB.blind q.2⟩, va_recv hKc hPc (ci := 3) (q0 := 0) rfl rfl, fun U hU hW => ⟨rfl, PB.call hPc hKc hDc hTb hZ hS hFc hU hW⟩⟩ rfl rfl hl.1 rfl (lv_room (Nat.le_of_ble_eq_true rfl)) dX0_init_83 ⟨Nat.le_of_ble_eq_true rfl, Nat.le_of_ble_eq_true rfl⟩) hS (fun q _ h => hFc q h) hFc (fun u t H locs ht hvm hw hB hz1 hk1 hS => ?_)
  obtain ⟨g7, hB⟩ := hB
  obtain ⟨hP, hD, hK⟩ := PE.join (wc := [(h0, .inr (3, [.int 0, .int kd, .int 7, .int 0, .int 1, .int 0, .ref q1, .ref q2, .ref q3, .ref q4, .ref q5])), (q3, .inl (cAq3, 256, .inl (fun _ => 0)))]) (wr := [(q2, .inl (cAq2, 4, .inl (fun _ => 0))), (q4, .inl (cAq4, 4, .inl (fun _ => 0))), (q5, .inr (7, [.ref q6]))]) (w1 := [(h0, .inr (3, [.int 0, .int kd, .int 7, .int 0, .int 1, .int 0, .ref q1, .ref q2, .ref q3, .ref q4, .ref q5])), (q3, .inl (cAq3, 256, .inl g7))]) (tr := [(cAq2, .int), (cAq4, .int)]) (t1 := [(cAq3, .int)]) hP hD hK [0, 2] [1, 3, 4] [0, 2] rfl rfl rfl (by decide) (by decide) hk1 hFc ht hvm hB
  have hP : va_P (dC, dI) vwCl [(q2, .inl (cAq2, 4, .inl (fun _ => 0))), (q4, .inl (cAq4, 4, .inl (fun _ => 0))), (q5, .inr (7, [.ref q6])), (h0, .inr (3, [.int 0, .int kd, .int 7, .int 0, .int 1, .int 0, .ref q1, .ref q2, .ref q3, .ref q4, .ref q5])), (q3, .inl (cAq3, 256, .inl g7))] H := hP
  have hD : va_D A [(q2, .inl (cAq2, 4, .inl (fun _ => 0))), (q4, .inl (cAq4, 4, .inl (fun _ => 0))), (q5, .inr (7, [.ref q6])), (h0, .inr (3, [.int 0, .int kd, .int 7, .int 0, .int 1, .int 0, .ref q1, .ref q2, .ref q3, .ref q4, .ref q5])), (q3, .inl (cAq3, 256, .inl g7))] := hD
  have hK : va_K (dC, dI) vwCl [(cAq2, .int), (cAq4, .int), (cAq3, .int)] s := hK
  refine lv_aload_n hx hb dX0_init_86 rfl (lv_at hl 0 rfl) ?_
  have hPc := hP.sub (ws' := [(h0, .inr (3, [.int 0, .int kd, .int 7, .int 0, .int 1, .int 0, .ref q1, .ref q2, .ref q3, .ref q4, .ref q5])), (q4, .inl (cAq4, 4, .inl (fun _ => 0)))]) [3, 1] rfl
  have hDc := hD.sub (ws' := [(h0, .inr (3, [.int 0, .int kd, .int 7, .int 0, .int 1, .int 0, .ref q1, .ref q2, .ref q3, .ref q4, .ref q5])), (q4, .inl (cAq4, 4, .inl (fun _ => 0)))]) [3, 1] (by decide) rfl
  have hKc := hK.sub (tys' := [(cAq4, .int)]) [1] rfl
  have hFc := va_free (wc := [(h0, .inr (3, [.int 0, .int kd, .int 7, .int 0, .int 1, .int 0, .ref q1, .ref q2, .ref q3, .ref q4, .ref q5])), (q4, .inl (cAq4, 4, .inl (fun _ => 0)))]) hD hS hA [3, 1] rfl
  refine va_callv (va_runV (As := []) (rest := []) ⟨hx, hb, hml, hown, hts⟩ (c_A_forget l dC dI dE h0 0 kd 7 0 1 0 q1 q2 q3 q4 q5 cAq4 (fun _ => 0) H.size) (cwV 0 hts gX0_init_X0_forgetBreaks rfl rfl rfl (by decide +kernel) ⟨Nat.le_of_ble_eq_true rfl, Nat.le_of_ble_eq_true rfl⟩) ⟨fun a U g mk q => ⟨q.1, PB.blind q.2⟩, va_recv hKc hPc (ci := 3) (q0 := 0) rfl rfl, fun U hU hW => ⟨rfl, PB.call hPc hKc hDc hTb hZ hS hFc hU hW⟩⟩ rfl rfl hl.1 rfl (lv_room (Nat.le_of_ble_eq_true rfl)) dX0_init_87 ⟨Nat.le_of_ble_eq_true rfl, Nat.le_of_ble_eq_true rfl⟩) hS (fun q _ h => hFc q h) hFc (fun u t H locs ht hvm hw hB hz1 hk1 hS => ?_)
  obtain ⟨g8, hB⟩ := hB
  obtain ⟨hP, hD, hK⟩ := PE.join (wc := [(h0, .inr (3, [.int 0, .int kd, .int 7, .int 0, .int 1, .int 0, .ref q1, .ref q2, .ref q3, .ref q4, .ref q5])), (q4, .inl (cAq4, 4, .inl (fun _ => 0)))]) (wr := [(q2, .inl (cAq2, 4, .inl (fun _ => 0))), (q5, .inr (7, [.ref q6])), (q3, .inl (cAq3, 256, .inl g7))]) (w1 := [(h0, .inr (3, [.int 0, .int kd, .int 7, .int 0, .int 1, .int 0, .ref q1, .ref q2, .ref q3, .ref q4, .ref q5])), (q4, .inl (cAq4, 4, .inl g8))]) (tr := [(cAq2, .int), (cAq3, .int)]) (t1 := [(cAq4, .int)]) hP hD hK [3, 1] [0, 2, 4] [0, 2] rfl rfl rfl (by decide) (by decide) hk1 hFc ht hvm hB
  have hP : va_P (dC, dI) vwCl [(q2, .inl (cAq2, 4, .inl (fun _ => 0))), (q5, .inr (7, [.ref q6])), (q3, .inl (cAq3, 256, .inl g7)), (h0, .inr (3, [.int 0, .int kd, .int 7, .int 0, .int 1, .int 0, .ref q1, .ref q2, .ref q3, .ref q4, .ref q5])), (q4, .inl (cAq4, 4, .inl g8))] H := hP
  have hD : va_D A [(q2, .inl (cAq2, 4, .inl (fun _ => 0))), (q5, .inr (7, [.ref q6])), (q3, .inl (cAq3, 256, .inl g7)), (h0, .inr (3, [.int 0, .int kd, .int 7, .int 0, .int 1, .int 0, .ref q1, .ref q2, .ref q3, .ref q4, .ref q5])), (q4, .inl (cAq4, 4, .inl g8))] := hD
  have hK : va_K (dC, dI) vwCl [(cAq2, .int), (cAq3, .int), (cAq4, .int)] s := hK
  have hP9 := hP.sub (ws' := [(h0, .inr (3, [.int 0, .int kd, .int 7, .int 0, .int 1, .int 0, .ref q1, .ref q2, .ref q3, .ref q4, .ref q5]))]) [3] rfl
  have hD9 := hD.sub (ws' := [(h0, .inr (3, [.int 0, .int kd, .int 7, .int 0, .int 1, .int 0, .ref q1, .ref q2, .ref q3, .ref q4, .ref q5]))]) [3] (by decide) rfl
  have hK9 := hK.sub (tys' := []) [] rfl
  refine W.widen (k := 27) (n := 463) (Nat.le_of_ble_eq_true rfl) (Nat.le_of_ble_eq_true rfl) ?_
  exact W.vret hx hb hr (fun t ht hW => ⟨⟨(), rfl, trivial, ⟨q1, q2, q3, q4, q5, PE.mk hP9 hK9 hD9 ht hW⟩⟩, hS.F ht⟩) hS.2.2 dX0_init_90

set_option maxHeartbeats 4000000 in
set_option maxRecDepth 100000 in
/-- c_algebra_0 -/
theorem c_algebra_0 (l : Launch) (dC : Nat → ClassId) (dI : Nat → Nat → Nat) (dE : Nat) (h0 : Nat) (a1 : Nat) (a2 : Nat) (w1 : Nat) (p1 : Nat) (o1 : Nat) (cA1 : ClassId) (cA2 : ClassId) (sz : Nat) : Met l yX6_algebra wsX6_algebra ({ frames := 4, cells := 28, slots := 474, locals := 104 }) (va_Pc [.ref h0, .int 0] (PB dC dI dE [(cA1, .object RX0), (cA2, .object RX1)] [(h0, .inr (9, [.int 7, .ref a1, .int 0, .ref a2, .int 0, .int 0, .ref w1, .ref p1, .ref o1])), (a1, .inl (cA1, 4, .inr (.inr (.inr (.inr (fun _ => none)))))), (a2, .inl (cA2, 10, .inr (.inr (.inr (.inr (fun _ => none))))))] sz)) (va_Qi (fun (r : Int32) (_ : Unit) => r = 0) (fun (_ : Unit) (_ : State) => True) (va_A [(h0, .inr (9, [.int 7, .ref a1, .int 0, .ref a2, .int 0, .int 0, .ref w1, .ref p1, .ref o1])), (a1, .inl (cA1, 4, .inr (.inr (.inr (.inr (fun _ => none)))))), (a2, .inl (cA2, 10, .inr (.inr (.inr (.inr (fun _ => none))))))] sz)) 28 474 (va_A [(h0, .inr (9, [.int 7, .ref a1, .int 0, .ref a2, .int 0, .int 0, .ref w1, .ref p1, .ref o1])), (a1, .inl (cA1, 4, .inr (.inr (.inr (.inr (fun _ => none)))))), (a2, .inl (cA2, 10, .inr (.inr (.inr (.inr (fun _ => none))))))] sz) := by
  refine Met.ofW (cc := cX6_algebra) (maxL := 3) (ret := (some .int)) (by decide) rfl ?_
  intro p e s m args below meth c s₁ B hml hv
  obtain ⟨rfl, hsz, hP, hK, hD0, hTb, hZ⟩ := hv
  have hx := B.exec
  have hb := B.bytes
  have hr := B.returns
  have hts := atoms_spec (ws := wsX6_algebra) B.pre
  have hown : s.vm.findClass RX6 = some m.cls := findClass_of_methodNamed B.named
  have hlocks := B.notSynchronized
  subst hsz
  have hD := hD0.self (sz := s.heap.size)
  generalize hAe : va_A [(h0, .inr (9, [.int 7, .ref a1, .int 0, .ref a2, .int 0, .int 0, .ref w1, .ref p1, .ref o1])), (a1, .inl (cA1, 4, .inr (.inr (.inr (.inr (fun _ => none)))))), (a2, .inl (cA2, 10, .inr (.inr (.inr (.inr (fun _ => none))))))] s.heap.size = A at hD hZ ⊢
  have hA : ∀ q : Nat, s.heap.size ≤ q → A q := fun q h => by rw [← hAe]; exact Or.inr h
  have hS : va_S A s.heap s.heap [] := va_S.rf
  have hP : va_P (dC, dI) vwCl [(h0, .inr (9, [.int 7, .ref a1, .int 0, .ref a2, .int 0, .int 0, .ref w1, .ref p1, .ref o1])), (a1, .inl (cA1, 4, .inr (.inr (.inr (.inr (fun _ => none)))))), (a2, .inl (cA2, 10, .inr (.inr (.inr (.inr (fun _ => none))))))] s.heap := hP
  have hl := lv_entry ([.ref h0, .int 0]) (n := 3) (Nat.le_of_ble_eq_true rfl)
  rw [lg_entry_eq]
  generalize (lg_sl ([.ref h0, .int 0]) ++ List.replicate (3 - (lg_sl ([.ref h0, .int 0])).length) Slot.unset).toArray = ls at hl ⊢
  have hl : lv_has ls 3 [(0, .ref h0), (1, .int 0)] := hl
  obtain ⟨H, eH⟩ : ∃ z, z = s.heap := ⟨_, rfl⟩
  rw [← eH] at hP ⊢
  have hS : va_S A s.heap H [] := by rw [eH]; exact va_S.rf
  refine lv_iload_n hx hb dX6_algebra_0 rfl (lv_at hl 1 rfl) ?_
  refine lv_if_eq (tgt := 19) hx hb dX6_algebra_1 (by decide) (fun _ => ?_) (fun c9 => absurd (by decide) c9)
  refine lv_aload_n hx hb dX6_algebra_19 rfl (lv_at hl 0 rfl) ?_
  refine va_get (D := (dC, dI)) (ci := 9) (v := .int 0) (C := RX6) (T := TX6) (N := 9) hx hb hts (by decide +kernel) hown hK hP 0 rfl rfl 2 (by decide) (hts (.fieldLink RX6 19 "Versorhall" "algebraCount" "I") (by decide +kernel)) (fun _ h9 => h9) rfl dX6_algebra_20 ?_
  refine lv_if_lt (tgt := 38) hx hb dX6_algebra_23 (by decide) (fun c9 => absurd c9 (by decide)) (fun _ => ?_)
  refine lv_aload_n hx hb dX6_algebra_26 rfl (lv_at hl 0 rfl) ?_
  refine va_get (D := (dC, dI)) (ci := 9) (v := .int 0) (C := RX6) (T := TX6) (N := 9) hx hb hts (by decide +kernel) hown hK hP 0 rfl rfl 2 (by decide) (hts (.fieldLink RX6 19 "Versorhall" "algebraCount" "I") (by decide +kernel)) (fun _ h9 => h9) rfl dX6_algebra_27 ?_
  refine lv_aload_n hx hb dX6_algebra_30 rfl (lv_at hl 0 rfl) ?_
  refine va_get (D := (dC, dI)) (ci := 9) (v := .ref a1) (C := RX6) (T := TX6) (N := 9) hx hb hts (by decide +kernel) hown hK hP 0 rfl rfl 1 (by decide) (hts (.fieldLink RX6 15 "Versorhall" "algebras" "[LVersorhall$Algebra;") (by decide +kernel)) (fun _ h9 => h9) rfl dX6_algebra_31 ?_
  refine va_alen (v := 4) hx hb hK hP 1 0 rfl rfl (show Int32.ofNat 4 = 4 by decide) dX6_algebra_34 ?_
  refine lv_icmp_lt (tgt := 48) hx hb dX6_algebra_35 (by decide) (fun _ => ?_) (fun c9 => absurd (by decide) c9)
  refine lv_aload_n hx hb dX6_algebra_48 rfl (lv_at hl 0 rfl) ?_
  refine va_get (D := (dC, dI)) (ci := 9) (v := .int 0) (C := RX6) (T := TX6) (N := 9) hx hb hts (by decide +kernel) hown hK hP 0 rfl rfl 2 (by decide) (hts (.fieldLink RX6 19 "Versorhall" "algebraCount" "I") (by decide +kernel)) (fun _ h9 => h9) rfl dX6_algebra_49 ?_
  refine lv_istore_n (lv' := [(2, .int 0), (0, .ref h0), (1, .int 0)]) hx hb dX6_algebra_52 rfl hl (by decide) rfl (fun ls hl => ?_)
  refine lv_aload_n hx hb dX6_algebra_53 rfl (lv_at hl 1 rfl) ?_
  refine va_get (D := (dC, dI)) (ci := 9) (v := .ref a1) (C := RX6) (T := TX6) (N := 9) hx hb hts (by decide +kernel) hown hK hP 0 rfl rfl 1 (by decide) (hts (.fieldLink RX6 15 "Versorhall" "algebras" "[LVersorhall$Algebra;") (by decide +kernel)) (fun _ h9 => h9) rfl dX6_algebra_54 ?_
  refine lv_iload_n hx hb dX6_algebra_57 rfl (lv_at hl 0 rfl) ?_
  refine va_new (ci := 3) (fs := [.int 0, .int 0, .int 0, .int 0, .int 0, .int 0, .null, .null, .null, .null, .null]) (C := RX0) (T := TX0) (N := 11) hx hb hts (by decide +kernel) tyX0 tyX0_ok hown (hts (.classLink RX6 13 RX0) (by decide +kernel)) (hts (.instantiable RX0 11) (by decide +kernel)) (hts (.initialized RX0) (by decide +kernel)) hK hP hD hS hA rfl (fun j hj => by rcases (show j = 0 ∨ j = 1 ∨ j = 2 ∨ j = 3 ∨ j = 4 ∨ j = 5 ∨ j = 6 ∨ j = 7 ∨ j = 8 ∨ j = 9 ∨ j = 10 by omega) with rfl | rfl | rfl | rfl | rfl | rfl | rfl | rfl | rfl | rfl | rfl <;> rfl) (Nat.le_of_ble_eq_true rfl) (Nat.le_of_ble_eq_true rfl) dX6_algebra_58 (fun q1 H hP hD hS => ?_)
  have hP : va_P (dC, dI) vwCl [(h0, .inr (9, [.int 7, .ref a1, .int 0, .ref a2, .int 0, .int 0, .ref w1, .ref p1, .ref o1])), (a1, .inl (cA1, 4, .inr (.inr (.inr (.inr (fun _ => none)))))), (a2, .inl (cA2, 10, .inr (.inr (.inr (.inr (fun _ => none)))))), (q1, .inr (3, [.int 0, .int 0, .int 0, .int 0, .int 0, .int 0, .null, .null, .null, .null, .null]))] H := hP
  have hD : va_D A [(h0, .inr (9, [.int 7, .ref a1, .int 0, .ref a2, .int 0, .int 0, .ref w1, .ref p1, .ref o1])), (a1, .inl (cA1, 4, .inr (.inr (.inr (.inr (fun _ => none)))))), (a2, .inl (cA2, 10, .inr (.inr (.inr (.inr (fun _ => none)))))), (q1, .inr (3, [.int 0, .int 0, .int 0, .int 0, .int 0, .int 0, .null, .null, .null, .null, .null]))] := hD
  refine W.widen (k := 1) (n := 11) (by omega) (by omega) ?_
  refine lv_dup hx hb dX6_algebra_61 rfl ?_
  refine lv_iload_n hx hb dX6_algebra_62 rfl (lv_at hl 0 rfl) ?_
  refine lv_iload_n hx hb dX6_algebra_63 rfl (lv_at hl 2 rfl) ?_
  refine lv_aload_n hx hb dX6_algebra_64 rfl (lv_at hl 1 rfl) ?_
  refine va_get (D := (dC, dI)) (ci := 9) (v := .int 7) (C := RX6) (T := TX6) (N := 9) hx hb hts (by decide +kernel) hown hK hP 0 rfl rfl 0 (by decide) (hts (.fieldLink RX6 9 "Versorhall" "prime" "I") (by decide +kernel)) (fun _ h9 => h9) rfl dX6_algebra_65 ?_
  have hPc := hP.sub (ws' := [(q1, .inr (3, [.int 0, .int 0, .int 0, .int 0, .int 0, .int 0, .null, .null, .null, .null, .null]))]) [3] rfl
  have hDc := hD.sub (ws' := [(q1, .inr (3, [.int 0, .int 0, .int 0, .int 0, .int 0, .int 0, .null, .null, .null, .null, .null]))]) [3] (by decide) rfl
  have hKc := hK.sub (tys' := []) [] rfl
  have hFc := va_free (wc := [(q1, .inr (3, [.int 0, .int 0, .int 0, .int 0, .int 0, .int 0, .null, .null, .null, .null, .null]))]) hD hS hA [3] rfl
  refine va_callv (va_runI (As := [.int 0, .int 0, .int 7]) (rest := [.ref q1, .int 0, .ref a1]) ⟨hx, hb, hml, hown, hts⟩ (c_A_init l dC dI dE q1 0 H.size) (cwI 3 hts gX6_algebra_X0_init rfl rfl rfl (hts (.initialized RX0) (by decide +kernel)) (hts (.methodLink RX6 68 yX0_init) (by decide +kernel)) (hts (.instanceMethod yX0_init) (by decide +kernel)) rfl (by decide +kernel) ⟨Nat.le_of_ble_eq_true rfl, Nat.le_of_ble_eq_true rfl⟩) ⟨fun a U g mk q => ⟨q.1, PB.blind q.2⟩, fun U hU hW => ⟨rfl, PB.call hPc hKc hDc hTb hZ hS hFc hU hW⟩⟩ rfl rfl hl.1 rfl (lv_room (Nat.le_of_ble_eq_true rfl)) dX6_algebra_68 ⟨Nat.le_of_ble_eq_true rfl, Nat.le_of_ble_eq_true rfl⟩) hS (fun q _ h => hFc q h) hFc (fun u t H locs ht hvm hw hB hz1 hk1 hS => ?_)
  obtain ⟨q2, q3, q4, q5, q6, hB⟩ := hB
  obtain ⟨hP, hD, hK⟩ := PE.join (wc := [(q1, .inr (3, [.int 0, .int 0, .int 0, .int 0, .int 0, .int 0, .null, .null, .null, .null, .null]))]) (wr := [(h0, .inr (9, [.int 7, .ref a1, .int 0, .ref a2, .int 0, .int 0, .ref w1, .ref p1, .ref o1])), (a1, .inl (cA1, 4, .inr (.inr (.inr (.inr (fun _ => none)))))), (a2, .inl (cA2, 10, .inr (.inr (.inr (.inr (fun _ => none))))))]) (w1 := [(q1, .inr (3, [.int 0, .int 0, .int 7, .int 0, .int 1, .int 0, .ref q2, .ref q3, .ref q4, .ref q5, .ref q6]))]) (tr := [(cA1, .object RX0), (cA2, .object RX1)]) (t1 := []) hP hD hK [3] [0, 1, 2] [0, 1] rfl rfl rfl (by decide) (by decide) hk1 hFc ht hvm hB
  have hP : va_P (dC, dI) vwCl [(h0, .inr (9, [.int 7, .ref a1, .int 0, .ref a2, .int 0, .int 0, .ref w1, .ref p1, .ref o1])), (a1, .inl (cA1, 4, .inr (.inr (.inr (.inr (fun _ => none)))))), (a2, .inl (cA2, 10, .inr (.inr (.inr (.inr (fun _ => none)))))), (q1, .inr (3, [.int 0, .int 0, .int 7, .int 0, .int 1, .int 0, .ref q2, .ref q3, .ref q4, .ref q5, .ref q6]))] H := hP
  have hD : va_D A [(h0, .inr (9, [.int 7, .ref a1, .int 0, .ref a2, .int 0, .int 0, .ref w1, .ref p1, .ref o1])), (a1, .inl (cA1, 4, .inr (.inr (.inr (.inr (fun _ => none)))))), (a2, .inl (cA2, 10, .inr (.inr (.inr (.inr (fun _ => none)))))), (q1, .inr (3, [.int 0, .int 0, .int 7, .int 0, .int 1, .int 0, .ref q2, .ref q3, .ref q4, .ref q5, .ref q6]))] := hD
  have hK : va_K (dC, dI) vwCl [(cA1, .object RX0), (cA2, .object RX1)] s := hK
  refine W.widen (k := 28) (n := 474) (by omega) (by omega) ?_
  refine va_astq hx hb hK hP hD hS 1 0 3 3 rfl rfl rfl rfl (by unfold vp_in; decide) dX6_algebra_71 (fun H locs hP hD hS => ?_)
  generalize va_up (fun _ => none) (Int32.toNatClampNeg 0) (some q1) = g7 at hP hD
  have hP : va_P (dC, dI) vwCl [(h0, .inr (9, [.int 7, .ref a1, .int 0, .ref a2, .int 0, .int 0, .ref w1, .ref p1, .ref o1])), (a1, .inl (cA1, 4, .inr (.inr (.inr (.inr g7))))), (a2, .inl (cA2, 10, .inr (.inr (.inr (.inr (fun _ => none)))))), (q1, .inr (3, [.int 0, .int 0, .int 7, .int 0, .int 1, .int 0, .ref q2, .ref q3, .ref q4, .ref q5, .ref q6]))] H := hP
  have hD : va_D A [(h0, .inr (9, [.int 7, .ref a1, .int 0, .ref a2, .int 0, .int 0, .ref w1, .ref p1, .ref o1])), (a1, .inl (cA1, 4, .inr (.inr (.inr (.inr g7))))), (a2, .inl (cA2, 10, .inr (.inr (.inr (.inr (fun _ => none)))))), (q1, .inr (3, [.int 0, .int 0, .int 7, .int 0, .int 1, .int 0, .ref q2, .ref q3, .ref q4, .ref q5, .ref q6]))] := hD
  refine lv_aload_n hx hb dX6_algebra_72 rfl (lv_at hl 1 rfl) ?_
  refine lv_iload_n hx hb dX6_algebra_73 rfl (lv_at hl 0 rfl) ?_
  refine lv_iconst (v := 1) hx hb dX6_algebra_74 (by decide) ?_
  refine lv_iadd hx hb dX6_algebra_75 ?_
  refine lv_topi (fun f8 ef8 => ?_)
  obtain rfl : f8 = 1 := ef8.trans (by decide)
  refine va_put (D := (dC, dI)) (ci := 9) (v := .int 1) (ty := .int) (C := RX6) (T := TX6) (N := 9) hx hb hts (by decide +kernel) tyX6 tyX6_ok nmX6 hown hK hP hD hS 0 rfl rfl 2 (by decide) (hts (.fieldLink RX6 19 "Versorhall" "algebraCount" "I") (by decide +kernel)) (fun _ h9 => h9) rfl (by decide +kernel) rfl rfl (Nat.le_of_ble_eq_true rfl) dX6_algebra_76 (fun H locs hP hD hS => ?_)
  have hP : va_P (dC, dI) vwCl [(h0, .inr (9, [.int 7, .ref a1, .int 1, .ref a2, .int 0, .int 0, .ref w1, .ref p1, .ref o1])), (a1, .inl (cA1, 4, .inr (.inr (.inr (.inr g7))))), (a2, .inl (cA2, 10, .inr (.inr (.inr (.inr (fun _ => none)))))), (q1, .inr (3, [.int 0, .int 0, .int 7, .int 0, .int 1, .int 0, .ref q2, .ref q3, .ref q4, .ref q5, .ref q6]))] H := hP
  have hD : va_D A [(h0, .inr (9, [.int 7, .ref a1, .int 1, .ref a2, .int 0, .int 0, .ref w1, .ref p1, .ref o1])), (a1, .inl (cA1, 4, .inr (.inr (.inr (.inr g7))))), (a2, .inl (cA2, 10, .inr (.inr (.inr (.inr (fun _ => none)))))), (q1, .inr (3, [.int 0, .int 0, .int 7, .int 0, .int 1, .int 0, .ref q2, .ref q3, .ref q4, .ref q5, .ref q6]))] := hD
  refine lv_iload_n hx hb dX6_algebra_79 rfl (lv_at hl 0 rfl) ?_
  refine W.widen (k := 28) (n := 474) (Nat.le_of_ble_eq_true rfl) (Nat.le_of_ble_eq_true rfl) ?_
  exact W.iret (v := 0) hx hb hr (fun t ht hW => ⟨⟨_, (), rfl, rfl, trivial⟩, hS.F ht⟩) hS.2.2 dX6_algebra_80

set_option maxHeartbeats 4000000 in
set_option maxRecDepth 100000 in
/-- c_algebra_1 -/
theorem c_algebra_1 (l : Launch) (dC : Nat → ClassId) (dI : Nat → Nat → Nat) (dE : Nat) (h0 : Nat) (a1 : Nat) (a2 : Nat) (w1 : Nat) (p1 : Nat) (o1 : Nat) (cA1 : ClassId) (cA2 : ClassId) (sz : Nat) : Met l yX6_algebra wsX6_algebra ({ frames := 4, cells := 28, slots := 474, locals := 104 }) (va_Pc [.ref h0, .int 1] (PB dC dI dE [(cA1, .object RX0), (cA2, .object RX1)] [(h0, .inr (9, [.int 7, .ref a1, .int 0, .ref a2, .int 0, .int 0, .ref w1, .ref p1, .ref o1])), (a1, .inl (cA1, 4, .inr (.inr (.inr (.inr (fun _ => none)))))), (a2, .inl (cA2, 10, .inr (.inr (.inr (.inr (fun _ => none))))))] sz)) (va_Qi (fun (r : Int32) (_ : Unit) => r = 0) (fun (_ : Unit) (_ : State) => True) (va_A [(h0, .inr (9, [.int 7, .ref a1, .int 0, .ref a2, .int 0, .int 0, .ref w1, .ref p1, .ref o1])), (a1, .inl (cA1, 4, .inr (.inr (.inr (.inr (fun _ => none)))))), (a2, .inl (cA2, 10, .inr (.inr (.inr (.inr (fun _ => none))))))] sz)) 28 474 (va_A [(h0, .inr (9, [.int 7, .ref a1, .int 0, .ref a2, .int 0, .int 0, .ref w1, .ref p1, .ref o1])), (a1, .inl (cA1, 4, .inr (.inr (.inr (.inr (fun _ => none)))))), (a2, .inl (cA2, 10, .inr (.inr (.inr (.inr (fun _ => none))))))] sz) := by
  refine Met.ofW (cc := cX6_algebra) (maxL := 3) (ret := (some .int)) (by decide) rfl ?_
  intro p e s m args below meth c s₁ B hml hv
  obtain ⟨rfl, hsz, hP, hK, hD0, hTb, hZ⟩ := hv
  have hx := B.exec
  have hb := B.bytes
  have hr := B.returns
  have hts := atoms_spec (ws := wsX6_algebra) B.pre
  have hown : s.vm.findClass RX6 = some m.cls := findClass_of_methodNamed B.named
  have hlocks := B.notSynchronized
  subst hsz
  have hD := hD0.self (sz := s.heap.size)
  generalize hAe : va_A [(h0, .inr (9, [.int 7, .ref a1, .int 0, .ref a2, .int 0, .int 0, .ref w1, .ref p1, .ref o1])), (a1, .inl (cA1, 4, .inr (.inr (.inr (.inr (fun _ => none)))))), (a2, .inl (cA2, 10, .inr (.inr (.inr (.inr (fun _ => none))))))] s.heap.size = A at hD hZ ⊢
  have hA : ∀ q : Nat, s.heap.size ≤ q → A q := fun q h => by rw [← hAe]; exact Or.inr h
  have hS : va_S A s.heap s.heap [] := va_S.rf
  have hP : va_P (dC, dI) vwCl [(h0, .inr (9, [.int 7, .ref a1, .int 0, .ref a2, .int 0, .int 0, .ref w1, .ref p1, .ref o1])), (a1, .inl (cA1, 4, .inr (.inr (.inr (.inr (fun _ => none)))))), (a2, .inl (cA2, 10, .inr (.inr (.inr (.inr (fun _ => none))))))] s.heap := hP
  have hl := lv_entry ([.ref h0, .int 1]) (n := 3) (Nat.le_of_ble_eq_true rfl)
  rw [lg_entry_eq]
  generalize (lg_sl ([.ref h0, .int 1]) ++ List.replicate (3 - (lg_sl ([.ref h0, .int 1])).length) Slot.unset).toArray = ls at hl ⊢
  have hl : lv_has ls 3 [(0, .ref h0), (1, .int 1)] := hl
  obtain ⟨H, eH⟩ : ∃ z, z = s.heap := ⟨_, rfl⟩
  rw [← eH] at hP ⊢
  have hS : va_S A s.heap H [] := by rw [eH]; exact va_S.rf
  refine lv_iload_n hx hb dX6_algebra_0 rfl (lv_at hl 1 rfl) ?_
  refine lv_if_eq (tgt := 19) hx hb dX6_algebra_1 (by decide) (fun c9 => absurd c9 (by decide)) (fun _ => ?_)
  refine lv_iload_n hx hb dX6_algebra_4 rfl (lv_at hl 1 rfl) ?_
  refine lv_iconst (v := 1) hx hb dX6_algebra_5 (by decide) ?_
  refine lv_icmp_eq (tgt := 19) hx hb dX6_algebra_6 (by decide) (fun _ => ?_) (fun c9 => absurd (by decide) c9)
  refine lv_aload_n hx hb dX6_algebra_19 rfl (lv_at hl 0 rfl) ?_
  refine va_get (D := (dC, dI)) (ci := 9) (v := .int 0) (C := RX6) (T := TX6) (N := 9) hx hb hts (by decide +kernel) hown hK hP 0 rfl rfl 2 (by decide) (hts (.fieldLink RX6 19 "Versorhall" "algebraCount" "I") (by decide +kernel)) (fun _ h9 => h9) rfl dX6_algebra_20 ?_
  refine lv_if_lt (tgt := 38) hx hb dX6_algebra_23 (by decide) (fun c9 => absurd c9 (by decide)) (fun _ => ?_)
  refine lv_aload_n hx hb dX6_algebra_26 rfl (lv_at hl 0 rfl) ?_
  refine va_get (D := (dC, dI)) (ci := 9) (v := .int 0) (C := RX6) (T := TX6) (N := 9) hx hb hts (by decide +kernel) hown hK hP 0 rfl rfl 2 (by decide) (hts (.fieldLink RX6 19 "Versorhall" "algebraCount" "I") (by decide +kernel)) (fun _ h9 => h9) rfl dX6_algebra_27 ?_
  refine lv_aload_n hx hb dX6_algebra_30 rfl (lv_at hl 0 rfl) ?_
  refine va_get (D := (dC, dI)) (ci := 9) (v := .ref a1) (C := RX6) (T := TX6) (N := 9) hx hb hts (by decide +kernel) hown hK hP 0 rfl rfl 1 (by decide) (hts (.fieldLink RX6 15 "Versorhall" "algebras" "[LVersorhall$Algebra;") (by decide +kernel)) (fun _ h9 => h9) rfl dX6_algebra_31 ?_
  refine va_alen (v := 4) hx hb hK hP 1 0 rfl rfl (show Int32.ofNat 4 = 4 by decide) dX6_algebra_34 ?_
  refine lv_icmp_lt (tgt := 48) hx hb dX6_algebra_35 (by decide) (fun _ => ?_) (fun c9 => absurd (by decide) c9)
  refine lv_aload_n hx hb dX6_algebra_48 rfl (lv_at hl 0 rfl) ?_
  refine va_get (D := (dC, dI)) (ci := 9) (v := .int 0) (C := RX6) (T := TX6) (N := 9) hx hb hts (by decide +kernel) hown hK hP 0 rfl rfl 2 (by decide) (hts (.fieldLink RX6 19 "Versorhall" "algebraCount" "I") (by decide +kernel)) (fun _ h9 => h9) rfl dX6_algebra_49 ?_
  refine lv_istore_n (lv' := [(2, .int 0), (0, .ref h0), (1, .int 1)]) hx hb dX6_algebra_52 rfl hl (by decide) rfl (fun ls hl => ?_)
  refine lv_aload_n hx hb dX6_algebra_53 rfl (lv_at hl 1 rfl) ?_
  refine va_get (D := (dC, dI)) (ci := 9) (v := .ref a1) (C := RX6) (T := TX6) (N := 9) hx hb hts (by decide +kernel) hown hK hP 0 rfl rfl 1 (by decide) (hts (.fieldLink RX6 15 "Versorhall" "algebras" "[LVersorhall$Algebra;") (by decide +kernel)) (fun _ h9 => h9) rfl dX6_algebra_54 ?_
  refine lv_iload_n hx hb dX6_algebra_57 rfl (lv_at hl 0 rfl) ?_
  refine va_new (ci := 3) (fs := [.int 0, .int 0, .int 0, .int 0, .int 0, .int 0, .null, .null, .null, .null, .null]) (C := RX0) (T := TX0) (N := 11) hx hb hts (by decide +kernel) tyX0 tyX0_ok hown (hts (.classLink RX6 13 RX0) (by decide +kernel)) (hts (.instantiable RX0 11) (by decide +kernel)) (hts (.initialized RX0) (by decide +kernel)) hK hP hD hS hA rfl (fun j hj => by rcases (show j = 0 ∨ j = 1 ∨ j = 2 ∨ j = 3 ∨ j = 4 ∨ j = 5 ∨ j = 6 ∨ j = 7 ∨ j = 8 ∨ j = 9 ∨ j = 10 by omega) with rfl | rfl | rfl | rfl | rfl | rfl | rfl | rfl | rfl | rfl | rfl <;> rfl) (Nat.le_of_ble_eq_true rfl) (Nat.le_of_ble_eq_true rfl) dX6_algebra_58 (fun q1 H hP hD hS => ?_)
  have hP : va_P (dC, dI) vwCl [(h0, .inr (9, [.int 7, .ref a1, .int 0, .ref a2, .int 0, .int 0, .ref w1, .ref p1, .ref o1])), (a1, .inl (cA1, 4, .inr (.inr (.inr (.inr (fun _ => none)))))), (a2, .inl (cA2, 10, .inr (.inr (.inr (.inr (fun _ => none)))))), (q1, .inr (3, [.int 0, .int 0, .int 0, .int 0, .int 0, .int 0, .null, .null, .null, .null, .null]))] H := hP
  have hD : va_D A [(h0, .inr (9, [.int 7, .ref a1, .int 0, .ref a2, .int 0, .int 0, .ref w1, .ref p1, .ref o1])), (a1, .inl (cA1, 4, .inr (.inr (.inr (.inr (fun _ => none)))))), (a2, .inl (cA2, 10, .inr (.inr (.inr (.inr (fun _ => none)))))), (q1, .inr (3, [.int 0, .int 0, .int 0, .int 0, .int 0, .int 0, .null, .null, .null, .null, .null]))] := hD
  refine W.widen (k := 1) (n := 11) (by omega) (by omega) ?_
  refine lv_dup hx hb dX6_algebra_61 rfl ?_
  refine lv_iload_n hx hb dX6_algebra_62 rfl (lv_at hl 0 rfl) ?_
  refine lv_iload_n hx hb dX6_algebra_63 rfl (lv_at hl 2 rfl) ?_
  refine lv_aload_n hx hb dX6_algebra_64 rfl (lv_at hl 1 rfl) ?_
  refine va_get (D := (dC, dI)) (ci := 9) (v := .int 7) (C := RX6) (T := TX6) (N := 9) hx hb hts (by decide +kernel) hown hK hP 0 rfl rfl 0 (by decide) (hts (.fieldLink RX6 9 "Versorhall" "prime" "I") (by decide +kernel)) (fun _ h9 => h9) rfl dX6_algebra_65 ?_
  have hPc := hP.sub (ws' := [(q1, .inr (3, [.int 0, .int 0, .int 0, .int 0, .int 0, .int 0, .null, .null, .null, .null, .null]))]) [3] rfl
  have hDc := hD.sub (ws' := [(q1, .inr (3, [.int 0, .int 0, .int 0, .int 0, .int 0, .int 0, .null, .null, .null, .null, .null]))]) [3] (by decide) rfl
  have hKc := hK.sub (tys' := []) [] rfl
  have hFc := va_free (wc := [(q1, .inr (3, [.int 0, .int 0, .int 0, .int 0, .int 0, .int 0, .null, .null, .null, .null, .null]))]) hD hS hA [3] rfl
  refine va_callv (va_runI (As := [.int 0, .int 1, .int 7]) (rest := [.ref q1, .int 0, .ref a1]) ⟨hx, hb, hml, hown, hts⟩ (c_A_init l dC dI dE q1 1 H.size) (cwI 3 hts gX6_algebra_X0_init rfl rfl rfl (hts (.initialized RX0) (by decide +kernel)) (hts (.methodLink RX6 68 yX0_init) (by decide +kernel)) (hts (.instanceMethod yX0_init) (by decide +kernel)) rfl (by decide +kernel) ⟨Nat.le_of_ble_eq_true rfl, Nat.le_of_ble_eq_true rfl⟩) ⟨fun a U g mk q => ⟨q.1, PB.blind q.2⟩, fun U hU hW => ⟨rfl, PB.call hPc hKc hDc hTb hZ hS hFc hU hW⟩⟩ rfl rfl hl.1 rfl (lv_room (Nat.le_of_ble_eq_true rfl)) dX6_algebra_68 ⟨Nat.le_of_ble_eq_true rfl, Nat.le_of_ble_eq_true rfl⟩) hS (fun q _ h => hFc q h) hFc (fun u t H locs ht hvm hw hB hz1 hk1 hS => ?_)
  obtain ⟨q2, q3, q4, q5, q6, hB⟩ := hB
  obtain ⟨hP, hD, hK⟩ := PE.join (wc := [(q1, .inr (3, [.int 0, .int 0, .int 0, .int 0, .int 0, .int 0, .null, .null, .null, .null, .null]))]) (wr := [(h0, .inr (9, [.int 7, .ref a1, .int 0, .ref a2, .int 0, .int 0, .ref w1, .ref p1, .ref o1])), (a1, .inl (cA1, 4, .inr (.inr (.inr (.inr (fun _ => none)))))), (a2, .inl (cA2, 10, .inr (.inr (.inr (.inr (fun _ => none))))))]) (w1 := [(q1, .inr (3, [.int 0, .int 1, .int 7, .int 0, .int 1, .int 0, .ref q2, .ref q3, .ref q4, .ref q5, .ref q6]))]) (tr := [(cA1, .object RX0), (cA2, .object RX1)]) (t1 := []) hP hD hK [3] [0, 1, 2] [0, 1] rfl rfl rfl (by decide) (by decide) hk1 hFc ht hvm hB
  have hP : va_P (dC, dI) vwCl [(h0, .inr (9, [.int 7, .ref a1, .int 0, .ref a2, .int 0, .int 0, .ref w1, .ref p1, .ref o1])), (a1, .inl (cA1, 4, .inr (.inr (.inr (.inr (fun _ => none)))))), (a2, .inl (cA2, 10, .inr (.inr (.inr (.inr (fun _ => none)))))), (q1, .inr (3, [.int 0, .int 1, .int 7, .int 0, .int 1, .int 0, .ref q2, .ref q3, .ref q4, .ref q5, .ref q6]))] H := hP
  have hD : va_D A [(h0, .inr (9, [.int 7, .ref a1, .int 0, .ref a2, .int 0, .int 0, .ref w1, .ref p1, .ref o1])), (a1, .inl (cA1, 4, .inr (.inr (.inr (.inr (fun _ => none)))))), (a2, .inl (cA2, 10, .inr (.inr (.inr (.inr (fun _ => none)))))), (q1, .inr (3, [.int 0, .int 1, .int 7, .int 0, .int 1, .int 0, .ref q2, .ref q3, .ref q4, .ref q5, .ref q6]))] := hD
  have hK : va_K (dC, dI) vwCl [(cA1, .object RX0), (cA2, .object RX1)] s := hK
  refine W.widen (k := 28) (n := 474) (by omega) (by omega) ?_
  refine va_astq hx hb hK hP hD hS 1 0 3 3 rfl rfl rfl rfl (by unfold vp_in; decide) dX6_algebra_71 (fun H locs hP hD hS => ?_)
  generalize va_up (fun _ => none) (Int32.toNatClampNeg 0) (some q1) = g7 at hP hD
  have hP : va_P (dC, dI) vwCl [(h0, .inr (9, [.int 7, .ref a1, .int 0, .ref a2, .int 0, .int 0, .ref w1, .ref p1, .ref o1])), (a1, .inl (cA1, 4, .inr (.inr (.inr (.inr g7))))), (a2, .inl (cA2, 10, .inr (.inr (.inr (.inr (fun _ => none)))))), (q1, .inr (3, [.int 0, .int 1, .int 7, .int 0, .int 1, .int 0, .ref q2, .ref q3, .ref q4, .ref q5, .ref q6]))] H := hP
  have hD : va_D A [(h0, .inr (9, [.int 7, .ref a1, .int 0, .ref a2, .int 0, .int 0, .ref w1, .ref p1, .ref o1])), (a1, .inl (cA1, 4, .inr (.inr (.inr (.inr g7))))), (a2, .inl (cA2, 10, .inr (.inr (.inr (.inr (fun _ => none)))))), (q1, .inr (3, [.int 0, .int 1, .int 7, .int 0, .int 1, .int 0, .ref q2, .ref q3, .ref q4, .ref q5, .ref q6]))] := hD
  refine lv_aload_n hx hb dX6_algebra_72 rfl (lv_at hl 1 rfl) ?_
  refine lv_iload_n hx hb dX6_algebra_73 rfl (lv_at hl 0 rfl) ?_
  refine lv_iconst (v := 1) hx hb dX6_algebra_74 (by decide) ?_
  refine lv_iadd hx hb dX6_algebra_75 ?_
  refine lv_topi (fun f8 ef8 => ?_)
  obtain rfl : f8 = 1 := ef8.trans (by decide)
  refine va_put (D := (dC, dI)) (ci := 9) (v := .int 1) (ty := .int) (C := RX6) (T := TX6) (N := 9) hx hb hts (by decide +kernel) tyX6 tyX6_ok nmX6 hown hK hP hD hS 0 rfl rfl 2 (by decide) (hts (.fieldLink RX6 19 "Versorhall" "algebraCount" "I") (by decide +kernel)) (fun _ h9 => h9) rfl (by decide +kernel) rfl rfl (Nat.le_of_ble_eq_true rfl) dX6_algebra_76 (fun H locs hP hD hS => ?_)
  have hP : va_P (dC, dI) vwCl [(h0, .inr (9, [.int 7, .ref a1, .int 1, .ref a2, .int 0, .int 0, .ref w1, .ref p1, .ref o1])), (a1, .inl (cA1, 4, .inr (.inr (.inr (.inr g7))))), (a2, .inl (cA2, 10, .inr (.inr (.inr (.inr (fun _ => none)))))), (q1, .inr (3, [.int 0, .int 1, .int 7, .int 0, .int 1, .int 0, .ref q2, .ref q3, .ref q4, .ref q5, .ref q6]))] H := hP
  have hD : va_D A [(h0, .inr (9, [.int 7, .ref a1, .int 1, .ref a2, .int 0, .int 0, .ref w1, .ref p1, .ref o1])), (a1, .inl (cA1, 4, .inr (.inr (.inr (.inr g7))))), (a2, .inl (cA2, 10, .inr (.inr (.inr (.inr (fun _ => none)))))), (q1, .inr (3, [.int 0, .int 1, .int 7, .int 0, .int 1, .int 0, .ref q2, .ref q3, .ref q4, .ref q5, .ref q6]))] := hD
  refine lv_iload_n hx hb dX6_algebra_79 rfl (lv_at hl 0 rfl) ?_
  refine W.widen (k := 28) (n := 474) (Nat.le_of_ble_eq_true rfl) (Nat.le_of_ble_eq_true rfl) ?_
  exact W.iret (v := 0) hx hb hr (fun t ht hW => ⟨⟨_, (), rfl, rfl, trivial⟩, hS.F ht⟩) hS.2.2 dX6_algebra_80

set_option maxHeartbeats 4000000 in
set_option maxRecDepth 100000 in
/-- c_algebra_no -/
theorem c_algebra_no (l : Launch) (hst : l.stackTraces = false) (dC : Nat → ClassId) (dI : Nat → Nat → Nat) (dE : Nat) (h0 : Nat) (a1 : Nat) (a2 : Nat) (w1 : Nat) (p1 : Nat) (o1 : Nat) (cA1 : ClassId) (cA2 : ClassId) (k : Int32) (sz : Nat) (n0 : ¬ k = 0) (n1 : ¬ k = 1) : vx_Met l yX6_algebra wsX6_algebra ({ frames := 8, cells := 1, slots := 6, locals := 120 }) (va_Pc [.ref h0, .int k] (PB dC dI dE [(cA1, .object RX0), (cA2, .object RX1)] [(h0, .inr (9, [.int 7, .ref a1, .int 0, .ref a2, .int 0, .int 0, .ref w1, .ref p1, .ref o1])), (a1, .inl (cA1, 4, .inr (.inr (.inr (.inr (fun _ => none)))))), (a2, .inl (cA2, 10, .inr (.inr (.inr (.inr (fun _ => none))))))] sz)) (va_Qi (fun (_ : Int32) (_ : Unit) => False) (fun (_ : Unit) (_ : State) => True) (va_A [(h0, .inr (9, [.int 7, .ref a1, .int 0, .ref a2, .int 0, .int 0, .ref w1, .ref p1, .ref o1])), (a1, .inl (cA1, 4, .inr (.inr (.inr (.inr (fun _ => none)))))), (a2, .inl (cA2, 10, .inr (.inr (.inr (.inr (fun _ => none))))))] sz)) (vx_X (fun (_ : Unit) => True) (fun (E : String) (_ : Unit) (_ : State) => E = "java/lang/IllegalArgumentException") (va_A [(h0, .inr (9, [.int 7, .ref a1, .int 0, .ref a2, .int 0, .int 0, .ref w1, .ref p1, .ref o1])), (a1, .inl (cA1, 4, .inr (.inr (.inr (.inr (fun _ => none)))))), (a2, .inl (cA2, 10, .inr (.inr (.inr (.inr (fun _ => none))))))] sz)) 1 6 (va_A [(h0, .inr (9, [.int 7, .ref a1, .int 0, .ref a2, .int 0, .int 0, .ref w1, .ref p1, .ref o1])), (a1, .inl (cA1, 4, .inr (.inr (.inr (.inr (fun _ => none)))))), (a2, .inl (cA2, 10, .inr (.inr (.inr (.inr (fun _ => none))))))] sz) := by
  refine vx_ofW (cc := cX6_algebra) (maxL := 3) (ret := (some .int)) (by decide) rfl ?_
  intro p e s m args below meth c s₁ B hml hex hv
  obtain ⟨rfl, hsz, hP, hK, hD0, hTb, hZ⟩ := hv
  have hx := B.exec
  have hb := B.bytes
  have hr := B.returns
  have hts := atoms_spec (ws := wsX6_algebra) B.pre
  have hown : s.vm.findClass RX6 = some m.cls := findClass_of_methodNamed B.named
  have hlocks := B.notSynchronized
  subst hsz
  have hD := hD0.self (sz := s.heap.size)
  generalize hAe : va_A [(h0, .inr (9, [.int 7, .ref a1, .int 0, .ref a2, .int 0, .int 0, .ref w1, .ref p1, .ref o1])), (a1, .inl (cA1, 4, .inr (.inr (.inr (.inr (fun _ => none)))))), (a2, .inl (cA2, 10, .inr (.inr (.inr (.inr (fun _ => none))))))] s.heap.size = A at hD hZ ⊢
  have hA : ∀ q : Nat, s.heap.size ≤ q → A q := fun q h => by rw [← hAe]; exact Or.inr h
  have hS : va_S A s.heap s.heap [] := va_S.rf
  have hP : va_P (dC, dI) vwCl [(h0, .inr (9, [.int 7, .ref a1, .int 0, .ref a2, .int 0, .int 0, .ref w1, .ref p1, .ref o1])), (a1, .inl (cA1, 4, .inr (.inr (.inr (.inr (fun _ => none)))))), (a2, .inl (cA2, 10, .inr (.inr (.inr (.inr (fun _ => none))))))] s.heap := hP
  have hl := lv_entry ([.ref h0, .int k]) (n := 3) (Nat.le_of_ble_eq_true rfl)
  rw [lg_entry_eq]
  generalize (lg_sl ([.ref h0, .int k]) ++ List.replicate (3 - (lg_sl ([.ref h0, .int k])).length) Slot.unset).toArray = ls at hl ⊢
  have hl : lv_has ls 3 [(0, .ref h0), (1, .int k)] := hl
  obtain ⟨H, eH⟩ : ∃ z, z = s.heap := ⟨_, rfl⟩
  rw [← eH] at hP ⊢
  have hS : va_S A s.heap H [] := by rw [eH]; exact va_S.rf
  refine lv_iload_n hx hb dX6_algebra_0 rfl (lv_at hl 1 rfl) ?_
  refine lv_if_eq (tgt := 19) hx hb dX6_algebra_1 (by decide) (fun c9 => absurd c9 n0) (fun _ => ?_)
  refine lv_iload_n hx hb dX6_algebra_4 rfl (lv_at hl 1 rfl) ?_
  refine lv_iconst (v := 1) hx hb dX6_algebra_5 (by decide) ?_
  refine lv_icmp_eq (tgt := 19) hx hb dX6_algebra_6 (by decide) (fun c9 => absurd c9 n1) (fun _ => ?_)
  obtain ⟨sa, hsa⟩ := Tb_s5 hTb
  exact vx_throwS (names := ["java/lang/RuntimeException", "java/lang/Exception"]) hx hb hst hown (by decide +kernel) (by decide +kernel) (hts (.classLink RX6 52 "java/lang/IllegalArgumentException") (by decide +kernel)) (hts (.initialized "java/lang/IllegalArgumentException") (by decide +kernel)) hsa (vx_hat (fun w h => hts w (by unfold wsX6_algebra; first | exact List.mem_cons_of_mem _ (List.mem_append_right _ h) | exact List.mem_cons_of_mem _ (List.mem_append_left _ (List.mem_append_right _ h)) | exact List.mem_cons_of_mem _ (List.mem_append_left _ (List.mem_append_left _ (List.mem_append_right _ h))))) (by decide +kernel) (vx_c (va_Nw.use rfl (Tb_d1 hTb)) (vx_c (va_Nw.use rfl (Tb_d2 hTb)) (vx_c (va_Nw.use rfl (Tb_d3 hTb)) (vx_c (va_Nw.use rfl (Tb_c2 hTb)) vx_n))))) (by decide +kernel) hZ.1 hZ.2.1 hS (by rw [hml]; exact hl.1) dX6_algebra_9 dX6_algebra_12 dX6_algebra_13 dX6_algebra_15 dX6_algebra_18 (fun x h => (hex x h).elim) (Nat.le_of_ble_eq_true rfl) (Nat.le_of_ble_eq_true rfl) (Nat.le_of_ble_eq_true rfl) (Nat.le_of_ble_eq_true rfl) hlocks (fun t _ h1 h2 => ⟨(), trivial, rfl, Nat.le_trans hS.1 h1, fun q hq hn => (h2 q (Nat.lt_of_lt_of_le hq hS.1)).trans (hS.2.1 q hq hn)⟩) hS.2.2 (Nat.le_of_ble_eq_true rfl) (Nat.le_of_ble_eq_true rfl)

