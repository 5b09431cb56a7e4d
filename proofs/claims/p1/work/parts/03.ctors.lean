def wsX4_init : List Cond := .code yX4_init cX4_init 1 none :: ([.methodLink RX4 3 objectInit, .instanceMethod objectInit, .code objectInit ⟨#[0xb1]⟩ 1 none, .arrayClass .int, .fieldLink RX4 9 "Versorhall$Row" "numbers" "[I"] ++ wsX40)
theorem dX4_init_0 : decode cX4_init 0 = .ok (.aload_n 0, 1) := by decide +kernel
theorem dX4_init_1 : decode cX4_init 1 = .ok (.invokespecial 3, 3) := by decide +kernel
theorem dX4_init_4 : decode cX4_init 4 = .ok (.aload_n 0, 1) := by decide +kernel
theorem dX4_init_5 : decode cX4_init 5 = .ok (.bipush 16, 2) := by decide +kernel
theorem dX4_init_7 : decode cX4_init 7 = .ok (.newarray .int, 2) := by decide +kernel
theorem dX4_init_9 : decode cX4_init 9 = .ok (.putfield 9, 3) := by decide +kernel
theorem dX4_init_12 : decode cX4_init 12 = .ok (.return_, 1) := by decide +kernel
def wsX2_init : List Cond := .code yX2_init cX2_init 1 none :: ([.methodLink RX2 3 objectInit, .instanceMethod objectInit, .code objectInit ⟨#[0xb1]⟩ 1 none, .arrayClass .int, .fieldLink RX2 9 "Versorhall$Matrix" "cells" "[I"] ++ wsX20)
theorem dX2_init_0 : decode cX2_init 0 = .ok (.aload_n 0, 1) := by decide +kernel
theorem dX2_init_1 : decode cX2_init 1 = .ok (.invokespecial 3, 3) := by decide +kernel
theorem dX2_init_4 : decode cX2_init 4 = .ok (.aload_n 0, 1) := by decide +kernel
theorem dX2_init_5 : decode cX2_init 5 = .ok (.sipush 256, 3) := by decide +kernel
theorem dX2_init_8 : decode cX2_init 8 = .ok (.newarray .int, 2) := by decide +kernel
theorem dX2_init_10 : decode cX2_init 10 = .ok (.putfield 9, 3) := by decide +kernel
theorem dX2_init_13 : decode cX2_init 13 = .ok (.return_, 1) := by decide +kernel
def wsX5_init : List Cond := .code yX5_init cX5_init 1 none :: ([.methodLink RX5 3 objectInit, .instanceMethod objectInit, .code objectInit ⟨#[0xb1]⟩ 1 none, .classLink RX5 9 RX4, .instantiable RX4 1, .initialized RX4, .fieldLink RX5 12 "Versorhall$Workshop" "result" "LVersorhall$Row;", .fieldLink RX5 18 "Versorhall$Workshop" "work" "LVersorhall$Row;", .classLink RX5 21 RX2, .instantiable RX2 1, .initialized RX2, .fieldLink RX5 24 "Versorhall$Workshop" "matrix" "LVersorhall$Matrix;", .instanceMethod yX4_init, .code yX4_init cX4_init 1 none, .methodLink RX4 3 objectInit, .arrayClass .int, .fieldLink RX4 9 "Versorhall$Row" "numbers" "[I", .instanceMethod yX2_init, .code yX2_init cX2_init 1 none, .methodLink RX2 3 objectInit, .fieldLink RX2 9 "Versorhall$Matrix" "cells" "[I"] ++ wsX40 ++ wsX50 ++ wsX20)
theorem dX5_init_0 : decode cX5_init 0 = .ok (.aload_n 0, 1) := by decide +kernel
theorem dX5_init_1 : decode cX5_init 1 = .ok (.invokespecial 3, 3) := by decide +kernel
theorem dX5_init_4 : decode cX5_init 4 = .ok (.aload_n 0, 1) := by decide +kernel
theorem dX5_init_5 : decode cX5_init 5 = .ok (.new 9, 3) := by decide +kernel
theorem dX5_init_8 : decode cX5_init 8 = .ok (.dup, 1) := by decide +kernel
set_option maxRecDepth 20000 in
theorem ggX5_init_X4_init : GoodIn wsX5_init wsX4_init := goodIn_r _ [14, 15, 2, 3, 16, 17, 22] (by decide +kernel) (by decide +kernel)
set_option maxRecDepth 20000 in
theorem gX5_init_X4_init_n11 : GoodIn wsX5_init (wsX4_init) := ggX5_init_X4_init
theorem dX5_init_9 : decode cX5_init 9 = .ok (.invokespecial 11, 3) := by decide +kernel
theorem dX5_init_12 : decode cX5_init 12 = .ok (.putfield 12, 3) := by decide +kernel
theorem dX5_init_15 : decode cX5_init 15 = .ok (.aload_n 0, 1) := by decide +kernel
theorem dX5_init_16 : decode cX5_init 16 = .ok (.new 9, 3) := by decide +kernel
theorem dX5_init_19 : decode cX5_init 19 = .ok (.dup, 1) := by decide +kernel
theorem dX5_init_20 : decode cX5_init 20 = .ok (.invokespecial 11, 3) := by decide +kernel
theorem dX5_init_23 : decode cX5_init 23 = .ok (.putfield 18, 3) := by decide +kernel
theorem dX5_init_26 : decode cX5_init 26 = .ok (.aload_n 0, 1) := by decide +kernel
theorem dX5_init_27 : decode cX5_init 27 = .ok (.new 21, 3) := by decide +kernel
theorem dX5_init_30 : decode cX5_init 30 = .ok (.dup, 1) := by decide +kernel
set_option maxRecDepth 20000 in
theorem ggX5_init_X2_init : GoodIn wsX5_init wsX2_init := goodIn_r _ [19, 20, 2, 3, 16, 21, 26] (by decide +kernel) (by decide +kernel)
set_option maxRecDepth 20000 in
theorem gX5_init_X2_init_n23 : GoodIn wsX5_init (wsX2_init) := ggX5_init_X2_init
theorem dX5_init_31 : decode cX5_init 31 = .ok (.invokespecial 23, 3) := by decide +kernel
theorem dX5_init_34 : decode cX5_init 34 = .ok (.putfield 24, 3) := by decide +kernel
theorem dX5_init_37 : decode cX5_init 37 = .ok (.return_, 1) := by decide +kernel
def wsX3_init : List Cond := .code yX3_init cX3_init 2 none :: ([.methodLink RX3 3 objectInit, .instanceMethod objectInit, .code objectInit ⟨#[0xb1]⟩ 1 none, .classLink RX3 9 RX4, .fieldLink RX3 11 "Versorhall$Pile" "rows" "[LVersorhall$Row;", .fieldLink RX3 17 "Versorhall$Pile" "height" "I", .instantiable RX4 1, .initialized RX4, .instanceMethod yX4_init, .code yX4_init cX4_init 1 none, .methodLink RX4 3 objectInit, .arrayClass .int, .fieldLink RX4 9 "Versorhall$Row" "numbers" "[I"] ++ wsX30 ++ wsX40)
theorem dX3_init_0 : decode cX3_init 0 = .ok (.aload_n 0, 1) := by decide +kernel
theorem dX3_init_1 : decode cX3_init 1 = .ok (.invokespecial 3, 3) := by decide +kernel
theorem dX3_init_4 : decode cX3_init 4 = .ok (.aload_n 0, 1) := by decide +kernel
theorem dX3_init_5 : decode cX3_init 5 = .ok (.bipush 10, 2) := by decide +kernel
theorem dX3_init_7 : decode cX3_init 7 = .ok (.anewarray 9, 3) := by decide +kernel
theorem dX3_init_10 : decode cX3_init 10 = .ok (.putfield 11, 3) := by decide +kernel
theorem dX3_init_13 : decode cX3_init 13 = .ok (.aload_n 0, 1) := by decide +kernel
theorem dX3_init_14 : decode cX3_init 14 = .ok (.iconst 0, 1) := by decide +kernel
theorem dX3_init_15 : decode cX3_init 15 = .ok (.putfield 17, 3) := by decide +kernel
theorem dX3_init_18 : decode cX3_init 18 = .ok (.iconst 0, 1) := by decide +kernel
theorem dX3_init_19 : decode cX3_init 19 = .ok (.istore_n 1, 1) := by decide +kernel
theorem dX3_init_20 : decode cX3_init 20 = .ok (.iload_n 1, 1) := by decide +kernel
theorem dX3_init_21 : decode cX3_init 21 = .ok (.aload_n 0, 1) := by decide +kernel
theorem dX3_init_22 : decode cX3_init 22 = .ok (.getfield 11, 3) := by decide +kernel
theorem dX3_init_25 : decode cX3_init 25 = .ok (.arraylength, 1) := by decide +kernel
theorem dX3_init_26 : decode cX3_init 26 = .ok (.if_icmp .ge 22, 3) := by decide +kernel
theorem dX3_init_29 : decode cX3_init 29 = .ok (.aload_n 0, 1) := by decide +kernel
theorem dX3_init_30 : decode cX3_init 30 = .ok (.getfield 11, 3) := by decide +kernel
theorem dX3_init_33 : decode cX3_init 33 = .ok (.iload_n 1, 1) := by decide +kernel
theorem dX3_init_34 : decode cX3_init 34 = .ok (.new 9, 3) := by decide +kernel
theorem dX3_init_37 : decode cX3_init 37 = .ok (.dup, 1) := by decide +kernel
set_option maxRecDepth 20000 in
theorem ggX3_init_X4_init : GoodIn wsX3_init wsX4_init := goodIn_r _ [10, 11, 2, 3, 12, 13, 16] (by decide +kernel) (by decide +kernel)
set_option maxRecDepth 20000 in
theorem gX3_init_X4_init_n21 : GoodIn wsX3_init (wsX4_init) := ggX3_init_X4_init
theorem dX3_init_38 : decode cX3_init 38 = .ok (.invokespecial 21, 3) := by decide +kernel
theorem dX3_init_41 : decode cX3_init 41 = .ok (.aastore, 1) := by decide +kernel
theorem dX3_init_42 : decode cX3_init 42 = .ok (.iinc 1 1, 3) := by decide +kernel
theorem dX3_init_45 : decode cX3_init 45 = .ok (.goto (-25), 3) := by decide +kernel
theorem dX3_init_48 : decode cX3_init 48 = .ok (.return_, 1) := by decide +kernel
def wsX6_init_r1 : List Cond := [Cond.methodLink RX6 1 objectInit, Cond.instanceMethod objectInit, Cond.code objectInit ⟨#[0xb1]⟩ 1 none, Cond.fieldLink RX6 9 "Versorhall" "prime" "I", Cond.classLink RX6 13 RX0, Cond.fieldLink RX6 15 "Versorhall" "algebras" "[LVersorhall$Algebra;", Cond.fieldLink RX6 19 "Versorhall" "algebraCount" "I", Cond.classLink RX6 22 RX1, Cond.fieldLink RX6 24 "Versorhall" "elements" "[LVersorhall$Element;", Cond.fieldLink RX6 28 "Versorhall" "elementCount" "I", Cond.fieldLink RX6 31 "Versorhall" "knocks" "I", Cond.classLink RX6 34 RX5, Cond.instantiable RX5 3, Cond.initialized RX5, Cond.fieldLink RX6 37 "Versorhall" "workshop" "LVersorhall$Workshop;", Cond.classLink RX6 41 RX3, Cond.instantiable RX3 2, Cond.initialized RX3, Cond.fieldLink RX6 44 "Versorhall" "pile" "LVersorhall$Pile;", Cond.arrayClass .int, Cond.fieldLink RX6 48 "Versorhall" "order" "[I", Cond.instanceMethod yX5_init, Cond.code yX5_init cX5_init 1 none, Cond.methodLink RX5 3 objectInit]
def wsX6_init_r2 : List Cond := [Cond.classLink RX5 9 RX4, Cond.instantiable RX4 1, Cond.initialized RX4, Cond.fieldLink RX5 12 "Versorhall$Workshop" "result" "LVersorhall$Row;", Cond.fieldLink RX5 18 "Versorhall$Workshop" "work" "LVersorhall$Row;", Cond.classLink RX5 21 RX2, Cond.instantiable RX2 1, Cond.initialized RX2, Cond.fieldLink RX5 24 "Versorhall$Workshop" "matrix" "LVersorhall$Matrix;", Cond.instanceMethod yX4_init, Cond.code yX4_init cX4_init 1 none, Cond.methodLink RX4 3 objectInit, Cond.fieldLink RX4 9 "Versorhall$Row" "numbers" "[I", Cond.instanceMethod yX2_init, Cond.code yX2_init cX2_init 1 none, Cond.methodLink RX2 3 objectInit, Cond.fieldLink RX2 9 "Versorhall$Matrix" "cells" "[I", Cond.methodLink RX6 43 yX3_init, Cond.instanceMethod yX3_init, Cond.code yX3_init cX3_init 2 none, Cond.methodLink RX3 3 objectInit, Cond.classLink RX3 9 RX4, Cond.fieldLink RX3 11 "Versorhall$Pile" "rows" "[LVersorhall$Row;", Cond.fieldLink RX3 17 "Versorhall$Pile" "height" "I"]
def wsX6_init : List Cond := .code yX6_init cX6_init 1 none :: ((wsX6_init_r1 ++ wsX6_init_r2) ++ wsX60 ++ wsX50 ++ wsX30 ++ wsX40 ++ wsX20)
theorem dX6_init_0 : decode cX6_init 0 = .ok (.aload_n 0, 1) := by decide +kernel
theorem dX6_init_1 : decode cX6_init 1 = .ok (.invokespecial 1, 3) := by decide +kernel
theorem dX6_init_4 : decode cX6_init 4 = .ok (.aload_n 0, 1) := by decide +kernel
theorem dX6_init_5 : decode cX6_init 5 = .ok (.bipush 7, 2) := by decide +kernel
theorem dX6_init_7 : decode cX6_init 7 = .ok (.putfield 9, 3) := by decide +kernel
theorem dX6_init_10 : decode cX6_init 10 = .ok (.aload_n 0, 1) := by decide +kernel
theorem dX6_init_11 : decode cX6_init 11 = .ok (.iconst 4, 1) := by decide +kernel
theorem dX6_init_12 : decode cX6_init 12 = .ok (.anewarray 13, 3) := by decide +kernel
theorem dX6_init_15 : decode cX6_init 15 = .ok (.putfield 15, 3) := by decide +kernel
theorem dX6_init_18 : decode cX6_init 18 = .ok (.aload_n 0, 1) := by decide +kernel
theorem dX6_init_19 : decode cX6_init 19 = .ok (.iconst 0, 1) := by decide +kernel
theorem dX6_init_20 : decode cX6_init 20 = .ok (.putfield 19, 3) := by decide +kernel
theorem dX6_init_23 : decode cX6_init 23 = .ok (.aload_n 0, 1) := by decide +kernel
theorem dX6_init_24 : decode cX6_init 24 = .ok (.bipush 10, 2) := by decide +kernel
theorem dX6_init_26 : decode cX6_init 26 = .ok (.anewarray 22, 3) := by decide +kernel
theorem dX6_init_29 : decode cX6_init 29 = .ok (.putfield 24, 3) := by decide +kernel
theorem dX6_init_32 : decode cX6_init 32 = .ok (.aload_n 0, 1) := by decide +kernel
theorem dX6_init_33 : decode cX6_init 33 = .ok (.iconst 0, 1) := by decide +kernel
theorem dX6_init_34 : decode cX6_init 34 = .ok (.putfield 28, 3) := by decide +kernel
theorem dX6_init_37 : decode cX6_init 37 = .ok (.aload_n 0, 1) := by decide +kernel
theorem dX6_init_38 : decode cX6_init 38 = .ok (.iconst 0, 1) := by decide +kernel
theorem dX6_init_39 : decode cX6_init 39 = .ok (.putfield 31, 3) := by decide +kernel
theorem dX6_init_42 : decode cX6_init 42 = .ok (.aload_n 0, 1) := by decide +kernel
theorem dX6_init_43 : decode cX6_init 43 = .ok (.new 34, 3) := by decide +kernel
theorem dX6_init_46 : decode cX6_init 46 = .ok (.dup, 1) := by decide +kernel
set_option maxRecDepth 20000 in
theorem ggX6_init_X5_init : GoodIn wsX6_init wsX5_init := goodIn_r _ [23, 24, 2, 3, 25, 26, 27, 28, 29, 30, 31, 32, 33, 34, 35, 36, 20, 37, 38, 39, 40, 41, 63, 58, 59, 60, 64] (by decide +kernel) (by decide +kernel)
set_option maxRecDepth 20000 in
theorem gX6_init_X5_init_n36 : GoodIn wsX6_init (wsX5_init) := ggX6_init_X5_init
theorem dX6_init_47 : decode cX6_init 47 = .ok (.invokespecial 36, 3) := by decide +kernel
theorem dX6_init_50 : decode cX6_init 50 = .ok (.putfield 37, 3) := by decide +kernel
theorem dX6_init_53 : decode cX6_init 53 = .ok (.aload_n 0, 1) := by decide +kernel
theorem dX6_init_54 : decode cX6_init 54 = .ok (.new 41, 3) := by decide +kernel
theorem dX6_init_57 : decode cX6_init 57 = .ok (.dup, 1) := by decide +kernel
set_option maxRecDepth 20000 in
theorem ggX6_init_X3_init : GoodIn wsX6_init wsX3_init := goodIn_r _ [44, 45, 2, 3, 46, 47, 48, 26, 27, 34, 35, 36, 20, 37, 61, 62, 63] (by decide +kernel) (by decide +kernel)
set_option maxRecDepth 20000 in
theorem gX6_init_X3_init : GoodIn wsX6_init (wsX3_init) := ggX6_init_X3_init
theorem dX6_init_58 : decode cX6_init 58 = .ok (.invokespecial 43, 3) := by decide +kernel
theorem dX6_init_61 : decode cX6_init 61 = .ok (.putfield 44, 3) := by decide +kernel
theorem dX6_init_64 : decode cX6_init 64 = .ok (.aload_n 0, 1) := by decide +kernel
theorem dX6_init_65 : decode cX6_init 65 = .ok (.iconst 4, 1) := by decide +kernel
theorem dX6_init_66 : decode cX6_init 66 = .ok (.newarray .int, 2) := by decide +kernel
theorem dX6_init_68 : decode cX6_init 68 = .ok (.putfield 48, 3) := by decide +kernel
theorem dX6_init_71 : decode cX6_init 71 = .ok (.return_, 1) := by decide +kernel
set_option maxHeartbeats 4000000 in
set_option maxRecDepth 100000 in
/-- Row(): a row of its own -/
theorem c_Row_init (l : Launch) (dC : Nat → ClassId) (dI : Nat → Nat → Nat) (dE : Nat) (h0 : Nat) (sz : Nat) : Met l yX4_init wsX4_init ({ frames := 1, cells := 1, slots := 16, locals := 40 }) (va_Pc [.ref h0] (PB dC dI dE [] [(h0, .inr (7, [.null]))] sz)) (va_Qv (fun (_ : Unit) => True) (fun (_ : Unit) (t : State) => ∃ e0 : Nat, PE dC dI [] [(h0, .inr (7, [.ref e0]))] (va_A [(h0, .inr (7, [.null]))] sz) t) (va_A [(h0, .inr (7, [.null]))] sz)) 1 16 (va_A [(h0, .inr (7, [.null]))] sz) := by
  refine Met.ofW (cc := cX4_init) (maxL := 1) (ret := none) (by decide) rfl ?_
  intro p e s m args below meth c s₁ B hml hv
  obtain ⟨rfl, hsz, hP, hK, hD0, hTb, hZ⟩ := hv
  have hx := B.exec
  have hb := B.bytes
  have hr := B.returns
  have hts := atoms_spec (ws := wsX4_init) B.pre
  have hown : s.vm.findClass RX4 = some m.cls := findClass_of_methodNamed B.named
  have hlocks := B.notSynchronized
  have hin : meth.name = "<init>" := (name_of_methodNamed B.named B.method).1
  subst hsz
  have hD := hD0.self (sz := s.heap.size)
  generalize hAe : va_A [(h0, .inr (7, [.null]))] s.heap.size = A at hD hZ ⊢
  have hA : ∀ q : Nat, s.heap.size ≤ q → A q := fun q h => by rw [← hAe]; exact Or.inr h
  have hS : va_S A s.heap s.heap [] := va_S.rf
  have hP : va_P (dC, dI) vwCl [(h0, .inr (7, [.null]))] s.heap := hP
  have hl := lv_entry ([.ref h0]) (n := 1) (Nat.le_of_ble_eq_true rfl)
  rw [lg_entry_eq]
  generalize (lg_sl ([.ref h0]) ++ List.replicate (1 - (lg_sl ([.ref h0])).length) Slot.unset).toArray = ls at hl ⊢
  have hl : lv_has ls 1 [(0, .ref h0)] := hl
  obtain ⟨H, eH⟩ : ∃ z, z = s.heap := ⟨_, rfl⟩
  rw [← eH] at hP ⊢
  have hS : va_S A s.heap H [] := by rw [eH]; exact va_S.rf
  refine lv_aload_n hx hb dX4_init_0 rfl (lv_at hl 0 rfl) ?_
  refine W.objInit hx hb hown (hts (.methodLink RX4 3 objectInit) (by decide +kernel)) (hts (.instanceMethod objectInit) (by decide +kernel)) (hts (.code objectInit ⟨#[0xb1]⟩ 1 none) (by decide +kernel)) rfl (by rw [hml]; exact hl.1) rfl dX4_init_1 (Nat.le_of_ble_eq_true rfl) (Nat.le_of_ble_eq_true rfl) ?_
  refine W.eq (g2 := F0 m 4 ls []) rfl ?_
  refine lv_aload_n hx hb dX4_init_4 rfl (lv_at hl 0 rfl) ?_
  refine lv_bipush (v := 16) hx hb dX4_init_5 (by decide) ?_
  refine va_newa (atype := .int) (ty := .int) (a0 := (16, .inl (fun _ => 0))) (n := 16) (N' := 16) hx hb (hts (.arrayClass .int) (by decide +kernel)) rfl hK hP hD hS hA (fun _ => rfl) (by decide) (by decide) (Nat.le_of_ble_eq_true rfl) (Nat.le_of_ble_eq_true rfl) (Nat.le_of_ble_eq_true rfl) dX4_init_7 (fun q1 cAq1 H hK hP hD hS => ?_)
  have hP : va_P (dC, dI) vwCl [(h0, .inr (7, [.null])), (q1, .inl (cAq1, 16, .inl (fun _ => 0)))] H := hP
  have hD : va_D A [(h0, .inr (7, [.null])), (q1, .inl (cAq1, 16, .inl (fun _ => 0)))] := hD
  have hK : va_K (dC, dI) vwCl [(cAq1, .int)] s := hK
  refine W.widen (k := 1) (n := 16) (by omega) (by omega) ?_
  refine va_putF (D := (dC, dI)) (ci := 7) (v := .ref q1) (ty := .array .int) (C := RX4) (T := TX4) (N := 1) hx hb hts (by decide +kernel) tyX4 tyX4_ok nmX4 hown hK hP hD hS 0 rfl rfl 0 (by decide) (hts (.fieldLink RX4 9 "Versorhall$Row" "numbers" "[I") (by decide +kernel)) (fun _ h9 => h9) rfl hin rfl (by decide +kernel) rfl rfl (Nat.le_of_ble_eq_true rfl) dX4_init_9 (fun H locs hP hD hS => ?_)
  have hP : va_P (dC, dI) vwCl [(h0, .inr (7, [.ref q1])), (q1, .inl (cAq1, 16, .inl (fun _ => 0)))] H := hP
  have hD : va_D A [(h0, .inr (7, [.ref q1])), (q1, .inl (cAq1, 16, .inl (fun _ => 0)))] := hD
  have hP9 := hP.sub (ws' := [(h0, .inr (7, [.ref q1]))]) [0] rfl
  have hD9 := hD.sub (ws' := [(h0, .inr (7, [.ref q1]))]) [0] (by decide) rfl
  have hK9 := hK.sub (tys' := []) [] rfl
  refine W.widen (k := 1) (n := 16) (Nat.le_of_ble_eq_true rfl) (Nat.le_of_ble_eq_true rfl) ?_
  exact W.vret hx hb hr (fun t ht hW => ⟨⟨(), rfl, trivial, ⟨q1, PE.mk hP9 hK9 hD9 ht hW⟩⟩, hS.F ht⟩) hS.2.2 dX4_init_12

set_option maxHeartbeats 4000000 in
set_option maxRecDepth 100000 in
/-- c_Matrix_init -/
theorem c_Matrix_init (l : Launch) (dC : Nat → ClassId) (dI : Nat → Nat → Nat) (dE : Nat) (h0 : Nat) (sz : Nat) : Met l yX2_init wsX2_init ({ frames := 1, cells := 1, slots := 256, locals := 40 }) (va_Pc [.ref h0] (PB dC dI dE [] [(h0, .inr (5, [.null]))] sz)) (va_Qv (fun (_ : Unit) => True) (fun (_ : Unit) (_ : State) => True) (va_A [(h0, .inr (5, [.null]))] sz)) 1 256 (va_A [(h0, .inr (5, [.null]))] sz) := by
  refine Met.ofW (cc := cX2_init) (maxL := 1) (ret := none) (by decide) rfl ?_
  intro p e s m args below meth c s₁ B hml hv
  obtain ⟨rfl, hsz, hP, hK, hD0, hTb, hZ⟩ := hv
  have hx := B.exec
  have hb := B.bytes
  have hr := B.returns
  have hts := atoms_spec (ws := wsX2_init) B.pre
  have hown : s.vm.findClass RX2 = some m.cls := findClass_of_methodNamed B.named
  have hlocks := B.notSynchronized
  have hin : meth.name = "<init>" := (name_of_methodNamed B.named B.method).1
  subst hsz
  have hD := hD0.self (sz := s.heap.size)
  generalize hAe : va_A [(h0, .inr (5, [.null]))] s.heap.size = A at hD hZ ⊢
  have hA : ∀ q : Nat, s.heap.size ≤ q → A q := fun q h => by rw [← hAe]; exact Or.inr h
  have hS : va_S A s.heap s.heap [] := va_S.rf
  have hP : va_P (dC, dI) vwCl [(h0, .inr (5, [.null]))] s.heap := hP
  have hl := lv_entry ([.ref h0]) (n := 1) (Nat.le_of_ble_eq_true rfl)
  rw [lg_entry_eq]
  generalize (lg_sl ([.ref h0]) ++ List.replicate (1 - (lg_sl ([.ref h0])).length) Slot.unset).toArray = ls at hl ⊢
  have hl : lv_has ls 1 [(0, .ref h0)] := hl
  obtain ⟨H, eH⟩ : ∃ z, z = s.heap := ⟨_, rfl⟩
  rw [← eH] at hP ⊢
  have hS : va_S A s.heap H [] := by rw [eH]; exact va_S.rf
  refine lv_aload_n hx hb dX2_init_0 rfl (lv_at hl 0 rfl) ?_
  refine W.objInit hx hb hown (hts (.methodLink RX2 3 objectInit) (by decide +kernel)) (hts (.instanceMethod objectInit) (by decide +kernel)) (hts (.code objectInit ⟨#[0xb1]⟩ 1 none) (by decide +kernel)) rfl (by rw [hml]; exact hl.1) rfl dX2_init_1 (Nat.le_of_ble_eq_true rfl) (Nat.le_of_ble_eq_true rfl) ?_
  refine W.eq (g2 := F0 m 4 ls []) rfl ?_
  refine lv_aload_n hx hb dX2_init_4 rfl (lv_at hl 0 rfl) ?_
  refine lv_sipush (v := 256) hx hb dX2_init_5 (by decide) ?_
  refine va_newa (atype := .int) (ty := .int) (a0 := (256, .inl (fun _ => 0))) (n := 256) (N' := 256) hx hb (hts (.arrayClass .int) (by decide +kernel)) rfl hK hP hD hS hA (fun _ => rfl) (by decide) (by decide) (Nat.le_of_ble_eq_true rfl) (Nat.le_of_ble_eq_true rfl) (Nat.le_of_ble_eq_true rfl) dX2_init_8 (fun q1 cAq1 H hK hP hD hS => ?_)
  have hP : va_P (dC, dI) vwCl [(h0, .inr (5, [.null])), (q1, .inl (cAq1, 256, .inl (fun _ => 0)))] H := hP
  have hD : va_D A [(h0, .inr (5, [.null])), (q1, .inl (cAq1, 256, .inl (fun _ => 0)))] := hD
  have hK : va_K (dC, dI) vwCl [(cAq1, .int)] s := hK
  refine W.widen (k := 1) (n := 256) (by omega) (by omega) ?_
  refine va_putF (D := (dC, dI)) (ci := 5) (v := .ref q1) (ty := .array .int) (C := RX2) (T := TX2) (N := 1) hx hb hts (by decide +kernel) tyX2 tyX2_ok nmX2 hown hK hP hD hS 0 rfl rfl 0 (by decide) (hts (.fieldLink RX2 9 "Versorhall$Matrix" "cells" "[I") (by decide +kernel)) (fun _ h9 => h9) rfl hin rfl (by decide +kernel) rfl rfl (Nat.le_of_ble_eq_true rfl) dX2_init_10 (fun H locs hP hD hS => ?_)
  have hP : va_P (dC, dI) vwCl [(h0, .inr (5, [.ref q1])), (q1, .inl (cAq1, 256, .inl (fun _ => 0)))] H := hP
  have hD : va_D A [(h0, .inr (5, [.ref q1])), (q1, .inl (cAq1, 256, .inl (fun _ => 0)))] := hD
  refine W.widen (k := 1) (n := 256) (Nat.le_of_ble_eq_true rfl) (Nat.le_of_ble_eq_true rfl) ?_
  exact W.vret hx hb hr (fun t ht hW => ⟨⟨(), rfl, trivial, trivial⟩, hS.F ht⟩) hS.2.2 dX2_init_13

set_option maxHeartbeats 4000000 in
set_option maxRecDepth 100000 in
/-- c_Workshop_init -/
theorem c_Workshop_init (l : Launch) (dC : Nat → ClassId) (dI : Nat → Nat → Nat) (dE : Nat) (h0 : Nat) (sz : Nat) : Met l yX5_init wsX5_init ({ frames := 2, cells := 6, slots := 291, locals := 60 }) (va_Pc [.ref h0] (PB dC dI dE [] [(h0, .inr (8, [.null, .null, .null]))] sz)) (va_Qv (fun (_ : Unit) => True) (fun (_ : Unit) (_ : State) => True) (va_A [(h0, .inr (8, [.null, .null, .null]))] sz)) 6 291 (va_A [(h0, .inr (8, [.null, .null, .null]))] sz) := by
  refine Met.ofW (cc := cX5_init) (maxL := 1) (ret := none) (by decide) rfl ?_
  intro p e s m args below meth c s₁ B hml hv
  obtain ⟨rfl, hsz, hP, hK, hD0, hTb, hZ⟩ := hv
  have hx := B.exec
  have hb := B.bytes
  have hr := B.returns
  have hts := atoms_spec (ws := wsX5_init) B.pre
  have hown : s.vm.findClass RX5 = some m.cls := findClass_of_methodNamed B.named
  have hlocks := B.notSynchronized
  have hin : meth.name = "<init>" := (name_of_methodNamed B.named B.method).1
  subst hsz
  have hD := hD0.self (sz := s.heap.size)
  generalize hAe : va_A [(h0, .inr (8, [.null, .null, .null]))] s.heap.size = A at hD hZ ⊢
  have hA : ∀ q : Nat, s.heap.size ≤ q → A q := fun q h => by rw [← hAe]; exact Or.inr h
  have hS : va_S A s.heap s.heap [] := va_S.rf
  have hP : va_P (dC, dI) vwCl [(h0, .inr (8, [.null, .null, .null]))] s.heap := hP
  have hl := lv_entry ([.ref h0]) (n := 1) (Nat.le_of_ble_eq_true rfl)
  rw [lg_entry_eq]
  generalize (lg_sl ([.ref h0]) ++ List.replicate (1 - (lg_sl ([.ref h0])).length) Slot.unset).toArray = ls at hl ⊢
  have hl : lv_has ls 1 [(0, .ref h0)] := hl
  obtain ⟨H, eH⟩ : ∃ z, z = s.heap := ⟨_, rfl⟩
  rw [← eH] at hP ⊢
  have hS : va_S A s.heap H [] := by rw [eH]; exact va_S.rf
  refine lv_aload_n hx hb dX5_init_0 rfl (lv_at hl 0 rfl) ?_
  refine W.objInit hx hb hown (hts (.methodLink RX5 3 objectInit) (by decide +kernel)) (hts (.instanceMethod objectInit) (by decide +kernel)) (hts (.code objectInit ⟨#[0xb1]⟩ 1 none) (by decide +kernel)) rfl (by rw [hml]; exact hl.1) rfl dX5_init_1 (Nat.le_of_ble_eq_true rfl) (Nat.le_of_ble_eq_true rfl) ?_
  refine W.eq (g2 := F0 m 4 ls []) rfl ?_
  refine lv_aload_n hx hb dX5_init_4 rfl (lv_at hl 0 rfl) ?_
  refine va_new (ci := 7) (fs := [.null]) (C := RX4) (T := TX4) (N := 1) hx hb hts (by decide +kernel) tyX4 tyX4_ok hown (hts (.classLink RX5 9 RX4) (by decide +kernel)) (hts (.instantiable RX4 1) (by decide +kernel)) (hts (.initialized RX4) (by decide +kernel)) hK hP hD hS hA rfl (fun j hj => by rcases (show j = 0 by omega) with rfl <;> rfl) (Nat.le_of_ble_eq_true rfl) (Nat.le_of_ble_eq_true rfl) dX5_init_5 (fun q1 H hP hD hS => ?_)
  have hP : va_P (dC, dI) vwCl [(h0, .inr (8, [.null, .null, .null])), (q1, .inr (7, [.null]))] H := hP
  have hD : va_D A [(h0, .inr (8, [.null, .null, .null])), (q1, .inr (7, [.null]))] := hD
  refine W.widen (k := 1) (n := 1) (by omega) (by omega) ?_
  refine lv_dup hx hb dX5_init_8 rfl ?_
  have hPc := hP.sub (ws' := [(q1, .inr (7, [.null]))]) [1] rfl
  have hDc := hD.sub (ws' := [(q1, .inr (7, [.null]))]) [1] (by decide) rfl
  have hKc := hK.sub (tys' := []) [] rfl
  have hFc := va_free (wc := [(q1, .inr (7, [.null]))]) hD hS hA [1] rfl
  refine va_callv (va_runIN (As := []) (rest := [.ref q1, .ref h0]) ⟨hx, hb, hml, hown, hts⟩ (c_Row_init l dC dI dE q1 H.size) ⟨va_cnB 0 hts gX5_init_X4_init_n11 rfl rfl rfl (Tb_n2 hTb) (hts (.initialized RX4) (by decide +kernel)) ⟨by decide, by decide, by decide +kernel⟩ ⟨Nat.le_of_ble_eq_true rfl, Nat.le_of_ble_eq_true rfl⟩, rfl, (hts (.instanceMethod yX4_init) (by decide +kernel))⟩ ⟨fun a U g mk q => ⟨q.1, PB.blind q.2⟩, fun U hU hW => ⟨rfl, PB.call hPc hKc hDc hTb hZ hS hFc hU hW⟩⟩ rfl rfl hl.1 rfl (lv_room (Nat.le_of_ble_eq_true rfl)) dX5_init_9 ⟨Nat.le_of_ble_eq_true rfl, Nat.le_of_ble_eq_true rfl⟩) hS (fun q _ h => hFc q h) hFc (fun u t H locs ht hvm hw hB hz1 hk1 hS => ?_)
  obtain ⟨q2, hB⟩ := hB
  obtain ⟨hP, hD, hK⟩ := PE.join (wc := [(q1, .inr (7, [.null]))]) (wr := [(h0, .inr (8, [.null, .null, .null]))]) (w1 := [(q1, .inr (7, [.ref q2]))]) (tr := []) (t1 := []) hP hD hK [1] [0] [] rfl rfl rfl (by decide) (by decide) hk1 hFc ht hvm hB
  have hP : va_P (dC, dI) vwCl [(h0, .inr (8, [.null, .null, .null])), (q1, .inr (7, [.ref q2]))] H := hP
  have hD : va_D A [(h0, .inr (8, [.null, .null, .null])), (q1, .inr (7, [.ref q2]))] := hD
  have hK : va_K (dC, dI) vwCl [] s := hK
  refine W.widen (k := 2) (n := 17) (by omega) (by omega) ?_
  refine va_putF (D := (dC, dI)) (ci := 8) (v := .ref q1) (ty := .object "Versorhall$Row") (C := RX5) (T := TX5) (N := 3) hx hb hts (by decide +kernel) tyX5 tyX5_ok nmX5 hown hK hP hD hS 0 rfl rfl 0 (by decide) (hts (.fieldLink RX5 12 "Versorhall$Workshop" "result" "LVersorhall$Row;") (by decide +kernel)) (fun _ h9 => h9) rfl hin rfl (by decide +kernel) rfl rfl (Nat.le_of_ble_eq_true rfl) dX5_init_12 (fun H locs hP hD hS => ?_)
  have hP : va_P (dC, dI) vwCl [(h0, .inr (8, [.ref q1, .null, .null])), (q1, .inr (7, [.ref q2]))] H := hP
  have hD : va_D A [(h0, .inr (8, [.ref q1, .null, .null])), (q1, .inr (7, [.ref q2]))] := hD
  have hP := hP.sub (ws' := [(h0, .inr (8, [.ref q1, .null, .null]))]) [0] rfl
  have hD := hD.sub (ws' := [(h0, .inr (8, [.ref q1, .null, .null]))]) [0] (by decide) rfl
  refine lv_aload_n hx hb dX5_init_15 rfl (lv_at hl 0 rfl) ?_
  refine va_new (ci := 7) (fs := [.null]) (C := RX4) (T := TX4) (N := 1) hx hb hts (by decide +kernel) tyX4 tyX4_ok hown (hts (.classLink RX5 9 RX4) (by decide +kernel)) (hts (.instantiable RX4 1) (by decide +kernel)) (hts (.initialized RX4) (by decide +kernel)) hK hP hD hS hA rfl (fun j hj => by rcases (show j = 0 by omega) with rfl <;> rfl) (Nat.le_of_ble_eq_true rfl) (Nat.le_of_ble_eq_true rfl) dX5_init_16 (fun q3 H hP hD hS => ?_)
  have hP : va_P (dC, dI) vwCl [(h0, .inr (8, [.ref q1, .null, .null])), (q3, .inr (7, [.null]))] H := hP
  have hD : va_D A [(h0, .inr (8, [.ref q1, .null, .null])), (q3, .inr (7, [.null]))] := hD
  refine W.widen (k := 3) (n := 18) (by omega) (by omega) ?_
  refine lv_dup hx hb dX5_init_19 rfl ?_
  have hPc := hP.sub (ws' := [(q3, .inr (7, [.null]))]) [1] rfl
  have hDc := hD.sub (ws' := [(q3, .inr (7, [.null]))]) [1] (by decide) rfl
  have hKc := hK.sub (tys' := []) [] rfl
  have hFc := va_free (wc := [(q3, .inr (7, [.null]))]) hD hS hA [1] rfl
  refine va_callv (va_runIN (As := []) (rest := [.ref q3, .ref h0]) ⟨hx, hb, hml, hown, hts⟩ (c_Row_init l dC dI dE q3 H.size) ⟨va_cnB 0 hts gX5_init_X4_init_n11 rfl rfl rfl (Tb_n2 hTb) (hts (.initialized RX4) (by decide +kernel)) ⟨by decide, by decide, by decide +kernel⟩ ⟨Nat.le_of_ble_eq_true rfl, Nat.le_of_ble_eq_true rfl⟩, rfl, (hts (.instanceMethod yX4_init) (by decide +kernel))⟩ ⟨fun a U g mk q => ⟨q.1, PB.blind q.2⟩, fun U hU hW => ⟨rfl, PB.call hPc hKc hDc hTb hZ hS hFc hU hW⟩⟩ rfl rfl hl.1 rfl (lv_room (Nat.le_of_ble_eq_true rfl)) dX5_init_20 ⟨Nat.le_of_ble_eq_true rfl, Nat.le_of_ble_eq_true rfl⟩) hS (fun q _ h => hFc q h) hFc (fun u t H locs ht hvm hw hB hz1 hk1 hS => ?_)
  obtain ⟨q4, hB⟩ := hB
  obtain ⟨hP, hD, hK⟩ := PE.join (wc := [(q3, .inr (7, [.null]))]) (wr := [(h0, .inr (8, [.ref q1, .null, .null]))]) (w1 := [(q3, .inr (7, [.ref q4]))]) (tr := []) (t1 := []) hP hD hK [1] [0] [] rfl rfl rfl (by decide) (by decide) hk1 hFc ht hvm hB
  have hP : va_P (dC, dI) vwCl [(h0, .inr (8, [.ref q1, .null, .null])), (q3, .inr (7, [.ref q4]))] H := hP
  have hD : va_D A [(h0, .inr (8, [.ref q1, .null, .null])), (q3, .inr (7, [.ref q4]))] := hD
  have hK : va_K (dC, dI) vwCl [] s := hK
  refine W.widen (k := 4) (n := 34) (by omega) (by omega) ?_
  refine va_putF (D := (dC, dI)) (ci := 8) (v := .ref q3) (ty := .object "Versorhall$Row") (C := RX5) (T := TX5) (N := 3) hx hb hts (by decide +kernel) tyX5 tyX5_ok nmX5 hown hK hP hD hS 0 rfl rfl 1 (by decide) (hts (.fieldLink RX5 18 "Versorhall$Workshop" "work" "LVersorhall$Row;") (by decide +kernel)) (fun _ h9 => h9) rfl hin rfl (by decide +kernel) rfl rfl (Nat.le_of_ble_eq_true rfl) dX5_init_23 (fun H locs hP hD hS => ?_)
  have hP : va_P (dC, dI) vwCl [(h0, .inr (8, [.ref q1, .ref q3, .null])), (q3, .inr (7, [.ref q4]))] H := hP
  have hD : va_D A [(h0, .inr (8, [.ref q1, .ref q3, .null])), (q3, .inr (7, [.ref q4]))] := hD
  have hP := hP.sub (ws' := [(h0, .inr (8, [.ref q1, .ref q3, .null]))]) [0] rfl
  have hD := hD.sub (ws' := [(h0, .inr (8, [.ref q1, .ref q3, .null]))]) [0] (by decide) rfl
  refine lv_aload_n hx hb dX5_init_26 rfl (lv_at hl 0 rfl) ?_
  refine va_new (ci := 5) (fs := [.null]) (C := RX2) (T := TX2) (N := 1) hx hb hts (by decide +kernel) tyX2 tyX2_ok hown (hts (.classLink RX5 21 RX2) (by decide +kernel)) (hts (.instantiable RX2 1) (by decide +kernel)) (hts (.initialized RX2) (by decide +kernel)) hK hP hD hS hA rfl (fun j hj => by rcases (show j = 0 by omega) with rfl <;> rfl) (Nat.le_of_ble_eq_true rfl) (Nat.le_of_ble_eq_true rfl) dX5_init_27 (fun q5 H hP hD hS => ?_)
  have hP : va_P (dC, dI) vwCl [(h0, .inr (8, [.ref q1, .ref q3, .null])), (q5, .inr (5, [.null]))] H := hP
  have hD : va_D A [(h0, .inr (8, [.ref q1, .ref q3, .null])), (q5, .inr (5, [.null]))] := hD
  refine W.widen (k := 5) (n := 35) (by omega) (by omega) ?_
  refine lv_dup hx hb dX5_init_30 rfl ?_
  have hPc := hP.sub (ws' := [(q5, .inr (5, [.null]))]) [1] rfl
  have hDc := hD.sub (ws' := [(q5, .inr (5, [.null]))]) [1] (by decide) rfl
  have hKc := hK.sub (tys' := []) [] rfl
  have hFc := va_free (wc := [(q5, .inr (5, [.null]))]) hD hS hA [1] rfl
  refine va_callv (va_runIN (As := []) (rest := [.ref q5, .ref h0]) ⟨hx, hb, hml, hown, hts⟩ (c_Matrix_init l dC dI dE q5 H.size) ⟨va_cnB 0 hts gX5_init_X2_init_n23 rfl rfl rfl (Tb_n3 hTb) (hts (.initialized RX2) (by decide +kernel)) ⟨by decide, by decide, by decide +kernel⟩ ⟨Nat.le_of_ble_eq_true rfl, Nat.le_of_ble_eq_true rfl⟩, rfl, (hts (.instanceMethod yX2_init) (by decide +kernel))⟩ ⟨fun a U g mk q => ⟨q.1, PB.blind q.2⟩, fun U hU hW => ⟨rfl, PB.call hPc hKc hDc hTb hZ hS hFc hU hW⟩⟩ rfl rfl hl.1 rfl (lv_room (Nat.le_of_ble_eq_true rfl)) dX5_init_31 ⟨Nat.le_of_ble_eq_true rfl, Nat.le_of_ble_eq_true rfl⟩) hS (fun q _ h => hFc q h) hFc (fun u t H locs ht hvm hw hB hz1 hk1 hS => ?_)
  obtain ⟨hP, hD, hK⟩ := PE.join0 (wc := [(q5, .inr (5, [.null]))]) (wr := [(h0, .inr (8, [.ref q1, .ref q3, .null]))]) (tr := []) hP hD hK [1] [0] [] rfl rfl rfl (by decide) (by decide) hk1 hFc
  have hP : va_P (dC, dI) vwCl [(h0, .inr (8, [.ref q1, .ref q3, .null]))] H := hP
  have hD : va_D A [(h0, .inr (8, [.ref q1, .ref q3, .null]))] := hD
  have hK : va_K (dC, dI) vwCl [] s := hK
  refine W.widen (k := 6) (n := 291) (by omega) (by omega) ?_
  refine va_putF (D := (dC, dI)) (ci := 8) (v := .ref q5) (ty := .object "Versorhall$Matrix") (C := RX5) (T := TX5) (N := 3) hx hb hts (by decide +kernel) tyX5 tyX5_ok nmX5 hown hK hP hD hS 0 rfl rfl 2 (by decide) (hts (.fieldLink RX5 24 "Versorhall$Workshop" "matrix" "LVersorhall$Matrix;") (by decide +kernel)) (fun _ h9 => h9) rfl hin rfl (by decide +kernel) rfl rfl (Nat.le_of_ble_eq_true rfl) dX5_init_34 (fun H locs hP hD hS => ?_)
  have hP : va_P (dC, dI) vwCl [(h0, .inr (8, [.ref q1, .ref q3, .ref q5]))] H := hP
  have hD : va_D A [(h0, .inr (8, [.ref q1, .ref q3, .ref q5]))] := hD
  refine W.widen (k := 6) (n := 291) (Nat.le_of_ble_eq_true rfl) (Nat.le_of_ble_eq_true rfl) ?_
  exact W.vret hx hb hr (fun t ht hW => ⟨⟨(), rfl, trivial, trivial⟩, hS.F ht⟩) hS.2.2 dX5_init_37

set_option maxHeartbeats 4000000 in
set_option maxRecDepth 100000 in
/-- c_Pile_init -/
theorem c_Pile_init (l : Launch) (dC : Nat → ClassId) (dI : Nat → Nat → Nat) (dE : Nat) (h0 : Nat) (sz : Nat) : Met l yX3_init wsX3_init ({ frames := 2, cells := 21, slots := 180, locals := 60 }) (va_Pc [.ref h0] (PB dC dI dE [] [(h0, .inr (6, [.null, .int 0]))] sz)) (va_Qv (fun (_ : Unit) => True) (fun (_ : Unit) (_ : State) => True) (va_A [(h0, .inr (6, [.null, .int 0]))] sz)) 21 180 (va_A [(h0, .inr (6, [.null, .int 0]))] sz) := by
  refine Met.ofW (cc := cX3_init) (maxL := 2) (ret := none) (by decide) rfl ?_
  intro p e s m args below meth c s₁ B hml hv
  obtain ⟨rfl, hsz, hP, hK, hD0, hTb, hZ⟩ := hv
  have hx := B.exec
  have hb := B.bytes
  have hr := B.returns
  have hts := atoms_spec (ws := wsX3_init) B.pre
  have hown : s.vm.findClass RX3 = some m.cls := findClass_of_methodNamed B.named
  have hlocks := B.notSynchronized
  have hin : meth.name = "<init>" := (name_of_methodNamed B.named B.method).1
  subst hsz
  have hD := hD0.self (sz := s.heap.size)
  generalize hAe : va_A [(h0, .inr (6, [.null, .int 0]))] s.heap.size = A at hD hZ ⊢
  have hA : ∀ q : Nat, s.heap.size ≤ q → A q := fun q h => by rw [← hAe]; exact Or.inr h
  have hS : va_S A s.heap s.heap [] := va_S.rf
  have hP : va_P (dC, dI) vwCl [(h0, .inr (6, [.null, .int 0]))] s.heap := hP
  have hl := lv_entry ([.ref h0]) (n := 2) (Nat.le_of_ble_eq_true rfl)
  rw [lg_entry_eq]
  generalize (lg_sl ([.ref h0]) ++ List.replicate (2 - (lg_sl ([.ref h0])).length) Slot.unset).toArray = ls at hl ⊢
  have hl : lv_has ls 2 [(0, .ref h0)] := hl
  obtain ⟨H, eH⟩ : ∃ z, z = s.heap := ⟨_, rfl⟩
  rw [← eH] at hP ⊢
  have hS : va_S A s.heap H [] := by rw [eH]; exact va_S.rf
  refine lv_aload_n hx hb dX3_init_0 rfl (lv_at hl 0 rfl) ?_
  refine W.objInit hx hb hown (hts (.methodLink RX3 3 objectInit) (by decide +kernel)) (hts (.instanceMethod objectInit) (by decide +kernel)) (hts (.code objectInit ⟨#[0xb1]⟩ 1 none) (by decide +kernel)) rfl (by rw [hml]; exact hl.1) rfl dX3_init_1 (Nat.le_of_ble_eq_true rfl) (Nat.le_of_ble_eq_true rfl) ?_
  refine W.eq (g2 := F0 m 4 ls []) rfl ?_
  refine lv_aload_n hx hb dX3_init_4 rfl (lv_at hl 0 rfl) ?_
  refine lv_bipush (v := 10) hx hb dX3_init_5 (by decide) ?_
  refine va_newq (C := RX4) (n := 10) (N' := 10) hx hb hown (hts (.classLink RX3 9 RX4) (by decide +kernel)) (Tb_a3 hTb) hK hP hD hS hA (by decide) (by decide) (Nat.le_of_ble_eq_true rfl) (Nat.le_of_ble_eq_true rfl) (Nat.le_of_ble_eq_true rfl) dX3_init_7 (fun q1 cAq1 H hK hP hD hS => ?_)
  have hP : va_P (dC, dI) vwCl [(h0, .inr (6, [.null, .int 0])), (q1, .inl (cAq1, 10, .inr (.inr (.inr (.inr (fun _ => none))))))] H := hP
  have hD : va_D A [(h0, .inr (6, [.null, .int 0])), (q1, .inl (cAq1, 10, .inr (.inr (.inr (.inr (fun _ => none))))))] := hD
  have hK : va_K (dC, dI) vwCl [(cAq1, .object RX4)] s := hK
  refine W.widen (k := 1) (n := 10) (by omega) (by omega) ?_
  refine va_putF (D := (dC, dI)) (ci := 6) (v := .ref q1) (ty := .array (.object "Versorhall$Row")) (C := RX3) (T := TX3) (N := 2) hx hb hts (by decide +kernel) tyX3 tyX3_ok nmX3 hown hK hP hD hS 0 rfl rfl 0 (by decide) (hts (.fieldLink RX3 11 "Versorhall$Pile" "rows" "[LVersorhall$Row;") (by decide +kernel)) (fun _ h9 => h9) rfl hin rfl (by decide +kernel) rfl rfl (Nat.le_of_ble_eq_true rfl) dX3_init_10 (fun H locs hP hD hS => ?_)
  have hP : va_P (dC, dI) vwCl [(h0, .inr (6, [.ref q1, .int 0])), (q1, .inl (cAq1, 10, .inr (.inr (.inr (.inr (fun _ => none))))))] H := hP
  have hD : va_D A [(h0, .inr (6, [.ref q1, .int 0])), (q1, .inl (cAq1, 10, .inr (.inr (.inr (.inr (fun _ => none))))))] := hD
  refine lv_aload_n hx hb dX3_init_13 rfl (lv_at hl 0 rfl) ?_
  refine lv_iconst (v := 0) hx hb dX3_init_14 (by decide) ?_
  refine va_put (D := (dC, dI)) (ci := 6) (v := .int 0) (ty := .int) (C := RX3) (T := TX3) (N := 2) hx hb hts (by decide +kernel) tyX3 tyX3_ok nmX3 hown hK hP hD hS 0 rfl rfl 1 (by decide) (hts (.fieldLink RX3 17 "Versorhall$Pile" "height" "I") (by decide +kernel)) (fun _ h9 => h9) rfl (by decide +kernel) rfl rfl (Nat.le_of_ble_eq_true rfl) dX3_init_15 (fun H locs hP hD hS => ?_)
  have hP : va_P (dC, dI) vwCl [(h0, .inr (6, [.ref q1, .int 0])), (q1, .inl (cAq1, 10, .inr (.inr (.inr (.inr (fun _ => none))))))] H := hP
  have hD : va_D A [(h0, .inr (6, [.ref q1, .int 0])), (q1, .inl (cAq1, 10, .inr (.inr (.inr (.inr (fun _ => none))))))] := hD
  refine lv_iconst (v := 0) hx hb dX3_init_18 (by decide) ?_
  refine lv_istore_n (lv' := [(1, .int 0), (0, .ref h0)]) hx hb dX3_init_19 rfl hl (by decide) rfl (fun ls hl => ?_)
  refine lv_iload_n hx hb dX3_init_20 rfl (lv_at hl 0 rfl) ?_
  refine lv_aload_n hx hb dX3_init_21 rfl (lv_at hl 1 rfl) ?_
  refine va_get (D := (dC, dI)) (ci := 6) (v := .ref q1) (C := RX3) (T := TX3) (N := 2) hx hb hts (by decide +kernel) hown hK hP 0 rfl rfl 0 (by decide) (hts (.fieldLink RX3 11 "Versorhall$Pile" "rows" "[LVersorhall$Row;") (by decide +kernel)) (fun _ h9 => h9) rfl dX3_init_22 ?_
  refine va_alen (v := 10) hx hb hK hP 1 0 rfl rfl (show Int32.ofNat 10 = 10 by decide) dX3_init_25 ?_
  refine lv_icmp_ge (tgt := 48) hx hb dX3_init_26 (by decide) (fun c9 => absurd c9 (by decide)) (fun _ => ?_)
  refine lv_aload_n hx hb dX3_init_29 rfl (lv_at hl 1 rfl) ?_
  refine va_get (D := (dC, dI)) (ci := 6) (v := .ref q1) (C := RX3) (T := TX3) (N := 2) hx hb hts (by decide +kernel) hown hK hP 0 rfl rfl 0 (by decide) (hts (.fieldLink RX3 11 "Versorhall$Pile" "rows" "[LVersorhall$Row;") (by decide +kernel)) (fun _ h9 => h9) rfl dX3_init_30 ?_
  refine lv_iload_n hx hb dX3_init_33 rfl (lv_at hl 0 rfl) ?_
  refine va_new (ci := 7) (fs := [.null]) (C := RX4) (T := TX4) (N := 1) hx hb hts (by decide +kernel) tyX4 tyX4_ok hown (hts (.classLink RX3 9 RX4) (by decide +kernel)) (hts (.instantiable RX4 1) (by decide +kernel)) (hts (.initialized RX4) (by decide +kernel)) hK hP hD hS hA rfl (fun j hj => by rcases (show j = 0 by omega) with rfl <;> rfl) (Nat.le_of_ble_eq_true rfl) (Nat.le_of_ble_eq_true rfl) dX3_init_34 (fun q2 H hP hD hS => ?_)
  have hP : va_P (dC, dI) vwCl [(h0, .inr (6, [.ref q1, .int 0])), (q1, .inl (cAq1, 10, .inr (.inr (.inr (.inr (fun _ => none)))))), (q2, .inr (7, [.null]))] H := hP
  have hD : va_D A [(h0, .inr (6, [.ref q1, .int 0])), (q1, .inl (cAq1, 10, .inr (.inr (.inr (.inr (fun _ => none)))))), (q2, .inr (7, [.null]))] := hD
  refine W.widen (k := 2) (n := 11) (by omega) (by omega) ?_
  refine lv_dup hx hb dX3_init_37 rfl ?_
  have hPc := hP.sub (ws' := [(q2, .inr (7, [.null]))]) [2] rfl
  have hDc := hD.sub (ws' := [(q2, .inr (7, [.null]))]) [2] (by decide) rfl
  have hKc := hK.sub (tys' := []) [] rfl
  have hFc := va_free (wc := [(q2, .inr (7, [.null]))]) hD hS hA [2] rfl
  refine va_callv (va_runIN (As := []) (rest := [.ref q2, .int 0, .ref q1]) ⟨hx, hb, hml, hown, hts⟩ (c_Row_init l dC dI dE q2 H.size) ⟨va_cnB 0 hts gX3_init_X4_init_n21 rfl rfl rfl (Tb_n4 hTb) (hts (.initialized RX4) (by decide +kernel)) ⟨by decide, by decide, by decide +kernel⟩ ⟨Nat.le_of_ble_eq_true rfl, Nat.le_of_ble_eq_true rfl⟩, rfl, (hts (.instanceMethod yX4_init) (by decide +kernel))⟩ ⟨fun a U g mk q => ⟨q.1, PB.blind q.2⟩, fun U hU hW => ⟨rfl, PB.call hPc hKc hDc hTb hZ hS hFc hU hW⟩⟩ rfl rfl hl.1 rfl (lv_room (Nat.le_of_ble_eq_true rfl)) dX3_init_38 ⟨Nat.le_of_ble_eq_true rfl, Nat.le_of_ble_eq_true rfl⟩) hS (fun q _ h => hFc q h) hFc (fun u t H locs ht hvm hw hB hz1 hk1 hS => ?_)
  obtain ⟨q3, hB⟩ := hB
  obtain ⟨hP, hD, hK⟩ := PE.join (wc := [(q2, .inr (7, [.null]))]) (wr := [(h0, .inr (6, [.ref q1, .int 0])), (q1, .inl (cAq1, 10, .inr (.inr (.inr (.inr (fun _ => none))))))]) (w1 := [(q2, .inr (7, [.ref q3]))]) (tr := [(cAq1, .object RX4)]) (t1 := []) hP hD hK [2] [0, 1] [0] rfl rfl rfl (by decide) (by decide) hk1 hFc ht hvm hB
  have hP : va_P (dC, dI) vwCl [(h0, .inr (6, [.ref q1, .int 0])), (q1, .inl (cAq1, 10, .inr (.inr (.inr (.inr (fun _ => none)))))), (q2, .inr (7, [.ref q3]))] H := hP
  have hD : va_D A [(h0, .inr (6, [.ref q1, .int 0])), (q1, .inl (cAq1, 10, .inr (.inr (.inr (.inr (fun _ => none)))))), (q2, .inr (7, [.ref q3]))] := hD
  have hK : va_K (dC, dI) vwCl [(cAq1, .object RX4)] s := hK
  refine W.widen (k := 3) (n := 27) (by omega) (by omega) ?_
  refine va_astq hx hb hK hP hD hS 1 0 2 7 rfl rfl rfl rfl (by unfold vp_in; decide) dX3_init_41 (fun H locs hP hD hS => ?_)
  generalize va_up (fun _ => none) (Int32.toNatClampNeg 0) (some q2) = g4 at hP hD
  have hP : va_P (dC, dI) vwCl [(h0, .inr (6, [.ref q1, .int 0])), (q1, .inl (cAq1, 10, .inr (.inr (.inr (.inr g4))))), (q2, .inr (7, [.ref q3]))] H := hP
  have hD : va_D A [(h0, .inr (6, [.ref q1, .int 0])), (q1, .inl (cAq1, 10, .inr (.inr (.inr (.inr g4))))), (q2, .inr (7, [.ref q3]))] := hD
  refine lv_iinc (v := 1) (lv' := [(1, .int 1), (0, .ref h0)]) hx hb dX3_init_42 hl (k := 0) rfl (by decide) (by decide) rfl (fun ls hl => ?_)
  refine lv_goto (tgt := 20) hx hb dX3_init_45 (by decide) ?_
  have hP := hP.sub (ws' := [(h0, .inr (6, [.ref q1, .int 0])), (q1, .inl (cAq1, 10, .inr (.inr (.inr (.inr g4)))))]) [0, 1] rfl
  have hD := hD.sub (ws' := [(h0, .inr (6, [.ref q1, .int 0])), (q1, .inl (cAq1, 10, .inr (.inr (.inr (.inr g4)))))]) [0, 1] (by decide) rfl
  refine lv_iload_n hx hb dX3_init_20 rfl (lv_at hl 0 rfl) ?_
  refine lv_aload_n hx hb dX3_init_21 rfl (lv_at hl 1 rfl) ?_
  refine va_get (D := (dC, dI)) (ci := 6) (v := .ref q1) (C := RX3) (T := TX3) (N := 2) hx hb hts (by decide +kernel) hown hK hP 0 rfl rfl 0 (by decide) (hts (.fieldLink RX3 11 "Versorhall$Pile" "rows" "[LVersorhall$Row;") (by decide +kernel)) (fun _ h9 => h9) rfl dX3_init_22 ?_
  refine va_alen (v := 10) hx hb hK hP 1 0 rfl rfl (show Int32.ofNat 10 = 10 by decide) dX3_init_25 ?_
  refine lv_icmp_ge (tgt := 48) hx hb dX3_init_26 (by decide) (fun c9 => absurd c9 (by decide)) (fun _ => ?_)
  refine lv_aload_n hx hb dX3_init_29 rfl (lv_at hl 1 rfl) ?_
  refine va_get (D := (dC, dI)) (ci := 6) (v := .ref q1) (C := RX3) (T := TX3) (N := 2) hx hb hts (by decide +kernel) hown hK hP 0 rfl rfl 0 (by decide) (hts (.fieldLink RX3 11 "Versorhall$Pile" "rows" "[LVersorhall$Row;") (by decide +kernel)) (fun _ h9 => h9) rfl dX3_init_30 ?_
  refine lv_iload_n hx hb dX3_init_33 rfl (lv_at hl 0 rfl) ?_
  refine va_new (ci := 7) (fs := [.null]) (C := RX4) (T := TX4) (N := 1) hx hb hts (by decide +kernel) tyX4 tyX4_ok hown (hts (.classLink RX3 9 RX4) (by decide +kernel)) (hts (.instantiable RX4 1) (by decide +kernel)) (hts (.initialized RX4) (by decide +kernel)) hK hP hD hS hA rfl (fun j hj => by rcases (show j = 0 by omega) with rfl <;> rfl) (Nat.le_of_ble_eq_true rfl) (Nat.le_of_ble_eq_true rfl) dX3_init_34 (fun q5 H hP hD hS => ?_)
  have hP : va_P (dC, dI) vwCl [(h0, .inr (6, [.ref q1, .int 0])), (q1, .inl (cAq1, 10, .inr (.inr (.inr (.inr g4))))), (q5, .inr (7, [.null]))] H := hP
  have hD : va_D A [(h0, .inr (6, [.ref q1, .int 0])), (q1, .inl (cAq1, 10, .inr (.inr (.inr (.inr g4))))), (q5, .inr (7, [.null]))] := hD
  refine W.widen (k := 4) (n := 28) (by omega) (by omega) ?_
  refine lv_dup hx hb dX3_init_37 rfl ?_
  have hPc := hP.sub (ws' := [(q5, .inr (7, [.null]))]) [2] rfl
  have hDc := hD.sub (ws' := [(q5, .inr (7, [.null]))]) [2] (by decide) rfl
  have hKc := hK.sub (tys' := []) [] rfl
  have hFc := va_free (wc := [(q5, .inr (7, [.null]))]) hD hS hA [2] rfl
  refine va_callv (va_runIN (As := []) (rest := [.ref q5, .int 1, .ref q1]) ⟨hx, hb, hml, hown, hts⟩ (c_Row_init l dC dI dE q5 H.size) ⟨va_cnB 0 hts gX3_init_X4_init_n21 rfl rfl rfl (Tb_n4 hTb) (hts (.initialized RX4) (by decide +kernel)) ⟨by decide, by decide, by decide +kernel⟩ ⟨Nat.le_of_ble_eq_true rfl, Nat.le_of_ble_eq_true rfl⟩, rfl, (hts (.instanceMethod yX4_init) (by decide +kernel))⟩ ⟨fun a U g mk q => ⟨q.1, PB.blind q.2⟩, fun U hU hW => ⟨rfl, PB.call hPc hKc hDc hTb hZ hS hFc hU hW⟩⟩ rfl rfl hl.1 rfl (lv_room (Nat.le_of_ble_eq_true rfl)) dX3_init_38 ⟨Nat.le_of_ble_eq_true rfl, Nat.le_of_ble_eq_true rfl⟩) hS (fun q _ h => hFc q h) hFc (fun u t H locs ht hvm hw hB hz1 hk1 hS => ?_)
  obtain ⟨q6, hB⟩ := hB
  obtain ⟨hP, hD, hK⟩ := PE.join (wc := [(q5, .inr (7, [.null]))]) (wr := [(h0, .inr (6, [.ref q1, .int 0])), (q1, .inl (cAq1, 10, .inr (.inr (.inr (.inr g4)))))]) (w1 := [(q5, .inr (7, [.ref q6]))]) (tr := [(cAq1, .object RX4)]) (t1 := []) hP hD hK [2] [0, 1] [0] rfl rfl rfl (by decide) (by decide) hk1 hFc ht hvm hB
  have hP : va_P (dC, dI) vwCl [(h0, .inr (6, [.ref q1, .int 0])), (q1, .inl (cAq1, 10, .inr (.inr (.inr (.inr g4))))), (q5, .inr (7, [.ref q6]))] H := hP
  have hD : va_D A [(h0, .inr (6, [.ref q1, .int 0])), (q1, .inl (cAq1, 10, .inr (.inr (.inr (.inr g4))))), (q5, .inr (7, [.ref q6]))] := hD
  have hK : va_K (dC, dI) vwCl [(cAq1, .object RX4)] s := hK
  refine W.widen (k := 5) (n := 44) (by omega) (by omega) ?_
  refine va_astq hx hb hK hP hD hS 1 0 2 7 rfl rfl rfl rfl (by unfold vp_in; decide) dX3_init_41 (fun H locs hP hD hS => ?_)
  generalize va_up g4 (Int32.toNatClampNeg 1) (some q5) = g7 at hP hD
  have hP : va_P (dC, dI) vwCl [(h0, .inr (6, [.ref q1, .int 0])), (q1, .inl (cAq1, 10, .inr (.inr (.inr (.inr g7))))), (q5, .inr (7, [.ref q6]))] H := hP
  have hD : va_D A [(h0, .inr (6, [.ref q1, .int 0])), (q1, .inl (cAq1, 10, .inr (.inr (.inr (.inr g7))))), (q5, .inr (7, [.ref q6]))] := hD
  refine lv_iinc (v := 2) (lv' := [(1, .int 2), (0, .ref h0)]) hx hb dX3_init_42 hl (k := 0) rfl (by decide) (by decide) rfl (fun ls hl => ?_)
  refine lv_goto (tgt := 20) hx hb dX3_init_45 (by decide) ?_
  have hP := hP.sub (ws' := [(h0, .inr (6, [.ref q1, .int 0])), (q1, .inl (cAq1, 10, .inr (.inr (.inr (.inr g7)))))]) [0, 1] rfl
  have hD := hD.sub (ws' := [(h0, .inr (6, [.ref q1, .int 0])), (q1, .inl (cAq1, 10, .inr (.inr (.inr (.inr g7)))))]) [0, 1] (by decide) rfl
  refine lv_iload_n hx hb dX3_init_20 rfl (lv_at hl 0 rfl) ?_
  refine lv_aload_n hx hb dX3_init_21 rfl (lv_at hl 1 rfl) ?_
  refine va_get (D := (dC, dI)) (ci := 6) (v := .ref q1) (C := RX3) (T := TX3) (N := 2) hx hb hts (by decide +kernel) hown hK hP 0 rfl rfl 0 (by decide) (hts (.fieldLink RX3 11 "Versorhall$Pile" "rows" "[LVersorhall$Row;") (by decide +kernel)) (fun _ h9 => h9) rfl dX3_init_22 ?_
  refine va_alen (v := 10) hx hb hK hP 1 0 rfl rfl (show Int32.ofNat 10 = 10 by decide) dX3_init_25 ?_
  refine lv_icmp_ge (tgt := 48) hx hb dX3_init_26 (by decide) (fun c9 => absurd c9 (by decide)) (fun _ => ?_)
  refine lv_aload_n hx hb dX3_init_29 rfl (lv_at hl 1 rfl) ?_
  refine va_get (D := (dC, dI)) (ci := 6) (v := .ref q1) (C := RX3) (T := TX3) (N := 2) hx hb hts (by decide +kernel) hown hK hP 0 rfl rfl 0 (by decide) (hts (.fieldLink RX3 11 "Versorhall$Pile" "rows" "[LVersorhall$Row;") (by decide +kernel)) (fun _ h9 => h9) rfl dX3_init_30 ?_
  refine lv_iload_n hx hb dX3_init_33 rfl (lv_at hl 0 rfl) ?_
  refine va_new (ci := 7) (fs := [.null]) (C := RX4) (T := TX4) (N := 1) hx hb hts (by decide +kernel) tyX4 tyX4_ok hown (hts (.classLink RX3 9 RX4) (by decide +kernel)) (hts (.instantiable RX4 1) (by decide +kernel)) (hts (.initialized RX4) (by decide +kernel)) hK hP hD hS hA rfl (fun j hj => by rcases (show j = 0 by omega) with rfl <;> rfl) (Nat.le_of_ble_eq_true rfl) (Nat.le_of_ble_eq_true rfl) dX3_init_34 (fun q8 H hP hD hS => ?_)
  have hP : va_P (dC, dI) vwCl [(h0, .inr (6, [.ref q1, .int 0])), (q1, .inl (cAq1, 10, .inr (.inr (.inr (.inr g7))))), (q8, .inr (7, [.null]))] H := hP
  have hD : va_D A [(h0, .inr (6, [.ref q1, .int 0])), (q1, .inl (cAq1, 10, .inr (.inr (.inr (.inr g7))))), (q8, .inr (7, [.null]))] := hD
  refine W.widen (k := 6) (n := 45) (by omega) (by omega) ?_
  refine lv_dup hx hb dX3_init_37 rfl ?_
  have hPc := hP.sub (ws' := [(q8, .inr (7, [.null]))]) [2] rfl
  have hDc := hD.sub (ws' := [(q8, .inr (7, [.null]))]) [2] (by decide) rfl
  have hKc := hK.sub (tys' := []) [] rfl
  have hFc := va_free (wc := [(q8, .inr (7, [.null]))]) hD hS hA [2] rfl
  refine va_callv (va_runIN (As := []) (rest := [.ref q8, .int 2, .ref q1]) ⟨hx, hb, hml, hown, hts⟩ (c_Row_init l dC dI dE q8 H.size) ⟨va_cnB 0 hts gX3_init_X4_init_n21 rfl rfl rfl (Tb_n4 hTb) (hts (.initialized RX4) (by decide +kernel)) ⟨by decide, by decide, by decide +kernel⟩ ⟨Nat.le_of_ble_eq_true rfl, Nat.le_of_ble_eq_true rfl⟩, rfl, (hts (.instanceMethod yX4_init) (by decide +kernel))⟩ ⟨fun a U g mk q => ⟨q.1, PB.blind q.2⟩, fun U hU hW => ⟨rfl, PB.call hPc hKc hDc hTb hZ hS hFc hU hW⟩⟩ rfl rfl hl.1 rfl (lv_room (Nat.le_of_ble_eq_true rfl)) dX3_init_38 ⟨Nat.le_of_ble_eq_true rfl, Nat.le_of_ble_eq_true rfl⟩) hS (fun q _ h => hFc q h) hFc (fun u t H locs ht hvm hw hB hz1 hk1 hS => ?_)
  obtain ⟨q9, hB⟩ := hB
  obtain ⟨hP, hD, hK⟩ := PE.join (wc := [(q8, .inr (7, [.null]))]) (wr := [(h0, .inr (6, [.ref q1, .int 0])), (q1, .inl (cAq1, 10, .inr (.inr (.inr (.inr g7)))))]) (w1 := [(q8, .inr (7, [.ref q9]))]) (tr := [(cAq1, .object RX4)]) (t1 := []) hP hD hK [2] [0, 1] [0] rfl rfl rfl (by decide) (by decide) hk1 hFc ht hvm hB
  have hP : va_P (dC, dI) vwCl [(h0, .inr (6, [.ref q1, .int 0])), (q1, .inl (cAq1, 10, .inr (.inr (.inr (.inr g7))))), (q8, .inr (7, [.ref q9]))] H := hP
  have hD : va_D A [(h0, .inr (6, [.ref q1, .int 0])), (q1, .inl (cAq1, 10, .inr (.inr (.inr (.inr g7))))), (q8, .inr (7, [.ref q9]))] := hD
  have hK : va_K (dC, dI) vwCl [(cAq1, .object RX4)] s := hK
  refine W.widen (k := 7) (n := 61) (by omega) (by omega) ?_
  refine va_astq hx hb hK hP hD hS 1 0 2 7 rfl rfl rfl rfl (by unfold vp_in; decide) dX3_init_41 (fun H locs hP hD hS => ?_)
  generalize va_up g7 (Int32.toNatClampNeg 2) (some q8) = g10 at hP hD
  have hP : va_P (dC, dI) vwCl [(h0, .inr (6, [.ref q1, .int 0])), (q1, .inl (cAq1, 10, .inr (.inr (.inr (.inr g10))))), (q8, .inr (7, [.ref q9]))] H := hP
  have hD : va_D A [(h0, .inr (6, [.ref q1, .int 0])), (q1, .inl (cAq1, 10, .inr (.inr (.inr (.inr g10))))), (q8, .inr (7, [.ref q9]))] := hD
  refine lv_iinc (v := 3) (lv' := [(1, .int 3), (0, .ref h0)]) hx hb dX3_init_42 hl (k := 0) rfl (by decide) (by decide) rfl (fun ls hl => ?_)
  refine lv_goto (tgt := 20) hx hb dX3_init_45 (by decide) ?_
  have hP := hP.sub (ws' := [(h0, .inr (6, [.ref q1, .int 0])), (q1, .inl (cAq1, 10, .inr (.inr (.inr (.inr g10)))))]) [0, 1] rfl
  have hD := hD.sub (ws' := [(h0, .inr (6, [.ref q1, .int 0])), (q1, .inl (cAq1, 10, .inr (.inr (.inr (.inr g10)))))]) [0, 1] (by decide) rfl
  refine lv_iload_n hx hb dX3_init_20 rfl (lv_at hl 0 rfl) ?_
  refine lv_aload_n hx hb dX3_init_21 rfl (lv_at hl 1 rfl) ?_
  refine va_get (D := (dC, dI)) (ci := 6) (v := .ref q1) (C := RX3) (T := TX3) (N := 2) hx hb hts (by decide +kernel) hown hK hP 0 rfl rfl 0 (by decide) (hts (.fieldLink RX3 11 "Versorhall$Pile" "rows" "[LVersorhall$Row;") (by decide +kernel)) (fun _ h9 => h9) rfl dX3_init_22 ?_
  refine va_alen (v := 10) hx hb hK hP 1 0 rfl rfl (show Int32.ofNat 10 = 10 by decide) dX3_init_25 ?_
  refine lv_icmp_ge (tgt := 48) hx hb dX3_init_26 (by decide) (fun c9 => absurd c9 (by decide)) (fun _ => ?_)
  refine lv_aload_n hx hb dX3_init_29 rfl (lv_at hl 1 rfl) ?_
  refine va_get (D := (dC, dI)) (ci := 6) (v := .ref q1) (C := RX3) (T := TX3) (N := 2) hx hb hts (by decide +kernel) hown hK hP 0 rfl rfl 0 (by decide) (hts (.fieldLink RX3 11 "Versorhall$Pile" "rows" "[LVersorhall$Row;") (by decide +kernel)) (fun _ h9 => h9) rfl dX3_init_30 ?_
  refine lv_iload_n hx hb dX3_init_33 rfl (lv_at hl 0 rfl) ?_
  refine va_new (ci := 7) (fs := [.null]) (C := RX4) (T := TX4) (N := 1) hx hb hts (by decide +kernel) tyX4 tyX4_ok hown (hts (.classLink RX3 9 RX4) (by decide +kernel)) (hts (.instantiable RX4 1) (by decide +kernel)) (hts (.initialized RX4) (by decide +kernel)) hK hP hD hS hA rfl (fun j hj => by rcases (show j = 0 by omega) with rfl <;> rfl) (Nat.le_of_ble_eq_true rfl) (Nat.le_of_ble_eq_true rfl) dX3_init_34 (fun q11 H hP hD hS => ?_)
  have hP : va_P (dC, dI) vwCl [(h0, .inr (6, [.ref q1, .int 0])), (q1, .inl (cAq1, 10, .inr (.inr (.inr (.inr g10))))), (q11, .inr (7, [.null]))] H := hP
  have hD : va_D A [(h0, .inr (6, [.ref q1, .int 0])), (q1, .inl (cAq1, 10, .inr (.inr (.inr (.inr g10))))), (q11, .inr (7, [.null]))] := hD
  refine W.widen (k := 8) (n := 62) (by omega) (by omega) ?_
  refine lv_dup hx hb dX3_init_37 rfl ?_
  have hPc := hP.sub (ws' := [(q11, .inr (7, [.null]))]) [2] rfl
  have hDc := hD.sub (ws' := [(q11, .inr (7, [.null]))]) [2] (by decide) rfl
  have hKc := hK.sub (tys' := []) [] rfl
  have hFc := va_free (wc := [(q11, .inr (7, [.null]))]) hD hS hA [2] rfl
  refine va_callv (va_runIN (As := []) (rest := [.ref q11, .int 3, .ref q1]) ⟨hx, hb, hml, hown, hts⟩ (c_Row_init l dC dI dE q11 H.size) ⟨va_cnB 0 hts gX3_init_X4_init_n21 rfl rfl rfl (Tb_n4 hTb) (hts (.initialized RX4) (by decide +kernel)) ⟨by decide, by decide, by decide +kernel⟩ ⟨Nat.le_of_ble_eq_true rfl, Nat.le_of_ble_eq_true rfl⟩, rfl, (hts (.instanceMethod yX4_init) (by decide +kernel))⟩ ⟨fun a U g mk q => ⟨q.1, PB.blind q.2⟩, fun U hU hW => ⟨rfl, PB.call hPc hKc hDc hTb hZ hS hFc hU hW⟩⟩ rfl rfl hl.1 rfl (lv_room (Nat.le_of_ble_eq_true rfl)) dX3_init_38 ⟨Nat.le_of_ble_eq_true rfl, Nat.le_of_ble_eq_true rfl⟩) hS (fun q _ h => hFc q h) hFc (fun u t H locs ht hvm hw hB hz1 hk1 hS => ?_)
  obtain ⟨q12, hB⟩ := hB
  obtain ⟨hP, hD, hK⟩ := PE.join (wc := [(q11, .inr (7, [.null]))]) (wr := [(h0, .inr (6, [.ref q1, .int 0])), (q1, .inl (cAq1, 10, .inr (.inr (.inr (.inr g10)))))]) (w1 := [(q11, .inr (7, [.ref q12]))]) (tr := [(cAq1, .object RX4)]) (t1 := []) hP hD hK [2] [0, 1] [0] rfl rfl rfl (by decide) (by decide) hk1 hFc ht hvm hB
  have hP : va_P (dC, dI) vwCl [(h0, .inr (6, [.ref q1, .int 0])), (q1, .inl (cAq1, 10, .inr (.inr (.inr (.inr g10))))), (q11, .inr (7, [.ref q12]))] H := hP
  have hD : va_D A [(h0, .inr (6, [.ref q1, .int 0])), (q1, .inl (cAq1, 10, .inr (.inr (.inr (.inr g10))))), (q11, .inr (7, [.ref q12]))] := hD
  have hK : va_K (dC, dI) vwCl [(cAq1, .object RX4)] s := hK
  refine W.widen (k := 9) (n := 78) (by omega) (by omega) ?_
  refine va_astq hx hb hK hP hD hS 1 0 2 7 rfl rfl rfl rfl (by unfold vp_in; decide) dX3_init_41 (fun H locs hP hD hS => ?_)
  generalize va_up g10 (Int32.toNatClampNeg 3) (some q11) = g13 at hP hD
  have hP : va_P (dC, dI) vwCl [(h0, .inr (6, [.ref q1, .int 0])), (q1, .inl (cAq1, 10, .inr (.inr (.inr (.inr g13))))), (q11, .inr (7, [.ref q12]))] H := hP
  have hD : va_D A [(h0, .inr (6, [.ref q1, .int 0])), (q1, .inl (cAq1, 10, .inr (.inr (.inr (.inr g13))))), (q11, .inr (7, [.ref q12]))] := hD
  refine lv_iinc (v := 4) (lv' := [(1, .int 4), (0, .ref h0)]) hx hb dX3_init_42 hl (k := 0) rfl (by decide) (by decide) rfl (fun ls hl => ?_)
  refine lv_goto (tgt := 20) hx hb dX3_init_45 (by decide) ?_
  have hP := hP.sub (ws' := [(h0, .inr (6, [.ref q1, .int 0])), (q1, .inl (cAq1, 10, .inr (.inr (.inr (.inr g13)))))]) [0, 1] rfl
  have hD := hD.sub (ws' := [(h0, .inr (6, [.ref q1, .int 0])), (q1, .inl (cAq1, 10, .inr (.inr (.inr (.inr g13)))))]) [0, 1] (by decide) rfl
  refine lv_iload_n hx hb dX3_init_20 rfl (lv_at hl 0 rfl) ?_
  refine lv_aload_n hx hb dX3_init_21 rfl (lv_at hl 1 rfl) ?_
  refine va_get (D := (dC, dI)) (ci := 6) (v := .ref q1) (C := RX3) (T := TX3) (N := 2) hx hb hts (by decide +kernel) hown hK hP 0 rfl rfl 0 (by decide) (hts (.fieldLink RX3 11 "Versorhall$Pile" "rows" "[LVersorhall$Row;") (by decide +kernel)) (fun _ h9 => h9) rfl dX3_init_22 ?_
  refine va_alen (v := 10) hx hb hK hP 1 0 rfl rfl (show Int32.ofNat 10 = 10 by decide) dX3_init_25 ?_
  refine lv_icmp_ge (tgt := 48) hx hb dX3_init_26 (by decide) (fun c9 => absurd c9 (by decide)) (fun _ => ?_)
  refine lv_aload_n hx hb dX3_init_29 rfl (lv_at hl 1 rfl) ?_
  refine va_get (D := (dC, dI)) (ci := 6) (v := .ref q1) (C := RX3) (T := TX3) (N := 2) hx hb hts (by decide +kernel) hown hK hP 0 rfl rfl 0 (by decide) (hts (.fieldLink RX3 11 "Versorhall$Pile" "rows" "[LVersorhall$Row;") (by decide +kernel)) (fun _ h9 => h9) rfl dX3_init_30 ?_
  refine lv_iload_n hx hb dX3_init_33 rfl (lv_at hl 0 rfl) ?_
  refine va_new (ci := 7) (fs := [.null]) (C := RX4) (T := TX4) (N := 1) hx hb hts (by decide +kernel) tyX4 tyX4_ok hown (hts (.classLink RX3 9 RX4) (by decide +kernel)) (hts (.instantiable RX4 1) (by decide +kernel)) (hts (.initialized RX4) (by decide +kernel)) hK hP hD hS hA rfl (fun j hj => by rcases (show j = 0 by omega) with rfl <;> rfl) (Nat.le_of_ble_eq_true rfl) (Nat.le_of_ble_eq_true rfl) dX3_init_34 (fun q14 H hP hD hS => ?_)
  have hP : va_P (dC, dI) vwCl [(h0, .inr (6, [.ref q1, .int 0])), (q1, .inl (cAq1, 10, .inr (.inr (.inr (.inr g13))))), (q14, .inr (7, [.null]))] H := hP
  have hD : va_D A [(h0, .inr (6, [.ref q1, .int 0])), (q1, .inl (cAq1, 10, .inr (.inr (.inr (.inr g13))))), (q14, .inr (7, [.null]))] := hD
  refine W.widen (k := 10) (n := 79) (by omega) (by omega) ?_
  refine lv_dup hx hb dX3_init_37 rfl ?_
  have hPc := hP.sub (ws' := [(q14, .inr (7, [.null]))]) [2] rfl
  have hDc := hD.sub (ws' := [(q14, .inr (7, [.null]))]) [2] (by decide) rfl
  have hKc := hK.sub (tys' := []) [] rfl
  have hFc := va_free (wc := [(q14, .inr (7, [.null]))]) hD hS hA [2] rfl
  refine va_callv (va_runIN (As := []) (rest := [.ref q14, .int 4, .ref q1]) ⟨hx, hb, hml, hown, hts⟩ (c_Row_init l dC dI dE q14 H.size) ⟨va_cnB 0 hts gX3_init_X4_init_n21 rfl rfl rfl (Tb_n4 hTb) (hts (.initialized RX4) (by decide +kernel)) ⟨by decide, by decide, by decide +kernel⟩ ⟨Nat.le_of_ble_eq_true rfl, Nat.le_of_ble_eq_true rfl⟩, rfl, (hts (.instanceMethod yX4_init) (by decide +kernel))⟩ ⟨fun a U g mk q => ⟨q.1, PB.blind q.2⟩, fun U hU hW => ⟨rfl, PB.call hPc hKc hDc hTb hZ hS hFc hU hW⟩⟩ rfl rfl hl.1 rfl (lv_room (Nat.le_of_ble_eq_true rfl)) dX3_init_38 ⟨Nat.le_of_ble_eq_true rfl, Nat.le_of_ble_eq_true rfl⟩) hS (fun q _ h => hFc q h) hFc (fun u t H locs ht hvm hw hB hz1 hk1 hS => ?_)
  obtain ⟨q15, hB⟩ := hB
  obtain ⟨hP, hD, hK⟩ := PE.join (wc := [(q14, .inr (7, [.null]))]) (wr := [(h0, .inr (6, [.ref q1, .int 0])), (q1, .inl (cAq1, 10, .inr (.inr (.inr (.inr g13)))))]) (w1 := [(q14, .inr (7, [.ref q15]))]) (tr := [(cAq1, .object RX4)]) (t1 := []) hP hD hK [2] [0, 1] [0] rfl rfl rfl (by decide) (by decide) hk1 hFc ht hvm hB
  have hP : va_P (dC, dI) vwCl [(h0, .inr (6, [.ref q1, .int 0])), (q1, .inl (cAq1, 10, .inr (.inr (.inr (.inr g13))))), (q14, .inr (7, [.ref q15]))] H := hP
  have hD : va_D A [(h0, .inr (6, [.ref q1, .int 0])), (q1, .inl (cAq1, 10, .inr (.inr (.inr (.inr g13))))), (q14, .inr (7, [.ref q15]))] := hD
  have hK : va_K (dC, dI) vwCl [(cAq1, .object RX4)] s := hK
  refine W.widen (k := 11) (n := 95) (by omega) (by omega) ?_
  refine va_astq hx hb hK hP hD hS 1 0 2 7 rfl rfl rfl rfl (by unfold vp_in; decide) dX3_init_41 (fun H locs hP hD hS => ?_)
  generalize va_up g13 (Int32.toNatClampNeg 4) (some q14) = g16 at hP hD
  have hP : va_P (dC, dI) vwCl [(h0, .inr (6, [.ref q1, .int 0])), (q1, .inl (cAq1, 10, .inr (.inr (.inr (.inr g16))))), (q14, .inr (7, [.ref q15]))] H := hP
  have hD : va_D A [(h0, .inr (6, [.ref q1, .int 0])), (q1, .inl (cAq1, 10, .inr (.inr (.inr (.inr g16))))), (q14, .inr (7, [.ref q15]))] := hD
  refine lv_iinc (v := 5) (lv' := [(1, .int 5), (0, .ref h0)]) hx hb dX3_init_42 hl (k := 0) rfl (by decide) (by decide) rfl (fun ls hl => ?_)
  refine lv_goto (tgt := 20) hx hb dX3_init_45 (by decide) ?_
  have hP := hP.sub (ws' := [(h0, .inr (6, [.ref q1, .int 0])), (q1, .inl (cAq1, 10, .inr (.inr (.inr (.inr g16)))))]) [0, 1] rfl
  have hD := hD.sub (ws' := [(h0, .inr (6, [.ref q1, .int 0])), (q1, .inl (cAq1, 10, .inr (.inr (.inr (.inr g16)))))]) [0, 1] (by decide) rfl
  refine lv_iload_n hx hb dX3_init_20 rfl (lv_at hl 0 rfl) ?_
  refine lv_aload_n hx hb dX3_init_21 rfl (lv_at hl 1 rfl) ?_
  refine va_get (D := (dC, dI)) (ci := 6) (v := .ref q1) (C := RX3) (T := TX3) (N := 2) hx hb hts (by decide +kernel) hown hK hP 0 rfl rfl 0 (by decide) (hts (.fieldLink RX3 11 "Versorhall$Pile" "rows" "[LVersorhall$Row;") (by decide +kernel)) (fun _ h9 => h9) rfl dX3_init_22 ?_
  refine va_alen (v := 10) hx hb hK hP 1 0 rfl rfl (show Int32.ofNat 10 = 10 by decide) dX3_init_25 ?_
  refine lv_icmp_ge (tgt := 48) hx hb dX3_init_26 (by decide) (fun c9 => absurd c9 (by decide)) (fun _ => ?_)
  refine lv_aload_n hx hb dX3_init_29 rfl (lv_at hl 1 rfl) ?_
  refine va_get (D := (dC, dI)) (ci := 6) (v := .ref q1) (C := RX3) (T := TX3) (N := 2) hx hb hts (by decide +kernel) hown hK hP 0 rfl rfl 0 (by decide) (hts (.fieldLink RX3 11 "Versorhall$Pile" "rows" "[LVersorhall$Row;") (by decide +kernel)) (fun _ h9 => h9) rfl dX3_init_30 ?_
  refine lv_iload_n hx hb dX3_init_33 rfl (lv_at hl 0 rfl) ?_
  refine va_new (ci := 7) (fs := [.null]) (C := RX4) (T := TX4) (N := 1) hx hb hts (by decide +kernel) tyX4 tyX4_ok hown (hts (.classLink RX3 9 RX4) (by decide +kernel)) (hts (.instantiable RX4 1) (by decide +kernel)) (hts (.initialized RX4) (by decide +kernel)) hK hP hD hS hA rfl (fun j hj => by rcases (show j = 0 by omega) with rfl <;> rfl) (Nat.le_of_ble_eq_true rfl) (Nat.le_of_ble_eq_true rfl) dX3_init_34 (fun q17 H hP hD hS => ?_)
  have hP : va_P (dC, dI) vwCl [(h0, .inr (6, [.ref q1, .int 0])), (q1, .inl (cAq1, 10, .inr (.inr (.inr (.inr g16))))), (q17, .inr (7, [.null]))] H := hP
  have hD : va_D A [(h0, .inr (6, [.ref q1, .int 0])), (q1, .inl (cAq1, 10, .inr (.inr (.inr (.inr g16))))), (q17, .inr (7, [.null]))] := hD
  refine W.widen (k := 12) (n := 96) (by omega) (by omega) ?_
  refine lv_dup hx hb dX3_init_37 rfl ?_
  have hPc := hP.sub (ws' := [(q17, .inr (7, [.null]))]) [2] rfl
  have hDc := hD.sub (ws' := [(q17, .inr (7, [.null]))]) [2] (by decide) rfl
  have hKc := hK.sub (tys' := []) [] rfl
  have hFc := va_free (wc := [(q17, .inr (7, [.null]))]) hD hS hA [2] rfl
  refine va_callv (va_runIN (As := []) (rest := [.ref q17, .int 5, .ref q1]) ⟨hx, hb, hml, hown, hts⟩ (c_Row_init l dC dI dE q17 H.size) ⟨va_cnB 0 hts gX3_init_X4_init_n21 rfl rfl rfl (Tb_n4 hTb) (hts (.initialized RX4) (by decide +kernel)) ⟨by decide, by decide, by decide +kernel⟩ ⟨Nat.le_of_ble_eq_true rfl, Nat.le_of_ble_eq_true rfl⟩, rfl, (hts (.instanceMethod yX4_init) (by decide +kernel))⟩ ⟨fun a U g mk q => ⟨q.1, PB.blind q.2⟩, fun U hU hW => ⟨rfl, PB.call hPc hKc hDc hTb hZ hS hFc hU hW⟩⟩ rfl rfl hl.1 rfl (lv_room (Nat.le_of_ble_eq_true rfl)) dX3_init_38 ⟨Nat.le_of_ble_eq_true rfl, Nat.le_of_ble_eq_true rfl⟩) hS (fun q _ h => hFc q h) hFc (fun u t H locs ht hvm hw hB hz1 hk1 hS => ?_)
  obtain ⟨q18, hB⟩ := hB
  obtain ⟨hP, hD, hK⟩ := PE.join (wc := [(q17, .inr (7, [.null]))]) (wr := [(h0, .inr (6, [.ref q1, .int 0])), (q1, .inl (cAq1, 10, .inr (.inr (.inr (.inr g16)))))]) (w1 := [(q17, .inr (7, [.ref q18]))]) (tr := [(cAq1, .object RX4)]) (t1 := []) hP hD hK [2] [0, 1] [0] rfl rfl rfl (by decide) (by decide) hk1 hFc ht hvm hB
  have hP : va_P (dC, dI) vwCl [(h0, .inr (6, [.ref q1, .int 0])), (q1, .inl (cAq1, 10, .inr (.inr (.inr (.inr g16))))), (q17, .inr (7, [.ref q18]))] H := hP
  have hD : va_D A [(h0, .inr (6, [.ref q1, .int 0])), (q1, .inl (cAq1, 10, .inr (.inr (.inr (.inr g16))))), (q17, .inr (7, [.ref q18]))] := hD
  have hK : va_K (dC, dI) vwCl [(cAq1, .object RX4)] s := hK
  refine W.widen (k := 13) (n := 112) (by omega) (by omega) ?_
  refine va_astq hx hb hK hP hD hS 1 0 2 7 rfl rfl rfl rfl (by unfold vp_in; decide) dX3_init_41 (fun H locs hP hD hS => ?_)
  generalize va_up g16 (Int32.toNatClampNeg 5) (some q17) = g19 at hP hD
  have hP : va_P (dC, dI) vwCl [(h0, .inr (6, [.ref q1, .int 0])), (q1, .inl (cAq1, 10, .inr (.inr (.inr (.inr g19))))), (q17, .inr (7, [.ref q18]))] H := hP
  have hD : va_D A [(h0, .inr (6, [.ref q1, .int 0])), (q1, .inl (cAq1, 10, .inr (.inr (.inr (.inr g19))))), (q17, .inr (7, [.ref q18]))] := hD
  refine lv_iinc (v := 6) (lv' := [(1, .int 6), (0, .ref h0)]) hx hb dX3_init_42 hl (k := 0) rfl (by decide) (by decide) rfl (fun ls hl => ?_)
  refine lv_goto (tgt := 20) hx hb dX3_init_45 (by decide) ?_
  have hP := hP.sub (ws' := [(h0, .inr (6, [.ref q1, .int 0])), (q1, .inl (cAq1, 10, .inr (.inr (.inr (.inr g19)))))]) [0, 1] rfl
  have hD := hD.sub (ws' := [(h0, .inr (6, [.ref q1, .int 0])), (q1, .inl (cAq1, 10, .inr (.inr (.inr (.inr g19)))))]) [0, 1] (by decide) rfl
  refine lv_iload_n hx hb dX3_init_20 rfl (lv_at hl 0 rfl) ?_
  refine lv_aload_n hx hb dX3_init_21 rfl (lv_at hl 1 rfl) ?_
  refine va_get (D := (dC, dI)) (ci := 6) (v := .ref q1) (C := RX3) (T := TX3) (N := 2) hx hb hts (by decide +kernel) hown hK hP 0 rfl rfl 0 (by decide) (hts (.fieldLink RX3 11 "Versorhall$Pile" "rows" "[LVersorhall$Row;") (by decide +kernel)) (fun _ h9 => h9) rfl dX3_init_22 ?_
  refine va_alen (v := 10) hx hb hK hP 1 0 rfl rfl (show Int32.ofNat 10 = 10 by decide) dX3_init_25 ?_
  refine lv_icmp_ge (tgt := 48) hx hb dX3_init_26 (by decide) (fun c9 => absurd c9 (by decide)) (fun _ => ?_)
  refine lv_aload_n hx hb dX3_init_29 rfl (lv_at hl 1 rfl) ?_
  refine va_get (D := (dC, dI)) (ci := 6) (v := .ref q1) (C := RX3) (T := TX3) (N := 2) hx hb hts (by decide +kernel) hown hK hP 0 rfl rfl 0 (by decide) (hts (.fieldLink RX3 11 "Versorhall$Pile" "rows" "[LVersorhall$Row;") (by decide +kernel)) (fun _ h9 => h9) rfl dX3_init_30 ?_
  refine lv_iload_n hx hb dX3_init_33 rfl (lv_at hl 0 rfl) ?_
  refine va_new (ci := 7) (fs := [.null]) (C := RX4) (T := TX4) (N := 1) hx hb hts (by decide +kernel) tyX4 tyX4_ok hown (hts (.classLink RX3 9 RX4) (by decide +kernel)) (hts (.instantiable RX4 1) (by decide +kernel)) (hts (.initialized RX4) (by decide +kernel)) hK hP hD hS hA rfl (fun j hj => by rcases (show j = 0 by omega) with rfl <;> rfl) (Nat.le_of_ble_eq_true rfl) (Nat.le_of_ble_eq_true rfl) dX3_init_34 (fun q20 H hP hD hS => ?_)
  have hP : va_P (dC, dI) vwCl [(h0, .inr (6, [.ref q1, .int 0])), (q1, .inl (cAq1, 10, .inr (.inr (.inr (.inr g19))))), (q20, .inr (7, [.null]))] H := hP
  have hD : va_D A [(h0, .inr (6, [.ref q1, .int 0])), (q1, .inl (cAq1, 10, .inr (.inr (.inr (.inr g19))))), (q20, .inr (7, [.null]))] := hD
  refine W.widen (k := 14) (n := 113) (by omega) (by omega) ?_
  refine lv_dup hx hb dX3_init_37 rfl ?_
  have hPc := hP.sub (ws' := [(q20, .inr (7, [.null]))]) [2] rfl
  have hDc := hD.sub (ws' := [(q20, .inr (7, [.null]))]) [2] (by decide) rfl
  have hKc := hK.sub (tys' := []) [] rfl
  have hFc := va_free (wc := [(q20, .inr (7, [.null]))]) hD hS hA [2] rfl
  refine va_callv (va_runIN (As := []) (rest := [.ref q20, .int 6, .ref q1]) ⟨hx, hb, hml, hown, hts⟩ (c_Row_init l dC dI dE q20 H.size) ⟨va_cnB 0 hts gX3_init_X4_init_n21 rfl rfl rfl (Tb_n4 hTb) (hts (.initialized RX4) (by decide +kernel)) ⟨by decide, by decide, by decide +kernel⟩ ⟨Nat.le_of_ble_eq_true rfl, Nat.le_of_ble_eq_true rfl⟩, rfl, (hts (.instanceMethod yX4_init) (by decide +kernel))⟩ ⟨fun a U g mk q => ⟨q.1, PB.blind q.2⟩, fun U hU hW => ⟨rfl, PB.call hPc hKc hDc hTb hZ hS hFc hU hW⟩⟩ rfl rfl hl.1 rfl (lv_room (Nat.le_of_ble_eq_true rfl)) dX3_init_38 ⟨Nat.le_of_ble_eq_true rfl, Nat.le_of_ble_eq_true rfl⟩) hS (fun q _ h => hFc q h) hFc (fun u t H locs ht hvm hw hB hz1 hk1 hS => ?_)
  obtain ⟨q21, hB⟩ := hB
  obtain ⟨hP, hD, hK⟩ := PE.join (wc := [(q20, .inr (7, [.null]))]) (wr := [(h0, .inr (6, [.ref q1, .int 0])), (q1, .inl (cAq1, 10, .inr (.inr (.inr (.inr g19)))))]) (w1 := [(q20, .inr (7, [.ref q21]))]) (tr := [(cAq1, .object RX4)]) (t1 := []) hP hD hK [2] [0, 1] [0] rfl rfl rfl (by decide) (by decide) hk1 hFc ht hvm hB
  have hP : va_P (dC, dI) vwCl [(h0, .inr (6, [.ref q1, .int 0])), (q1, .inl (cAq1, 10, .inr (.inr (.inr (.inr g19))))), (q20, .inr (7, [.ref q21]))] H := hP
  have hD : va_D A [(h0, .inr (6, [.ref q1, .int 0])), (q1, .inl (cAq1, 10, .inr (.inr (.inr (.inr g19))))), (q20, .inr (7, [.ref q21]))] := hD
  have hK : va_K (dC, dI) vwCl [(cAq1, .object RX4)] s := hK
  refine W.widen (k := 15) (n := 129) (by omega) (by omega) ?_
  refine va_astq hx hb hK hP hD hS 1 0 2 7 rfl rfl rfl rfl (by unfold vp_in; decide) dX3_init_41 (fun H locs hP hD hS => ?_)
  generalize va_up g19 (Int32.toNatClampNeg 6) (some q20) = g22 at hP hD
  have hP : va_P (dC, dI) vwCl [(h0, .inr (6, [.ref q1, .int 0])), (q1, .inl (cAq1, 10, .inr (.inr (.inr (.inr g22))))), (q20, .inr (7, [.ref q21]))] H := hP
  have hD : va_D A [(h0, .inr (6, [.ref q1, .int 0])), (q1, .inl (cAq1, 10, .inr (.inr (.inr (.inr g22))))), (q20, .inr (7, [.ref q21]))] := hD
  refine lv_iinc (v := 7) (lv' := [(1, .int 7), (0, .ref h0)]) hx hb dX3_init_42 hl (k := 0) rfl (by decide) (by decide) rfl (fun ls hl => ?_)
  refine lv_goto (tgt := 20) hx hb dX3_init_45 (by decide) ?_
  have hP := hP.sub (ws' := [(h0, .inr (6, [.ref q1, .int 0])), (q1, .inl (cAq1, 10, .inr (.inr (.inr (.inr g22)))))]) [0, 1] rfl
  have hD := hD.sub (ws' := [(h0, .inr (6, [.ref q1, .int 0])), (q1, .inl (cAq1, 10, .inr (.inr (.inr (.inr g22)))))]) [0, 1] (by decide) rfl
  refine lv_iload_n hx hb dX3_init_20 rfl (lv_at hl 0 rfl) ?_
  refine lv_aload_n hx hb dX3_init_21 rfl (lv_at hl 1 rfl) ?_
  refine va_get (D := (dC, dI)) (ci := 6) (v := .ref q1) (C := RX3) (T := TX3) (N := 2) hx hb hts (by decide +kernel) hown hK hP 0 rfl rfl 0 (by decide) (hts (.fieldLink RX3 11 "Versorhall$Pile" "rows" "[LVersorhall$Row;") (by decide +kernel)) (fun _ h9 => h9) rfl dX3_init_22 ?_
  refine va_alen (v := 10) hx hb hK hP 1 0 rfl rfl (show Int32.ofNat 10 = 10 by decide) dX3_init_25 ?_
  refine lv_icmp_ge (tgt := 48) hx hb dX3_init_26 (by decide) (fun c9 => absurd c9 (by decide)) (fun _ => ?_)
  refine lv_aload_n hx hb dX3_init_29 rfl (lv_at hl 1 rfl) ?_
  refine va_get (D := (dC, dI)) (ci := 6) (v := .ref q1) (C := RX3) (T := TX3) (N := 2) hx hb hts (by decide +kernel) hown hK hP 0 rfl rfl 0 (by decide) (hts (.fieldLink RX3 11 "Versorhall$Pile" "rows" "[LVersorhall$Row;") (by decide +kernel)) (fun _ h9 => h9) rfl dX3_init_30 ?_
  refine lv_iload_n hx hb dX3_init_33 rfl (lv_at hl 0 rfl) ?_
  refine va_new (ci := 7) (fs := [.null]) (C := RX4) (T := TX4) (N := 1) hx hb hts (by decide +kernel) tyX4 tyX4_ok hown (hts (.classLink RX3 9 RX4) (by decide +kernel)) (hts (.instantiable RX4 1) (by decide +kernel)) (hts (.initialized RX4) (by decide +kernel)) hK hP hD hS hA rfl (fun j hj => by rcases (show j = 0 by omega) with rfl <;> rfl) (Nat.le_of_ble_eq_true rfl) (Nat.le_of_ble_eq_true rfl) dX3_init_34 (fun q23 H hP hD hS => ?_)
  have hP : va_P (dC, dI) vwCl [(h0, .inr (6, [.ref q1, .int 0])), (q1, .inl (cAq1, 10, .inr (.inr (.inr (.inr g22))))), (q23, .inr (7, [.null]))] H := hP
  have hD : va_D A [(h0, .inr (6, [.ref q1, .int 0])), (q1, .inl (cAq1, 10, .inr (.inr (.inr (.inr g22))))), (q23, .inr (7, [.null]))] := hD
  refine W.widen (k := 16) (n := 130) (by omega) (by omega) ?_
  refine lv_dup hx hb dX3_init_37 rfl ?_
  have hPc := hP.sub (ws' := [(q23, .inr (7, [.null]))]) [2] rfl
  have hDc := hD.sub (ws' := [(q23, .inr (7, [.null]))]) [2] (by decide) rfl
  have hKc := hK.sub (tys' := []) [] rfl
  have hFc := va_free (wc := [(q23, .inr (7, [.null]))]) hD hS hA [2] rfl
  refine va_callv (va_runIN (As := []) (rest := [.ref q23, .int 7, .ref q1]) ⟨hx, hb, hml, hown, hts⟩ (c_Row_init l dC dI dE q23 H.size) ⟨va_cnB 0 hts gX3_init_X4_init_n21 rfl rfl rfl (Tb_n4 hTb) (hts (.initialized RX4) (by decide +kernel)) ⟨by decide, by decide, by decide +kernel⟩ ⟨Nat.le_of_ble_eq_true rfl, Nat.le_of_ble_eq_true rfl⟩, rfl, (hts (.instanceMethod yX4_init) (by decide +kernel))⟩ ⟨fun a U g mk q => ⟨q.1, PB.blind q.2⟩, fun U hU hW => ⟨rfl, PB.call hPc hKc hDc hTb hZ hS hFc hU hW⟩⟩ rfl rfl hl.1 rfl (lv_room (Nat.le_of_ble_eq_true rfl)) dX3_init_38 ⟨Nat.le_of_ble_eq_true rfl, Nat.le_of_ble_eq_true rfl⟩) hS (fun q _ h => hFc q h) hFc (fun u t H locs ht hvm hw hB hz1 hk1 hS => ?_)
  obtain ⟨q24, hB⟩ := hB
  obtain ⟨hP, hD, hK⟩ := PE.join (wc := [(q23, .inr (7, [.null]))]) (wr := [(h0, .inr (6, [.ref q1, .int 0])), (q1, .inl (cAq1, 10, .inr (.inr (.inr (.inr g22)))))]) (w1 := [(q23, .inr (7, [.ref q24]))]) (tr := [(cAq1, .object RX4)]) (t1 := []) hP hD hK [2] [0, 1] [0] rfl rfl rfl (by decide) (by decide) hk1 hFc ht hvm hB
  have hP : va_P (dC, dI) vwCl [(h0, .inr (6, [.ref q1, .int 0])), (q1, .inl (cAq1, 10, .inr (.inr (.inr (.inr g22))))), (q23, .inr (7, [.ref q24]))] H := hP
  have hD : va_D A [(h0, .inr (6, [.ref q1, .int 0])), (q1, .inl (cAq1, 10, .inr (.inr (.inr (.inr g22))))), (q23, .inr (7, [.ref q24]))] := hD
  have hK : va_K (dC, dI) vwCl [(cAq1, .object RX4)] s := hK
  refine W.widen (k := 17) (n := 146) (by omega) (by omega) ?_
  refine va_astq hx hb hK hP hD hS 1 0 2 7 rfl rfl rfl rfl (by unfold vp_in; decide) dX3_init_41 (fun H locs hP hD hS => ?_)
  generalize va_up g22 (Int32.toNatClampNeg 7) (some q23) = g25 at hP hD
  have hP : va_P (dC, dI) vwCl [(h0, .inr (6, [.ref q1, .int 0])), (q1, .inl (cAq1, 10, .inr (.inr (.inr (.inr g25))))), (q23, .inr (7, [.ref q24]))] H := hP
  have hD : va_D A [(h0, .inr (6, [.ref q1, .int 0])), (q1, .inl (cAq1, 10, .inr (.inr (.inr (.inr g25))))), (q23, .inr (7, [.ref q24]))] := hD
  refine lv_iinc (v := 8) (lv' := [(1, .int 8), (0, .ref h0)]) hx hb dX3_init_42 hl (k := 0) rfl (by decide) (by decide) rfl (fun ls hl => ?_)
  refine lv_goto (tgt := 20) hx hb dX3_init_45 (by decide) ?_
  have hP := hP.sub (ws' := [(h0, .inr (6, [.ref q1, .int 0])), (q1, .inl (cAq1, 10, .inr (.inr (.inr (.inr g25)))))]) [0, 1] rfl
  have hD := hD.sub (ws' := [(h0, .inr (6, [.ref q1, .int 0])), (q1, .inl (cAq1, 10, .inr (.inr (.inr (.inr g25)))))]) [0, 1] (by decide) rfl
  refine lv_iload_n hx hb dX3_init_20 rfl (lv_at hl 0 rfl) ?_
  refine lv_aload_n hx hb dX3_init_21 rfl (lv_at hl 1 rfl) ?_
  refine va_get (D := (dC, dI)) (ci := 6) (v := .ref q1) (C := RX3) (T := TX3) (N := 2) hx hb hts (by decide +kernel) hown hK hP 0 rfl rfl 0 (by decide) (hts (.fieldLink RX3 11 "Versorhall$Pile" "rows" "[LVersorhall$Row;") (by decide +kernel)) (fun _ h9 => h9) rfl dX3_init_22 ?_
  refine va_alen (v := 10) hx hb hK hP 1 0 rfl rfl (show Int32.ofNat 10 = 10 by decide) dX3_init_25 ?_
  refine lv_icmp_ge (tgt := 48) hx hb dX3_init_26 (by decide) (fun c9 => absurd c9 (by decide)) (fun _ => ?_)
  refine lv_aload_n hx hb dX3_init_29 rfl (lv_at hl 1 rfl) ?_
  refine va_get (D := (dC, dI)) (ci := 6) (v := .ref q1) (C := RX3) (T := TX3) (N := 2) hx hb hts (by decide +kernel) hown hK hP 0 rfl rfl 0 (by decide) (hts (.fieldLink RX3 11 "Versorhall$Pile" "rows" "[LVersorhall$Row;") (by decide +kernel)) (fun _ h9 => h9) rfl dX3_init_30 ?_
  refine lv_iload_n hx hb dX3_init_33 rfl (lv_at hl 0 rfl) ?_
  refine va_new (ci := 7) (fs := [.null]) (C := RX4) (T := TX4) (N := 1) hx hb hts (by decide +kernel) tyX4 tyX4_ok hown (hts (.classLink RX3 9 RX4) (by decide +kernel)) (hts (.instantiable RX4 1) (by decide +kernel)) (hts (.initialized RX4) (by decide +kernel)) hK hP hD hS hA rfl (fun j hj => by rcases (show j = 0 by omega) with rfl <;> rfl) (Nat.le_of_ble_eq_true rfl) (Nat.le_of_ble_eq_true rfl) dX3_init_34 (fun q26 H hP hD hS => ?_)
  have hP : va_P (dC, dI) vwCl [(h0, .inr (6, [.ref q1, .int 0])), (q1, .inl (cAq1, 10, .inr (.inr (.inr (.inr g25))))), (q26, .inr (7, [.null]))] H := hP
  have hD : va_D A [(h0, .inr (6, [.ref q1, .int 0])), (q1, .inl (cAq1, 10, .inr (.inr (.inr (.inr g25))))), (q26, .inr (7, [.null]))] := hD
  refine W.widen (k := 18) (n := 147) (by omega) (by omega) ?_
  refine lv_dup hx hb dX3_init_37 rfl ?_
  have hPc := hP.sub (ws' := [(q26, .inr (7, [.null]))]) [2] rfl
  have hDc := hD.sub (ws' := [(q26, .inr (7, [.null]))]) [2] (by decide) rfl
  have hKc := hK.sub (tys' := []) [] rfl
  have hFc := va_free (wc := [(q26, .inr (7, [.null]))]) hD hS hA [2] rfl
  refine va_callv (va_runIN (As := []) (rest := [.ref q26, .int 8, .ref q1]) ⟨hx, hb, hml, hown, hts⟩ (c_Row_init l dC dI dE q26 H.size) ⟨va_cnB 0 hts gX3_init_X4_init_n21 rfl rfl rfl (Tb_n4 hTb) (hts (.initialized RX4) (by decide +kernel)) ⟨by decide, by decide, by decide +kernel⟩ ⟨Nat.le_of_ble_eq_true rfl, Nat.le_of_ble_eq_true rfl⟩, rfl, (hts (.instanceMethod yX4_init) (by decide +kernel))⟩ ⟨fun a U g mk q => ⟨q.1, PB.blind q.2⟩, fun U hU hW => ⟨rfl, PB.call hPc hKc hDc hTb hZ hS hFc hU hW⟩⟩ rfl rfl hl.1 rfl (lv_room (Nat.le_of_ble_eq_true rfl)) dX3_init_38 ⟨Nat.le_of_ble_eq_true rfl, Nat.le_of_ble_eq_true rfl⟩) hS (fun q _ h => hFc q h) hFc (fun u t H locs ht hvm hw hB hz1 hk1 hS => ?_)
  obtain ⟨q27, hB⟩ := hB
  obtain ⟨hP, hD, hK⟩ := PE.join (wc := [(q26, .inr (7, [.null]))]) (wr := [(h0, .inr (6, [.ref q1, .int 0])), (q1, .inl (cAq1, 10, .inr (.inr (.inr (.inr g25)))))]) (w1 := [(q26, .inr (7, [.ref q27]))]) (tr := [(cAq1, .object RX4)]) (t1 := []) hP hD hK [2] [0, 1] [0] rfl rfl rfl (by decide) (by decide) hk1 hFc ht hvm hB
  have hP : va_P (dC, dI) vwCl [(h0, .inr (6, [.ref q1, .int 0])), (q1, .inl (cAq1, 10, .inr (.inr (.inr (.inr g25))))), (q26, .inr (7, [.ref q27]))] H := hP
  have hD : va_D A [(h0, .inr (6, [.ref q1, .int 0])), (q1, .inl (cAq1, 10, .inr (.inr (.inr (.inr g25))))), (q26, .inr (7, [.ref q27]))] := hD
  have hK : va_K (dC, dI) vwCl [(cAq1, .object RX4)] s := hK
  refine W.widen (k := 19) (n := 163) (by omega) (by omega) ?_
  refine va_astq hx hb hK hP hD hS 1 0 2 7 rfl rfl rfl rfl (by unfold vp_in; decide) dX3_init_41 (fun H locs hP hD hS => ?_)
  generalize va_up g25 (Int32.toNatClampNeg 8) (some q26) = g28 at hP hD
  have hP : va_P (dC, dI) vwCl [(h0, .inr (6, [.ref q1, .int 0])), (q1, .inl (cAq1, 10, .inr (.inr (.inr (.inr g28))))), (q26, .inr (7, [.ref q27]))] H := hP
  have hD : va_D A [(h0, .inr (6, [.ref q1, .int 0])), (q1, .inl (cAq1, 10, .inr (.inr (.inr (.inr g28))))), (q26, .inr (7, [.ref q27]))] := hD
  refine lv_iinc (v := 9) (lv' := [(1, .int 9), (0, .ref h0)]) hx hb dX3_init_42 hl (k := 0) rfl (by decide) (by decide) rfl (fun ls hl => ?_)
  refine lv_goto (tgt := 20) hx hb dX3_init_45 (by decide) ?_
  have hP := hP.sub (ws' := [(h0, .inr (6, [.ref q1, .int 0])), (q1, .inl (cAq1, 10, .inr (.inr (.inr (.inr g28)))))]) [0, 1] rfl
  have hD := hD.sub (ws' := [(h0, .inr (6, [.ref q1, .int 0])), (q1, .inl (cAq1, 10, .inr (.inr (.inr (.inr g28)))))]) [0, 1] (by decide) rfl
  refine lv_iload_n hx hb dX3_init_20 rfl (lv_at hl 0 rfl) ?_
  refine lv_aload_n hx hb dX3_init_21 rfl (lv_at hl 1 rfl) ?_
  refine va_get (D := (dC, dI)) (ci := 6) (v := .ref q1) (C := RX3) (T := TX3) (N := 2) hx hb hts (by decide +kernel) hown hK hP 0 rfl rfl 0 (by decide) (hts (.fieldLink RX3 11 "Versorhall$Pile" "rows" "[LVersorhall$Row;") (by decide +kernel)) (fun _ h9 => h9) rfl dX3_init_22 ?_
  refine va_alen (v := 10) hx hb hK hP 1 0 rfl rfl (show Int32.ofNat 10 = 10 by decide) dX3_init_25 ?_
  refine lv_icmp_ge (tgt := 48) hx hb dX3_init_26 (by decide) (fun c9 => absurd c9 (by decide)) (fun _ => ?_)
  refine lv_aload_n hx hb dX3_init_29 rfl (lv_at hl 1 rfl) ?_
  refine va_get (D := (dC, dI)) (ci := 6) (v := .ref q1) (C := RX3) (T := TX3) (N := 2) hx hb hts (by decide +kernel) hown hK hP 0 rfl rfl 0 (by decide) (hts (.fieldLink RX3 11 "Versorhall$Pile" "rows" "[LVersorhall$Row;") (by decide +kernel)) (fun _ h9 => h9) rfl dX3_init_30 ?_
  refine lv_iload_n hx hb dX3_init_33 rfl (lv_at hl 0 rfl) ?_
  refine va_new (ci := 7) (fs := [.null]) (C := RX4) (T := TX4) (N := 1) hx hb hts (by decide +kernel) tyX4 tyX4_ok hown (hts (.classLink RX3 9 RX4) (by decide +kernel)) (hts (.instantiable RX4 1) (by decide +kernel)) (hts (.initialized RX4) (by decide +kernel)) hK hP hD hS hA rfl (fun j hj => by rcases (show j = 0 by omega) with rfl <;> rfl) (Nat.le_of_ble_eq_true rfl) (Nat.le_of_ble_eq_true rfl) dX3_init_34 (fun q29 H hP hD hS => ?_)
  have hP : va_P (dC, dI) vwCl [(h0, .inr (6, [.ref q1, .int 0])), (q1, .inl (cAq1, 10, .inr (.inr (.inr (.inr g28))))), (q29, .inr (7, [.null]))] H := hP
  have hD : va_D A [(h0, .inr (6, [.ref q1, .int 0])), (q1, .inl (cAq1, 10, .inr (.inr (.inr (.inr g28))))), (q29, .inr (7, [.null]))] := hD
  refine W.widen (k := 20) (n := 164) (by omega) (by omega) ?_
  refine lv_dup hx hb dX3_init_37 rfl ?_
  have hPc := hP.sub (ws' := [(q29, .inr (7, [.null]))]) [2] rfl
  have hDc := hD.sub (ws' := [(q29, .inr (7, [.null]))]) [2] (by decide) rfl
  have hKc := hK.sub (tys' := []) [] rfl
  have hFc := va_free (wc := [(q29, .inr (7, [.null]))]) hD hS hA [2] rfl
  refine va_callv (va_runIN (As := []) (rest := [.ref q29, .int 9, .ref q1]) ⟨hx, hb, hml, hown, hts⟩ (c_Row_init l dC dI dE q29 H.size) ⟨va_cnB 0 hts gX3_init_X4_init_n21 rfl rfl rfl (Tb_n4 hTb) (hts (.initialized RX4) (by decide +kernel)) ⟨by decide, by decide, by decide +kernel⟩ ⟨Nat.le_of_ble_eq_true rfl, Nat.le_of_ble_eq_true rfl⟩, rfl, (hts (.instanceMethod yX4_init) (by decide +kernel))⟩ ⟨fun a U g mk q => ⟨q.1, PB.blind q.2⟩, fun U hU hW => ⟨rfl, PB.call hPc hKc hDc hTb hZ hS hFc hU hW⟩⟩ rfl rfl hl.1 rfl (lv_room (Nat.le_of_ble_eq_true rfl)) dX3_init_38 ⟨Nat.le_of_ble_eq_true rfl, Nat.le_of_ble_eq_true rfl⟩) hS (fun q _ h => hFc q h) hFc (fun u t H locs ht hvm hw hB hz1 hk1 hS => ?_)
  obtain ⟨q30, hB⟩ := hB
  obtain ⟨hP, hD, hK⟩ := PE.join (wc := [(q29, .inr (7, [.null]))]) (wr := [(h0, .inr (6, [.ref q1, .int 0])), (q1, .inl (cAq1, 10, .inr (.inr (.inr (.inr g28)))))]) (w1 := [(q29, .inr (7, [.ref q30]))]) (tr := [(cAq1, .object RX4)]) (t1 := []) hP hD hK [2] [0, 1] [0] rfl rfl rfl (by decide) (by decide) hk1 hFc ht hvm hB
  have hP : va_P (dC, dI) vwCl [(h0, .inr (6, [.ref q1, .int 0])), (q1, .inl (cAq1, 10, .inr (.inr (.inr (.inr g28))))), (q29, .inr (7, [.ref q30]))] H := hP
  have hD : va_D A [(h0, .inr (6, [.ref q1, .int 0])), (q1, .inl (cAq1, 10, .inr (.inr (.inr (.inr g28))))), (q29, .inr (7, [.ref q30]))] := hD
  have hK : va_K (dC, dI) vwCl [(cAq1, .object RX4)] s := hK
  refine W.widen (k := 21) (n := 180) (by omega) (by omega) ?_
  refine va_astq hx hb hK hP hD hS 1 0 2 7 rfl rfl rfl rfl (by unfold vp_in; decide) dX3_init_41 (fun H locs hP hD hS => ?_)
  generalize va_up g28 (Int32.toNatClampNeg 9) (some q29) = g31 at hP hD
  have hP : va_P (dC, dI) vwCl [(h0, .inr (6, [.ref q1, .int 0])), (q1, .inl (cAq1, 10, .inr (.inr (.inr (.inr g31))))), (q29, .inr (7, [.ref q30]))] H := hP
  have hD : va_D A [(h0, .inr (6, [.ref q1, .int 0])), (q1, .inl (cAq1, 10, .inr (.inr (.inr (.inr g31))))), (q29, .inr (7, [.ref q30]))] := hD
  refine lv_iinc (v := 10) (lv' := [(1, .int 10), (0, .ref h0)]) hx hb dX3_init_42 hl (k := 0) rfl (by decide) (by decide) rfl (fun ls hl => ?_)
  refine lv_goto (tgt := 20) hx hb dX3_init_45 (by decide) ?_
  have hP := hP.sub (ws' := [(h0, .inr (6, [.ref q1, .int 0])), (q1, .inl (cAq1, 10, .inr (.inr (.inr (.inr g31)))))]) [0, 1] rfl
  have hD := hD.sub (ws' := [(h0, .inr (6, [.ref q1, .int 0])), (q1, .inl (cAq1, 10, .inr (.inr (.inr (.inr g31)))))]) [0, 1] (by decide) rfl
  refine lv_iload_n hx hb dX3_init_20 rfl (lv_at hl 0 rfl) ?_
  refine lv_aload_n hx hb dX3_init_21 rfl (lv_at hl 1 rfl) ?_
  refine va_get (D := (dC, dI)) (ci := 6) (v := .ref q1) (C := RX3) (T := TX3) (N := 2) hx hb hts (by decide +kernel) hown hK hP 0 rfl rfl 0 (by decide) (hts (.fieldLink RX3 11 "Versorhall$Pile" "rows" "[LVersorhall$Row;") (by decide +kernel)) (fun _ h9 => h9) rfl dX3_init_22 ?_
  refine va_alen (v := 10) hx hb hK hP 1 0 rfl rfl (show Int32.ofNat 10 = 10 by decide) dX3_init_25 ?_
  refine lv_icmp_ge (tgt := 48) hx hb dX3_init_26 (by decide) (fun _ => ?_) (fun c9 => absurd (by decide) c9)
  refine W.widen (k := 21) (n := 180) (Nat.le_of_ble_eq_true rfl) (Nat.le_of_ble_eq_true rfl) ?_
  exact W.vret hx hb hr (fun t ht hW => ⟨⟨(), rfl, trivial, trivial⟩, hS.F ht⟩) hS.2.2 dX3_init_48

set_option maxHeartbeats 4000000 in
set_option maxRecDepth 100000 in
/-- Versorhall(): a house without ALGEBRAS and ELEMENTS -/
theorem c_House_init (l : Launch) (dC : Nat → ClassId) (dI : Nat → Nat → Nat) (dE : Nat) (h0 : Nat) (sz : Nat) : Met l yX6_init wsX6_init ({ frames := 3, cells := 32, slots := 494, locals := 81 }) (va_Pc [.ref h0] (PB dC dI dE [] [(h0, .inr (9, [.int 0, .null, .int 0, .null, .int 0, .int 0, .null, .null, .null]))] sz)) (va_Qv (fun (_ : Unit) => True) (fun (_ : Unit) (t : State) => ∃ e0 : Nat, ∃ e1 : Nat, ∃ e2 : Nat, ∃ e3 : Nat, ∃ e4 : Nat, ∃ e5 : ClassId, ∃ e6 : ClassId, PE dC dI [(e5, .object RX0), (e6, .object RX1)] [(h0, .inr (9, [.int 7, .ref e0, .int 0, .ref e1, .int 0, .int 0, .ref e2, .ref e3, .ref e4])), (e0, .inl (e5, 4, .inr (.inr (.inr (.inr (fun _ => none)))))), (e1, .inl (e6, 10, .inr (.inr (.inr (.inr (fun _ => none))))))] (va_A [(h0, .inr (9, [.int 0, .null, .int 0, .null, .int 0, .int 0, .null, .null, .null]))] sz) t) (va_A [(h0, .inr (9, [.int 0, .null, .int 0, .null, .int 0, .int 0, .null, .null, .null]))] sz)) 32 494 (va_A [(h0, .inr (9, [.int 0, .null, .int 0, .null, .int 0, .int 0, .null, .null, .null]))] sz) := by
  refine Met.ofW (cc := cX6_init) (maxL := 1) (ret := none) (by decide) rfl ?_
  intro p e s m args below meth c s₁ B hml hv
  obtain ⟨rfl, hsz, hP, hK, hD0, hTb, hZ⟩ := hv
  have hx := B.exec
  have hb := B.bytes
  have hr := B.returns
  have hts := atoms_spec (ws := wsX6_init) B.pre
  have hown : s.vm.findClass RX6 = some m.cls := findClass_of_methodNamed B.named
  have hlocks := B.notSynchronized
  have hin : meth.name = "<init>" := (name_of_methodNamed B.named B.method).1
  subst hsz
  have hD := hD0.self (sz := s.heap.size)
  generalize hAe : va_A [(h0, .inr (9, [.int 0, .null, .int 0, .null, .int 0, .int 0, .null, .null, .null]))] s.heap.size = A at hD hZ ⊢
  have hA : ∀ q : Nat, s.heap.size ≤ q → A q := fun q h => by rw [← hAe]; exact Or.inr h
  have hS : va_S A s.heap s.heap [] := va_S.rf
  have hP : va_P (dC, dI) vwCl [(h0, .inr (9, [.int 0, .null, .int 0, .null, .int 0, .int 0, .null, .null, .null]))] s.heap := hP
  have hl := lv_entry ([.ref h0]) (n := 1) (Nat.le_of_ble_eq_true rfl)
  rw [lg_entry_eq]
  generalize (lg_sl ([.ref h0]) ++ List.replicate (1 - (lg_sl ([.ref h0])).length) Slot.unset).toArray = ls at hl ⊢
  have hl : lv_has ls 1 [(0, .ref h0)] := hl
  obtain ⟨H, eH⟩ : ∃ z, z = s.heap := ⟨_, rfl⟩
  rw [← eH] at hP ⊢
  have hS : va_S A s.heap H [] := by rw [eH]; exact va_S.rf
  refine lv_aload_n hx hb dX6_init_0 rfl (lv_at hl 0 rfl) ?_
  refine W.objInit hx hb hown (hts (.methodLink RX6 1 objectInit) (by decide +kernel)) (hts (.instanceMethod objectInit) (by decide +kernel)) (hts (.code objectInit ⟨#[0xb1]⟩ 1 none) (by decide +kernel)) rfl (by rw [hml]; exact hl.1) rfl dX6_init_1 (Nat.le_of_ble_eq_true rfl) (Nat.le_of_ble_eq_true rfl) ?_
  refine W.eq (g2 := F0 m 4 ls []) rfl ?_
  refine lv_aload_n hx hb dX6_init_4 rfl (lv_at hl 0 rfl) ?_
  refine lv_bipush (v := 7) hx hb dX6_init_5 (by decide) ?_
  refine va_put (D := (dC, dI)) (ci := 9) (v := .int 7) (ty := .int) (C := RX6) (T := TX6) (N := 9) hx hb hts (by decide +kernel) tyX6 tyX6_ok nmX6 hown hK hP hD hS 0 rfl rfl 0 (by decide) (hts (.fieldLink RX6 9 "Versorhall" "prime" "I") (by decide +kernel)) (fun _ h9 => h9) rfl (by decide +kernel) rfl rfl (Nat.le_of_ble_eq_true rfl) dX6_init_7 (fun H locs hP hD hS => ?_)
  have hP : va_P (dC, dI) vwCl [(h0, .inr (9, [.int 7, .null, .int 0, .null, .int 0, .int 0, .null, .null, .null]))] H := hP
  have hD : va_D A [(h0, .inr (9, [.int 7, .null, .int 0, .null, .int 0, .int 0, .null, .null, .null]))] := hD
  refine lv_aload_n hx hb dX6_init_10 rfl (lv_at hl 0 rfl) ?_
  refine lv_iconst (v := 4) hx hb dX6_init_11 (by decide) ?_
  refine va_newq (C := RX0) (n := 4) (N' := 4) hx hb hown (hts (.classLink RX6 13 RX0) (by decide +kernel)) (Tb_a1 hTb) hK hP hD hS hA (by decide) (by decide) (Nat.le_of_ble_eq_true rfl) (Nat.le_of_ble_eq_true rfl) (Nat.le_of_ble_eq_true rfl) dX6_init_12 (fun q1 cAq1 H hK hP hD hS => ?_)
  have hP : va_P (dC, dI) vwCl [(h0, .inr (9, [.int 7, .null, .int 0, .null, .int 0, .int 0, .null, .null, .null])), (q1, .inl (cAq1, 4, .inr (.inr (.inr (.inr (fun _ => none))))))] H := hP
  have hD : va_D A [(h0, .inr (9, [.int 7, .null, .int 0, .null, .int 0, .int 0, .null, .null, .null])), (q1, .inl (cAq1, 4, .inr (.inr (.inr (.inr (fun _ => none))))))] := hD
  have hK : va_K (dC, dI) vwCl [(cAq1, .object RX0)] s := hK
  refine W.widen (k := 1) (n := 4) (by omega) (by omega) ?_
  refine va_putF (D := (dC, dI)) (ci := 9) (v := .ref q1) (ty := .array (.object "Versorhall$Algebra")) (C := RX6) (T := TX6) (N := 9) hx hb hts (by decide +kernel) tyX6 tyX6_ok nmX6 hown hK hP hD hS 0 rfl rfl 1 (by decide) (hts (.fieldLink RX6 15 "Versorhall" "algebras" "[LVersorhall$Algebra;") (by decide +kernel)) (fun _ h9 => h9) rfl hin rfl (by decide +kernel) rfl rfl (Nat.le_of_ble_eq_true rfl) dX6_init_15 (fun H locs hP hD hS => ?_)
  have hP : va_P (dC, dI) vwCl [(h0, .inr (9, [.int 7, .ref q1, .int 0, .null, .int 0, .int 0, .null, .null, .null])), (q1, .inl (cAq1, 4, .inr (.inr (.inr (.inr (fun _ => none))))))] H := hP
  have hD : va_D A [(h0, .inr (9, [.int 7, .ref q1, .int 0, .null, .int 0, .int 0, .null, .null, .null])), (q1, .inl (cAq1, 4, .inr (.inr (.inr (.inr (fun _ => none))))))] := hD
  refine lv_aload_n hx hb dX6_init_18 rfl (lv_at hl 0 rfl) ?_
  refine lv_iconst (v := 0) hx hb dX6_init_19 (by decide) ?_
  refine va_put (D := (dC, dI)) (ci := 9) (v := .int 0) (ty := .int) (C := RX6) (T := TX6) (N := 9) hx hb hts (by decide +kernel) tyX6 tyX6_ok nmX6 hown hK hP hD hS 0 rfl rfl 2 (by decide) (hts (.fieldLink RX6 19 "Versorhall" "algebraCount" "I") (by decide +kernel)) (fun _ h9 => h9) rfl (by decide +kernel) rfl rfl (Nat.le_of_ble_eq_true rfl) dX6_init_20 (fun H locs hP hD hS => ?_)
  have hP : va_P (dC, dI) vwCl [(h0, .inr (9, [.int 7, .ref q1, .int 0, .null, .int 0, .int 0, .null, .null, .null])), (q1, .inl (cAq1, 4, .inr (.inr (.inr (.inr (fun _ => none))))))] H := hP
  have hD : va_D A [(h0, .inr (9, [.int 7, .ref q1, .int 0, .null, .int 0, .int 0, .null, .null, .null])), (q1, .inl (cAq1, 4, .inr (.inr (.inr (.inr (fun _ => none))))))] := hD
  refine lv_aload_n hx hb dX6_init_23 rfl (lv_at hl 0 rfl) ?_
  refine lv_bipush (v := 10) hx hb dX6_init_24 (by decide) ?_
  refine va_newq (C := RX1) (n := 10) (N' := 10) hx hb hown (hts (.classLink RX6 22 RX1) (by decide +kernel)) (Tb_a2 hTb) hK hP hD hS hA (by decide) (by decide) (Nat.le_of_ble_eq_true rfl) (Nat.le_of_ble_eq_true rfl) (Nat.le_of_ble_eq_true rfl) dX6_init_26 (fun q2 cAq2 H hK hP hD hS => ?_)
  have hP : va_P (dC, dI) vwCl [(h0, .inr (9, [.int 7, .ref q1, .int 0, .null, .int 0, .int 0, .null, .null, .null])), (q1, .inl (cAq1, 4, .inr (.inr (.inr (.inr (fun _ => none)))))), (q2, .inl (cAq2, 10, .inr (.inr (.inr (.inr (fun _ => none))))))] H := hP
  have hD : va_D A [(h0, .inr (9, [.int 7, .ref q1, .int 0, .null, .int 0, .int 0, .null, .null, .null])), (q1, .inl (cAq1, 4, .inr (.inr (.inr (.inr (fun _ => none)))))), (q2, .inl (cAq2, 10, .inr (.inr (.inr (.inr (fun _ => none))))))] := hD
  have hK : va_K (dC, dI) vwCl [(cAq1, .object RX0), (cAq2, .object RX1)] s := hK
  refine W.widen (k := 2) (n := 14) (by omega) (by omega) ?_
  refine va_putF (D := (dC, dI)) (ci := 9) (v := .ref q2) (ty := .array (.object "Versorhall$Element")) (C := RX6) (T := TX6) (N := 9) hx hb hts (by decide +kernel) tyX6 tyX6_ok nmX6 hown hK hP hD hS 0 rfl rfl 3 (by decide) (hts (.fieldLink RX6 24 "Versorhall" "elements" "[LVersorhall$Element;") (by decide +kernel)) (fun _ h9 => h9) rfl hin rfl (by decide +kernel) rfl rfl (Nat.le_of_ble_eq_true rfl) dX6_init_29 (fun H locs hP hD hS => ?_)
  have hP : va_P (dC, dI) vwCl [(h0, .inr (9, [.int 7, .ref q1, .int 0, .ref q2, .int 0, .int 0, .null, .null, .null])), (q1, .inl (cAq1, 4, .inr (.inr (.inr (.inr (fun _ => none)))))), (q2, .inl (cAq2, 10, .inr (.inr (.inr (.inr (fun _ => none))))))] H := hP
  have hD : va_D A [(h0, .inr (9, [.int 7, .ref q1, .int 0, .ref q2, .int 0, .int 0, .null, .null, .null])), (q1, .inl (cAq1, 4, .inr (.inr (.inr (.inr (fun _ => none)))))), (q2, .inl (cAq2, 10, .inr (.inr (.inr (.inr (fun _ => none))))))] := hD
  refine lv_aload_n hx hb dX6_init_32 rfl (lv_at hl 0 rfl) ?_
  refine lv_iconst (v := 0) hx hb dX6_init_33 (by decide) ?_
  refine va_put (D := (dC, dI)) (ci := 9) (v := .int 0) (ty := .int) (C := RX6) (T := TX6) (N := 9) hx hb hts (by decide +kernel) tyX6 tyX6_ok nmX6 hown hK hP hD hS 0 rfl rfl 4 (by decide) (hts (.fieldLink RX6 28 "Versorhall" "elementCount" "I") (by decide +kernel)) (fun _ h9 => h9) rfl (by decide +kernel) rfl rfl (Nat.le_of_ble_eq_true rfl) dX6_init_34 (fun H locs hP hD hS => ?_)
  have hP : va_P (dC, dI) vwCl [(h0, .inr (9, [.int 7, .ref q1, .int 0, .ref q2, .int 0, .int 0, .null, .null, .null])), (q1, .inl (cAq1, 4, .inr (.inr (.inr (.inr (fun _ => none)))))), (q2, .inl (cAq2, 10, .inr (.inr (.inr (.inr (fun _ => none))))))] H := hP
  have hD : va_D A [(h0, .inr (9, [.int 7, .ref q1, .int 0, .ref q2, .int 0, .int 0, .null, .null, .null])), (q1, .inl (cAq1, 4, .inr (.inr (.inr (.inr (fun _ => none)))))), (q2, .inl (cAq2, 10, .inr (.inr (.inr (.inr (fun _ => none))))))] := hD
  refine lv_aload_n hx hb dX6_init_37 rfl (lv_at hl 0 rfl) ?_
  refine lv_iconst (v := 0) hx hb dX6_init_38 (by decide) ?_
  refine va_put (D := (dC, dI)) (ci := 9) (v := .int 0) (ty := .int) (C := RX6) (T := TX6) (N := 9) hx hb hts (by decide +kernel) tyX6 tyX6_ok nmX6 hown hK hP hD hS 0 rfl rfl 5 (by decide) (hts (.fieldLink RX6 31 "Versorhall" "knocks" "I") (by decide +kernel)) (fun _ h9 => h9) rfl (by decide +kernel) rfl rfl (Nat.le_of_ble_eq_true rfl) dX6_init_39 (fun H locs hP hD hS => ?_)
  have hP : va_P (dC, dI) vwCl [(h0, .inr (9, [.int 7, .ref q1, .int 0, .ref q2, .int 0, .int 0, .null, .null, .null])), (q1, .inl (cAq1, 4, .inr (.inr (.inr (.inr (fun _ => none)))))), (q2, .inl (cAq2, 10, .inr (.inr (.inr (.inr (fun _ => none))))))] H := hP
  have hD : va_D A [(h0, .inr (9, [.int 7, .ref q1, .int 0, .ref q2, .int 0, .int 0, .null, .null, .null])), (q1, .inl (cAq1, 4, .inr (.inr (.inr (.inr (fun _ => none)))))), (q2, .inl (cAq2, 10, .inr (.inr (.inr (.inr (fun _ => none))))))] := hD
  refine lv_aload_n hx hb dX6_init_42 rfl (lv_at hl 0 rfl) ?_
  refine va_new (ci := 8) (fs := [.null, .null, .null]) (C := RX5) (T := TX5) (N := 3) hx hb hts (by decide +kernel) tyX5 tyX5_ok hown (hts (.classLink RX6 34 RX5) (by decide +kernel)) (hts (.instantiable RX5 3) (by decide +kernel)) (hts (.initialized RX5) (by decide +kernel)) hK hP hD hS hA rfl (fun j hj => by rcases (show j = 0 ∨ j = 1 ∨ j = 2 by omega) with rfl | rfl | rfl <;> rfl) (Nat.le_of_ble_eq_true rfl) (Nat.le_of_ble_eq_true rfl) dX6_init_43 (fun q3 H hP hD hS => ?_)
  have hP : va_P (dC, dI) vwCl [(h0, .inr (9, [.int 7, .ref q1, .int 0, .ref q2, .int 0, .int 0, .null, .null, .null])), (q1, .inl (cAq1, 4, .inr (.inr (.inr (.inr (fun _ => none)))))), (q2, .inl (cAq2, 10, .inr (.inr (.inr (.inr (fun _ => none)))))), (q3, .inr (8, [.null, .null, .null]))] H := hP
  have hD : va_D A [(h0, .inr (9, [.int 7, .ref q1, .int 0, .ref q2, .int 0, .int 0, .null, .null, .null])), (q1, .inl (cAq1, 4, .inr (.inr (.inr (.inr (fun _ => none)))))), (q2, .inl (cAq2, 10, .inr (.inr (.inr (.inr (fun _ => none)))))), (q3, .inr (8, [.null, .null, .null]))] := hD
  refine W.widen (k := 3) (n := 17) (by omega) (by omega) ?_
  refine lv_dup hx hb dX6_init_46 rfl ?_
  have hPc := hP.sub (ws' := [(q3, .inr (8, [.null, .null, .null]))]) [3] rfl
  have hDc := hD.sub (ws' := [(q3, .inr (8, [.null, .null, .null]))]) [3] (by decide) rfl
  have hKc := hK.sub (tys' := []) [] rfl
  have hFc := va_free (wc := [(q3, .inr (8, [.null, .null, .null]))]) hD hS hA [3] rfl
  refine va_callv (va_runIN (As := []) (rest := [.ref q3, .ref h0]) ⟨hx, hb, hml, hown, hts⟩ (c_Workshop_init l dC dI dE q3 H.size) ⟨va_cnB 0 hts gX6_init_X5_init_n36 rfl rfl rfl (Tb_n1 hTb) (hts (.initialized RX5) (by decide +kernel)) ⟨by decide, by decide, by decide +kernel⟩ ⟨Nat.le_of_ble_eq_true rfl, Nat.le_of_ble_eq_true rfl⟩, rfl, (hts (.instanceMethod yX5_init) (by decide +kernel))⟩ ⟨fun a U g mk q => ⟨q.1, PB.blind q.2⟩, fun U hU hW => ⟨rfl, PB.call hPc hKc hDc hTb hZ hS hFc hU hW⟩⟩ rfl rfl hl.1 rfl (lv_room (Nat.le_of_ble_eq_true rfl)) dX6_init_47 ⟨Nat.le_of_ble_eq_true rfl, Nat.le_of_ble_eq_true rfl⟩) hS (fun q _ h => hFc q h) hFc (fun u t H locs ht hvm hw hB hz1 hk1 hS => ?_)
  obtain ⟨hP, hD, hK⟩ := PE.join0 (wc := [(q3, .inr (8, [.null, .null, .null]))]) (wr := [(h0, .inr (9, [.int 7, .ref q1, .int 0, .ref q2, .int 0, .int 0, .null, .null, .null])), (q1, .inl (cAq1, 4, .inr (.inr (.inr (.inr (fun _ => none)))))), (q2, .inl (cAq2, 10, .inr (.inr (.inr (.inr (fun _ => none))))))]) (tr := [(cAq1, .object RX0), (cAq2, .object RX1)]) hP hD hK [3] [0, 1, 2] [0, 1] rfl rfl rfl (by decide) (by decide) hk1 hFc
  have hP : va_P (dC, dI) vwCl [(h0, .inr (9, [.int 7, .ref q1, .int 0, .ref q2, .int 0, .int 0, .null, .null, .null])), (q1, .inl (cAq1, 4, .inr (.inr (.inr (.inr (fun _ => none)))))), (q2, .inl (cAq2, 10, .inr (.inr (.inr (.inr (fun _ => none))))))] H := hP
  have hD : va_D A [(h0, .inr (9, [.int 7, .ref q1, .int 0, .ref q2, .int 0, .int 0, .null, .null, .null])), (q1, .inl (cAq1, 4, .inr (.inr (.inr (.inr (fun _ => none)))))), (q2, .inl (cAq2, 10, .inr (.inr (.inr (.inr (fun _ => none))))))] := hD
  have hK : va_K (dC, dI) vwCl [(cAq1, .object RX0), (cAq2, .object RX1)] s := hK
  refine W.widen (k := 9) (n := 308) (by omega) (by omega) ?_
  refine va_putF (D := (dC, dI)) (ci := 9) (v := .ref q3) (ty := .object "Versorhall$Workshop") (C := RX6) (T := TX6) (N := 9) hx hb hts (by decide +kernel) tyX6 tyX6_ok nmX6 hown hK hP hD hS 0 rfl rfl 6 (by decide) (hts (.fieldLink RX6 37 "Versorhall" "workshop" "LVersorhall$Workshop;") (by decide +kernel)) (fun _ h9 => h9) rfl hin rfl (by decide +kernel) rfl rfl (Nat.le_of_ble_eq_true rfl) dX6_init_50 (fun H locs hP hD hS => ?_)
  have hP : va_P (dC, dI) vwCl [(h0, .inr (9, [.int 7, .ref q1, .int 0, .ref q2, .int 0, .int 0, .ref q3, .null, .null])), (q1, .inl (cAq1, 4, .inr (.inr (.inr (.inr (fun _ => none)))))), (q2, .inl (cAq2, 10, .inr (.inr (.inr (.inr (fun _ => none))))))] H := hP
  have hD : va_D A [(h0, .inr (9, [.int 7, .ref q1, .int 0, .ref q2, .int 0, .int 0, .ref q3, .null, .null])), (q1, .inl (cAq1, 4, .inr (.inr (.inr (.inr (fun _ => none)))))), (q2, .inl (cAq2, 10, .inr (.inr (.inr (.inr (fun _ => none))))))] := hD
  refine lv_aload_n hx hb dX6_init_53 rfl (lv_at hl 0 rfl) ?_
  refine va_new (ci := 6) (fs := [.null, .int 0]) (C := RX3) (T := TX3) (N := 2) hx hb hts (by decide +kernel) tyX3 tyX3_ok hown (hts (.classLink RX6 41 RX3) (by decide +kernel)) (hts (.instantiable RX3 2) (by decide +kernel)) (hts (.initialized RX3) (by decide +kernel)) hK hP hD hS hA rfl (fun j hj => by rcases (show j = 0 ∨ j = 1 by omega) with rfl | rfl <;> rfl) (Nat.le_of_ble_eq_true rfl) (Nat.le_of_ble_eq_true rfl) dX6_init_54 (fun q4 H hP hD hS => ?_)
  have hP : va_P (dC, dI) vwCl [(h0, .inr (9, [.int 7, .ref q1, .int 0, .ref q2, .int 0, .int 0, .ref q3, .null, .null])), (q1, .inl (cAq1, 4, .inr (.inr (.inr (.inr (fun _ => none)))))), (q2, .inl (cAq2, 10, .inr (.inr (.inr (.inr (fun _ => none)))))), (q4, .inr (6, [.null, .int 0]))] H := hP
  have hD : va_D A [(h0, .inr (9, [.int 7, .ref q1, .int 0, .ref q2, .int 0, .int 0, .ref q3, .null, .null])), (q1, .inl (cAq1, 4, .inr (.inr (.inr (.inr (fun _ => none)))))), (q2, .inl (cAq2, 10, .inr (.inr (.inr (.inr (fun _ => none)))))), (q4, .inr (6, [.null, .int 0]))] := hD
  refine W.widen (k := 10) (n := 310) (by omega) (by omega) ?_
  refine lv_dup hx hb dX6_init_57 rfl ?_
  have hPc := hP.sub (ws' := [(q4, .inr (6, [.null, .int 0]))]) [3] rfl
  have hDc := hD.sub (ws' := [(q4, .inr (6, [.null, .int 0]))]) [3] (by decide) rfl
  have hKc := hK.sub (tys' := []) [] rfl
  have hFc := va_free (wc := [(q4, .inr (6, [.null, .int 0]))]) hD hS hA [3] rfl
  refine va_callv (va_runI (As := []) (rest := [.ref q4, .ref h0]) ⟨hx, hb, hml, hown, hts⟩ (c_Pile_init l dC dI dE q4 H.size) (cwI 0 hts gX6_init_X3_init rfl rfl rfl (hts (.initialized RX3) (by decide +kernel)) (hts (.methodLink RX6 43 yX3_init) (by decide +kernel)) (hts (.instanceMethod yX3_init) (by decide +kernel)) rfl (by decide +kernel) ⟨Nat.le_of_ble_eq_true rfl, Nat.le_of_ble_eq_true rfl⟩) ⟨fun a U g mk q => ⟨q.1, PB.blind q.2⟩, fun U hU hW => ⟨rfl, PB.call hPc hKc hDc hTb hZ hS hFc hU hW⟩⟩ rfl rfl hl.1 rfl (lv_room (Nat.le_of_ble_eq_true rfl)) dX6_init_58 ⟨Nat.le_of_ble_eq_true rfl, Nat.le_of_ble_eq_true rfl⟩) hS (fun q _ h => hFc q h) hFc (fun u t H locs ht hvm hw hB hz1 hk1 hS => ?_)
  obtain ⟨hP, hD, hK⟩ := PE.join0 (wc := [(q4, .inr (6, [.null, .int 0]))]) (wr := [(h0, .inr (9, [.int 7, .ref q1, .int 0, .ref q2, .int 0, .int 0, .ref q3, .null, .null])), (q1, .inl (cAq1, 4, .inr (.inr (.inr (.inr (fun _ => none)))))), (q2, .inl (cAq2, 10, .inr (.inr (.inr (.inr (fun _ => none))))))]) (tr := [(cAq1, .object RX0), (cAq2, .object RX1)]) hP hD hK [3] [0, 1, 2] [0, 1] rfl rfl rfl (by decide) (by decide) hk1 hFc
  have hP : va_P (dC, dI) vwCl [(h0, .inr (9, [.int 7, .ref q1, .int 0, .ref q2, .int 0, .int 0, .ref q3, .null, .null])), (q1, .inl (cAq1, 4, .inr (.inr (.inr (.inr (fun _ => none)))))), (q2, .inl (cAq2, 10, .inr (.inr (.inr (.inr (fun _ => none))))))] H := hP
  have hD : va_D A [(h0, .inr (9, [.int 7, .ref q1, .int 0, .ref q2, .int 0, .int 0, .ref q3, .null, .null])), (q1, .inl (cAq1, 4, .inr (.inr (.inr (.inr (fun _ => none)))))), (q2, .inl (cAq2, 10, .inr (.inr (.inr (.inr (fun _ => none))))))] := hD
  have hK : va_K (dC, dI) vwCl [(cAq1, .object RX0), (cAq2, .object RX1)] s := hK
  refine W.widen (k := 31) (n := 490) (by omega) (by omega) ?_
  refine va_putF (D := (dC, dI)) (ci := 9) (v := .ref q4) (ty := .object "Versorhall$Pile") (C := RX6) (T := TX6) (N := 9) hx hb hts (by decide +kernel) tyX6 tyX6_ok nmX6 hown hK hP hD hS 0 rfl rfl 7 (by decide) (hts (.fieldLink RX6 44 "Versorhall" "pile" "LVersorhall$Pile;") (by decide +kernel)) (fun _ h9 => h9) rfl hin rfl (by decide +kernel) rfl rfl (Nat.le_of_ble_eq_true rfl) dX6_init_61 (fun H locs hP hD hS => ?_)
  have hP : va_P (dC, dI) vwCl [(h0, .inr (9, [.int 7, .ref q1, .int 0, .ref q2, .int 0, .int 0, .ref q3, .ref q4, .null])), (q1, .inl (cAq1, 4, .inr (.inr (.inr (.inr (fun _ => none)))))), (q2, .inl (cAq2, 10, .inr (.inr (.inr (.inr (fun _ => none))))))] H := hP
  have hD : va_D A [(h0, .inr (9, [.int 7, .ref q1, .int 0, .ref q2, .int 0, .int 0, .ref q3, .ref q4, .null])), (q1, .inl (cAq1, 4, .inr (.inr (.inr (.inr (fun _ => none)))))), (q2, .inl (cAq2, 10, .inr (.inr (.inr (.inr (fun _ => none))))))] := hD
  refine lv_aload_n hx hb dX6_init_64 rfl (lv_at hl 0 rfl) ?_
  refine lv_iconst (v := 4) hx hb dX6_init_65 (by decide) ?_
  refine va_newa (atype := .int) (ty := .int) (a0 := (4, .inl (fun _ => 0))) (n := 4) (N' := 4) hx hb (hts (.arrayClass .int) (by decide +kernel)) rfl hK hP hD hS hA (fun _ => rfl) (by decide) (by decide) (Nat.le_of_ble_eq_true rfl) (Nat.le_of_ble_eq_true rfl) (Nat.le_of_ble_eq_true rfl) dX6_init_66 (fun q5 cAq5 H hK hP hD hS => ?_)
  have hP : va_P (dC, dI) vwCl [(h0, .inr (9, [.int 7, .ref q1, .int 0, .ref q2, .int 0, .int 0, .ref q3, .ref q4, .null])), (q1, .inl (cAq1, 4, .inr (.inr (.inr (.inr (fun _ => none)))))), (q2, .inl (cAq2, 10, .inr (.inr (.inr (.inr (fun _ => none)))))), (q5, .inl (cAq5, 4, .inl (fun _ => 0)))] H := hP
  have hD : va_D A [(h0, .inr (9, [.int 7, .ref q1, .int 0, .ref q2, .int 0, .int 0, .ref q3, .ref q4, .null])), (q1, .inl (cAq1, 4, .inr (.inr (.inr (.inr (fun _ => none)))))), (q2, .inl (cAq2, 10, .inr (.inr (.inr (.inr (fun _ => none)))))), (q5, .inl (cAq5, 4, .inl (fun _ => 0)))] := hD
  have hK : va_K (dC, dI) vwCl [(cAq1, .object RX0), (cAq2, .object RX1), (cAq5, .int)] s := hK
  refine W.widen (k := 32) (n := 494) (by omega) (by omega) ?_
  refine va_putF (D := (dC, dI)) (ci := 9) (v := .ref q5) (ty := .array .int) (C := RX6) (T := TX6) (N := 9) hx hb hts (by decide +kernel) tyX6 tyX6_ok nmX6 hown hK hP hD hS 0 rfl rfl 8 (by decide) (hts (.fieldLink RX6 48 "Versorhall" "order" "[I") (by decide +kernel)) (fun _ h9 => h9) rfl hin rfl (by decide +kernel) rfl rfl (Nat.le_of_ble_eq_true rfl) dX6_init_68 (fun H locs hP hD hS => ?_)
  have hP : va_P (dC, dI) vwCl [(h0, .inr (9, [.int 7, .ref q1, .int 0, .ref q2, .int 0, .int 0, .ref q3, .ref q4, .ref q5])), (q1, .inl (cAq1, 4, .inr (.inr (.inr (.inr (fun _ => none)))))), (q2, .inl (cAq2, 10, .inr (.inr (.inr (.inr (fun _ => none)))))), (q5, .inl (cAq5, 4, .inl (fun _ => 0)))] H := hP
  have hD : va_D A [(h0, .inr (9, [.int 7, .ref q1, .int 0, .ref q2, .int 0, .int 0, .ref q3, .ref q4, .ref q5])), (q1, .inl (cAq1, 4, .inr (.inr (.inr (.inr (fun _ => none)))))), (q2, .inl (cAq2, 10, .inr (.inr (.inr (.inr (fun _ => none)))))), (q5, .inl (cAq5, 4, .inl (fun _ => 0)))] := hD
  have hP9 := hP.sub (ws' := [(h0, .inr (9, [.int 7, .ref q1, .int 0, .ref q2, .int 0, .int 0, .ref q3, .ref q4, .ref q5])), (q1, .inl (cAq1, 4, .inr (.inr (.inr (.inr (fun _ => none)))))), (q2, .inl (cAq2, 10, .inr (.inr (.inr (.inr (fun _ => none))))))]) [0, 1, 2] rfl
  have hD9 := hD.sub (ws' := [(h0, .inr (9, [.int 7, .ref q1, .int 0, .ref q2, .int 0, .int 0, .ref q3, .ref q4, .ref q5])), (q1, .inl (cAq1, 4, .inr (.inr (.inr (.inr (fun _ => none)))))), (q2, .inl (cAq2, 10, .inr (.inr (.inr (.inr (fun _ => none))))))]) [0, 1, 2] (by decide) rfl
  have hK9 := hK.sub (tys' := [(cAq1, .object RX0), (cAq2, .object RX1)]) [0, 1] rfl
  refine W.widen (k := 32) (n := 494) (Nat.le_of_ble_eq_true rfl) (Nat.le_of_ble_eq_true rfl) ?_
  exact W.vret hx hb hr (fun t ht hW => ⟨⟨(), rfl, trivial, ⟨q1, q2, q3, q4, q5, cAq1, cAq2, PE.mk hP9 hK9 hD9 ht hW⟩⟩, hS.F ht⟩) hS.2.2 dX6_init_71

