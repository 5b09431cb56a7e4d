def wsX6_elementOrNull : List Cond := .code yX6_elementOrNull cX6_elementOrNull 2 (some (.object "Versorhall$Element")) :: ([.fieldLink RX6 24 "Versorhall" "elements" "[LVersorhall$Element;"] ++ wsX60)
theorem dX6_elementOrNull_0 : decode cX6_elementOrNull 0 = .ok (.iload_n 1, 1) := by decide +kernel
theorem dX6_elementOrNull_1 : decode cX6_elementOrNull 1 = .ok (.ifCond .lt 21, 3) := by decide +kernel
theorem dX6_elementOrNull_22 : decode cX6_elementOrNull 22 = .ok (.aconst_null, 1) := by decide +kernel
theorem dX6_elementOrNull_23 : decode cX6_elementOrNull 23 = .ok (.areturn, 1) := by decide +kernel
theorem dX6_elementOrNull_4 : decode cX6_elementOrNull 4 = .ok (.iload_n 1, 1) := by decide +kernel
theorem dX6_elementOrNull_5 : decode cX6_elementOrNull 5 = .ok (.aload_n 0, 1) := by decide +kernel
theorem dX6_elementOrNull_6 : decode cX6_elementOrNull 6 = .ok (.getfield 24, 3) := by decide +kernel
theorem dX6_elementOrNull_9 : decode cX6_elementOrNull 9 = .ok (.arraylength, 1) := by decide +kernel
theorem dX6_elementOrNull_10 : decode cX6_elementOrNull 10 = .ok (.if_icmp .ge 12, 3) := by decide +kernel
theorem dX6_elementOrNull_13 : decode cX6_elementOrNull 13 = .ok (.aload_n 0, 1) := by decide +kernel
theorem dX6_elementOrNull_14 : decode cX6_elementOrNull 14 = .ok (.getfield 24, 3) := by decide +kernel
theorem dX6_elementOrNull_17 : decode cX6_elementOrNull 17 = .ok (.iload_n 1, 1) := by decide +kernel
theorem dX6_elementOrNull_18 : decode cX6_elementOrNull 18 = .ok (.aaload, 1) := by decide +kernel
theorem dX6_elementOrNull_19 : decode cX6_elementOrNull 19 = .ok (.goto 4, 3) := by decide +kernel
def wsX6_elementOf : List Cond := .code yX6_elementOf cX6_elementOf 3 (some (.object "Versorhall$Element")) :: ([.classLink RX6 276 "java/lang/IndexOutOfBoundsException", .initialized "java/lang/IndexOutOfBoundsException", .methodLink RX6 360 yX6_elementOrNull, .instanceMethod yX6_elementOrNull, .selects RX6 yX6_elementOrNull yX6_elementOrNull, .initialized RX6, .code yX6_elementOrNull cX6_elementOrNull 2 (some (.object "Versorhall$Element")), .fieldLink RX6 24 "Versorhall" "elements" "[LVersorhall$Element;"] ++ wsX60 ++ (vx_atS RX6 280 "java/lang/IndexOutOfBoundsException" ["java/lang/RuntimeException", "java/lang/Exception"]).filter goodWord)
theorem dX6_elementOf_0 : decode cX6_elementOf 0 = .ok (.aload_n 0, 1) := by decide +kernel
theorem dX6_elementOf_1 : decode cX6_elementOf 1 = .ok (.iload_n 1, 1) := by decide +kernel
set_option maxRecDepth 20000 in
theorem ggX6_elementOf_X6_elementOrNull : GoodIn wsX6_elementOf wsX6_elementOrNull := goodIn_r _ [7, 8, 9, 10, 11, 12, 13, 14, 15, 16, 17] (by decide +kernel) (by decide +kernel)
set_option maxRecDepth 20000 in
theorem gX6_elementOf_X6_elementOrNull : GoodIn wsX6_elementOf (wsV RX6 360 RX6 yX6_elementOrNull wsX6_elementOrNull) := goodIn_app (goodIn_of _ (by decide +kernel)) ggX6_elementOf_X6_elementOrNull
theorem dX6_elementOf_2 : decode cX6_elementOf 2 = .ok (.invokevirtual 360, 3) := by decide +kernel
theorem dX6_elementOf_5 : decode cX6_elementOf 5 = .ok (.astore_n 2, 1) := by decide +kernel
theorem dX6_elementOf_6 : decode cX6_elementOf 6 = .ok (.aload_n 2, 1) := by decide +kernel
theorem dX6_elementOf_7 : decode cX6_elementOf 7 = .ok (.ifnonnull 14, 3) := by decide +kernel
theorem dX6_elementOf_10 : decode cX6_elementOf 10 = .ok (.new 276, 3) := by decide +kernel
theorem dX6_elementOf_13 : decode cX6_elementOf 13 = .ok (.dup, 1) := by decide +kernel
theorem dX6_elementOf_14 : decode cX6_elementOf 14 = .ok (.ldc_w 363, 3) := by decide +kernel
theorem dX6_elementOf_17 : decode cX6_elementOf 17 = .ok (.invokespecial 280, 3) := by decide +kernel
theorem dX6_elementOf_20 : decode cX6_elementOf 20 = .ok (.athrow, 1) := by decide +kernel
def wsX6_algebraOf : List Cond := .code yX6_algebraOf cX6_algebraOf 3 (some (.object "Versorhall$Algebra")) :: ([.classLink RX6 276 "java/lang/IndexOutOfBoundsException", .initialized "java/lang/IndexOutOfBoundsException", .fieldLink RX6 15 "Versorhall" "algebras" "[LVersorhall$Algebra;"] ++ wsX60 ++ (vx_atS RX6 280 "java/lang/IndexOutOfBoundsException" ["java/lang/RuntimeException", "java/lang/Exception"]).filter goodWord)
theorem dX6_algebraOf_0 : decode cX6_algebraOf 0 = .ok (.iload_n 1, 1) := by decide +kernel
theorem dX6_algebraOf_1 : decode cX6_algebraOf 1 = .ok (.ifCond .lt 21, 3) := by decide +kernel
theorem dX6_algebraOf_22 : decode cX6_algebraOf 22 = .ok (.aconst_null, 1) := by decide +kernel
theorem dX6_algebraOf_23 : decode cX6_algebraOf 23 = .ok (.astore_n 2, 1) := by decide +kernel
theorem dX6_algebraOf_24 : decode cX6_algebraOf 24 = .ok (.aload_n 2, 1) := by decide +kernel
theorem dX6_algebraOf_25 : decode cX6_algebraOf 25 = .ok (.ifnonnull 14, 3) := by decide +kernel
theorem dX6_algebraOf_28 : decode cX6_algebraOf 28 = .ok (.new 276, 3) := by decide +kernel
theorem dX6_algebraOf_31 : decode cX6_algebraOf 31 = .ok (.dup, 1) := by decide +kernel
theorem dX6_algebraOf_32 : decode cX6_algebraOf 32 = .ok (.ldc_w 358, 3) := by decide +kernel
theorem dX6_algebraOf_35 : decode cX6_algebraOf 35 = .ok (.invokespecial 280, 3) := by decide +kernel
theorem dX6_algebraOf_38 : decode cX6_algebraOf 38 = .ok (.athrow, 1) := by decide +kernel
theorem dX6_algebraOf_4 : decode cX6_algebraOf 4 = .ok (.iload_n 1, 1) := by decide +kernel
theorem dX6_algebraOf_5 : decode cX6_algebraOf 5 = .ok (.aload_n 0, 1) := by decide +kernel
theorem dX6_algebraOf_6 : decode cX6_algebraOf 6 = .ok (.getfield 15, 3) := by decide +kernel
theorem dX6_algebraOf_9 : decode cX6_algebraOf 9 = .ok (.arraylength, 1) := by decide +kernel
theorem dX6_algebraOf_10 : decode cX6_algebraOf 10 = .ok (.if_icmp .ge 12, 3) := by decide +kernel
theorem dX6_algebraOf_13 : decode cX6_algebraOf 13 = .ok (.aload_n 0, 1) := by decide +kernel
theorem dX6_algebraOf_14 : decode cX6_algebraOf 14 = .ok (.getfield 15, 3) := by decide +kernel
theorem dX6_algebraOf_17 : decode cX6_algebraOf 17 = .ok (.iload_n 1, 1) := by decide +kernel
theorem dX6_algebraOf_18 : decode cX6_algebraOf 18 = .ok (.aaload, 1) := by decide +kernel
theorem dX6_algebraOf_19 : decode cX6_algebraOf 19 = .ok (.goto 4, 3) := by decide +kernel
set_option maxHeartbeats 4000000 in
set_option maxRecDepth 100000 in
/-- c_elementOrNull -/
theorem c_elementOrNull (l : Launch) (dC : Nat → ClassId) (dI : Nat → Nat → Nat) (dE : Nat) (h0 : Nat) (a1 : Nat) (a2 : Nat) (w1 : Nat) (p1 : Nat) (o1 : Nat) (cA1 : ClassId) (cA2 : ClassId) (k : Int32) (sz : Nat) : Met l yX6_elementOrNull wsX6_elementOrNull ({ frames := 0, cells := 0, slots := 0, locals := 0 }) (va_Pc [.ref h0, .int k] (PB dC dI dE [(cA1, .object RX0), (cA2, .object RX1)] [(h0, .inr (9, [.int 7, .ref a1, .int 0, .ref a2, .int 0, .int 0, .ref w1, .ref p1, .ref o1])), (a1, .inl (cA1, 4, .inr (.inr (.inr (.inr (fun _ => none)))))), (a2, .inl (cA2, 10, .inr (.inr (.inr (.inr (fun _ => none))))))] sz)) (va_Qq (fun (r : Option Nat) (_ : Unit) => r = none) (fun (_ : Unit) (t : State) => PE dC dI [(cA1, .object RX0), (cA2, .object RX1)] [(h0, .inr (9, [.int 7, .ref a1, .int 0, .ref a2, .int 0, .int 0, .ref w1, .ref p1, .ref o1])), (a1, .inl (cA1, 4, .inr (.inr (.inr (.inr (fun _ => none)))))), (a2, .inl (cA2, 10, .inr (.inr (.inr (.inr (fun _ => none))))))] (va_A [(h0, .inr (9, [.int 7, .ref a1, .int 0, .ref a2, .int 0, .int 0, .ref w1, .ref p1, .ref o1])), (a1, .inl (cA1, 4, .inr (.inr (.inr (.inr (fun _ => none)))))), (a2, .inl (cA2, 10, .inr (.inr (.inr (.inr (fun _ => none))))))] sz) t) (va_A [(h0, .inr (9, [.int 7, .ref a1, .int 0, .ref a2, .int 0, .int 0, .ref w1, .ref p1, .ref o1])), (a1, .inl (cA1, 4, .inr (.inr (.inr (.inr (fun _ => none)))))), (a2, .inl (cA2, 10, .inr (.inr (.inr (.inr (fun _ => none))))))] sz)) 0 0 (va_A [(h0, .inr (9, [.int 7, .ref a1, .int 0, .ref a2, .int 0, .int 0, .ref w1, .ref p1, .ref o1])), (a1, .inl (cA1, 4, .inr (.inr (.inr (.inr (fun _ => none)))))), (a2, .inl (cA2, 10, .inr (.inr (.inr (.inr (fun _ => none))))))] sz) := by
  refine Met.ofW (cc := cX6_elementOrNull) (maxL := 2) (ret := (some (.object "Versorhall$Element"))) (by decide) rfl ?_
  intro p e s m args below meth c s₁ B hml hv
  obtain ⟨rfl, hsz, hP, hK, hD0, hTb, hZ⟩ := hv
  have hx := B.exec
  have hb := B.bytes
  have hr := B.returns
  have hts := atoms_spec (ws := wsX6_elementOrNull) B.pre
  have hown : s.vm.findClass RX6 = some m.cls := findClass_of_methodNamed B.named
  have hlocks := B.notSynchronized
  subst hsz
  have hD := hD0.self (sz := s.heap.size)
  generalize hAe : va_A [(h0, .inr (9, [.int 7, .ref a1, .int 0, .ref a2, .int 0, .int 0, .ref w1, .ref p1, .ref o1])), (a1, .inl (cA1, 4, .inr (.inr (.inr (.inr (fun _ => none)))))), (a2, .inl (cA2, 10, .inr (.inr (.inr (.inr (fun _ => none))))))] s.heap.size = A at hD hZ ⊢
  have hA : ∀ q : Nat, s.heap.size ≤ q → A q := fun q h => by rw [← hAe]; exact Or.inr h
  have hS : va_S A s.heap s.heap [] := va_S.rf
  have hP : va_P (dC, dI) vwCl [(h0, .inr (9, [.int 7, .ref a1, .int 0, .ref a2, .int 0, .int 0, .ref w1, .ref p1, .ref o1])), (a1, .inl (cA1, 4, .inr (.inr (.inr (.inr (fun _ => none)))))), (a2, .inl (cA2, 10, .inr (.inr (.inr (.inr (fun _ => none))))))] s.heap := hP
  have hl := lv_entry ([.ref h0, .int k]) (n := 2) (Nat.le_of_ble_eq_true rfl)
  rw [lg_entry_eq]
  generalize (lg_sl ([.ref h0, .int k]) ++ List.replicate (2 - (lg_sl ([.ref h0, .int k])).length) Slot.unset).toArray = ls at hl ⊢
  have hl : lv_has ls 2 [(0, .ref h0), (1, .int k)] := hl
  obtain ⟨H, eH⟩ : ∃ z, z = s.heap := ⟨_, rfl⟩
  rw [← eH] at hP ⊢
  have hS : va_S A s.heap H [] := by rw [eH]; exact va_S.rf
  refine lv_iload_n hx hb dX6_elementOrNull_0 rfl (lv_at hl 1 rfl) ?_
  refine lv_if_lt (tgt := 22) hx hb dX6_elementOrNull_1 (by decide) (fun c1_1 => ?_) (fun c1_1 => ?_)
  · refine lv_null hx hb dX6_elementOrNull_22 ?_
    have hP9 := hP.sub (ws' := [(h0, .inr (9, [.int 7, .ref a1, .int 0, .ref a2, .int 0, .int 0, .ref w1, .ref p1, .ref o1])), (a1, .inl (cA1, 4, .inr (.inr (.inr (.inr (fun _ => none)))))), (a2, .inl (cA2, 10, .inr (.inr (.inr (.inr (fun _ => none))))))]) [0, 1, 2] rfl
    have hD9 := hD.sub (ws' := [(h0, .inr (9, [.int 7, .ref a1, .int 0, .ref a2, .int 0, .int 0, .ref w1, .ref p1, .ref o1])), (a1, .inl (cA1, 4, .inr (.inr (.inr (.inr (fun _ => none)))))), (a2, .inl (cA2, 10, .inr (.inr (.inr (.inr (fun _ => none))))))]) [0, 1, 2] (by decide) rfl
    have hK9 := hK.sub (tys' := [(cA1, .object RX0), (cA2, .object RX1)]) [0, 1] rfl
    refine W.widen (k := 0) (n := 0) (Nat.le_of_ble_eq_true rfl) (Nat.le_of_ble_eq_true rfl) ?_
    exact W.aret (v := .null) hx hb hr (Or.inl ⟨_, rfl⟩) (Or.inl rfl) (fun t ht hW => ⟨⟨none, (), rfl, rfl, PE.mk hP9 hK9 hD9 ht hW⟩, hS.F ht⟩) hS.2.2 dX6_elementOrNull_23
  · refine lv_iload_n hx hb dX6_elementOrNull_4 rfl (lv_at hl 1 rfl) ?_
    refine lv_aload_n hx hb dX6_elementOrNull_5 rfl (lv_at hl 0 rfl) ?_
    refine va_get (D := (dC, dI)) (ci := 9) (v := .ref a2) (C := RX6) (T := TX6) (N := 9) hx hb hts (by decide +kernel) hown hK hP 0 rfl rfl 3 (by decide) (hts (.fieldLink RX6 24 "Versorhall" "elements" "[LVersorhall$Element;") (by decide +kernel)) (fun _ h9 => h9) rfl dX6_elementOrNull_6 ?_
    refine va_alen (v := 10) hx hb hK hP 2 1 rfl rfl (show Int32.ofNat 10 = 10 by decide) dX6_elementOrNull_9 ?_
    refine lv_icmp_ge (tgt := 22) hx hb dX6_elementOrNull_10 (by decide) (fun c10_2 => ?_) (fun c10_2 => ?_)
    · refine lv_null hx hb dX6_elementOrNull_22 ?_
      have hP9 := hP.sub (ws' := [(h0, .inr (9, [.int 7, .ref a1, .int 0, .ref a2, .int 0, .int 0, .ref w1, .ref p1, .ref o1])), (a1, .inl (cA1, 4, .inr (.inr (.inr (.inr (fun _ => none)))))), (a2, .inl (cA2, 10, .inr (.inr (.inr (.inr (fun _ => none))))))]) [0, 1, 2] rfl
      have hD9 := hD.sub (ws' := [(h0, .inr (9, [.int 7, .ref a1, .int 0, .ref a2, .int 0, .int 0, .ref w1, .ref p1, .ref o1])), (a1, .inl (cA1, 4, .inr (.inr (.inr (.inr (fun _ => none)))))), (a2, .inl (cA2, 10, .inr (.inr (.inr (.inr (fun _ => none))))))]) [0, 1, 2] (by decide) rfl
      have hK9 := hK.sub (tys' := [(cA1, .object RX0), (cA2, .object RX1)]) [0, 1] rfl
      refine W.widen (k := 0) (n := 0) (Nat.le_of_ble_eq_true rfl) (Nat.le_of_ble_eq_true rfl) ?_
      exact W.aret (v := .null) hx hb hr (Or.inl ⟨_, rfl⟩) (Or.inl rfl) (fun t ht hW => ⟨⟨none, (), rfl, rfl, PE.mk hP9 hK9 hD9 ht hW⟩, hS.F ht⟩) hS.2.2 dX6_elementOrNull_23
    · refine lv_aload_n hx hb dX6_elementOrNull_13 rfl (lv_at hl 0 rfl) ?_
      refine va_get (D := (dC, dI)) (ci := 9) (v := .ref a2) (C := RX6) (T := TX6) (N := 9) hx hb hts (by decide +kernel) hown hK hP 0 rfl rfl 3 (by decide) (hts (.fieldLink RX6 24 "Versorhall" "elements" "[LVersorhall$Element;") (by decide +kernel)) (fun _ h9 => h9) rfl dX6_elementOrNull_14 ?_
      refine lv_iload_n hx hb dX6_elementOrNull_17 rfl (lv_at hl 1 rfl) ?_
      refine va_aldq hx hb hK hP 2 1 rfl rfl (in_of10 c1_1 c10_2) dX6_elementOrNull_18 ?_
      refine W.eq (g2 := F0 m 19 ls [.null]) rfl ?_
      refine lv_goto (tgt := 23) hx hb dX6_elementOrNull_19 (by decide) ?_
      have hP9 := hP.sub (ws' := [(h0, .inr (9, [.int 7, .ref a1, .int 0, .ref a2, .int 0, .int 0, .ref w1, .ref p1, .ref o1])), (a1, .inl (cA1, 4, .inr (.inr (.inr (.inr (fun _ => none)))))), (a2, .inl (cA2, 10, .inr (.inr (.inr (.inr (fun _ => none))))))]) [0, 1, 2] rfl
      have hD9 := hD.sub (ws' := [(h0, .inr (9, [.int 7, .ref a1, .int 0, .ref a2, .int 0, .int 0, .ref w1, .ref p1, .ref o1])), (a1, .inl (cA1, 4, .inr (.inr (.inr (.inr (fun _ => none)))))), (a2, .inl (cA2, 10, .inr (.inr (.inr (.inr (fun _ => none))))))]) [0, 1, 2] (by decide) rfl
      have hK9 := hK.sub (tys' := [(cA1, .object RX0), (cA2, .object RX1)]) [0, 1] rfl
      refine W.widen (k := 0) (n := 0) (Nat.le_of_ble_eq_true rfl) (Nat.le_of_ble_eq_true rfl) ?_
      exact W.aret (v := .null) hx hb hr (Or.inl ⟨_, rfl⟩) (Or.inl rfl) (fun t ht hW => ⟨⟨none, (), rfl, rfl, PE.mk hP9 hK9 hD9 ht hW⟩, hS.F ht⟩) hS.2.2 dX6_elementOrNull_23

set_option maxHeartbeats 4000000 in
set_option maxRecDepth 100000 in
/-- c_elementOf -/
theorem c_elementOf (l : Launch) (hst : l.stackTraces = false) (dC : Nat → ClassId) (dI : Nat → Nat → Nat) (dE : Nat) (h0 : Nat) (a1 : Nat) (a2 : Nat) (w1 : Nat) (p1 : Nat) (o1 : Nat) (cA1 : ClassId) (cA2 : ClassId) (k : Int32) (sz : Nat) : vx_Met l yX6_elementOf wsX6_elementOf ({ frames := 8, cells := 1, slots := 6, locals := 120 }) (va_Pc [.ref h0, .int k] (PB dC dI dE [(cA1, .object RX0), (cA2, .object RX1)] [(h0, .inr (9, [.int 7, .ref a1, .int 0, .ref a2, .int 0, .int 0, .ref w1, .ref p1, .ref o1])), (a1, .inl (cA1, 4, .inr (.inr (.inr (.inr (fun _ => none)))))), (a2, .inl (cA2, 10, .inr (.inr (.inr (.inr (fun _ => none))))))] sz)) (va_Qq (fun (_ : Option Nat) (_ : Unit) => False) (fun (_ : Unit) (_ : State) => True) (va_A [(h0, .inr (9, [.int 7, .ref a1, .int 0, .ref a2, .int 0, .int 0, .ref w1, .ref p1, .ref o1])), (a1, .inl (cA1, 4, .inr (.inr (.inr (.inr (fun _ => none)))))), (a2, .inl (cA2, 10, .inr (.inr (.inr (.inr (fun _ => none))))))] sz)) (vx_X (fun (_ : Unit) => True) (fun (E : String) (_ : Unit) (_ : State) => E = "java/lang/IndexOutOfBoundsException") (va_A [(h0, .inr (9, [.int 7, .ref a1, .int 0, .ref a2, .int 0, .int 0, .ref w1, .ref p1, .ref o1])), (a1, .inl (cA1, 4, .inr (.inr (.inr (.inr (fun _ => none)))))), (a2, .inl (cA2, 10, .inr (.inr (.inr (.inr (fun _ => none))))))] sz)) 1 6 (va_A [(h0, .inr (9, [.int 7, .ref a1, .int 0, .ref a2, .int 0, .int 0, .ref w1, .ref p1, .ref o1])), (a1, .inl (cA1, 4, .inr (.inr (.inr (.inr (fun _ => none)))))), (a2, .inl (cA2, 10, .inr (.inr (.inr (.inr (fun _ => none))))))] sz) := by
  refine vx_ofW (cc := cX6_elementOf) (maxL := 3) (ret := (some (.object "Versorhall$Element"))) (by decide) rfl ?_
  intro p e s m args below meth c s₁ B hml hex hv
  obtain ⟨rfl, hsz, hP, hK, hD0, hTb, hZ⟩ := hv
  have hx := B.exec
  have hb := B.bytes
  have hr := B.returns
  have hts := atoms_spec (ws := wsX6_elementOf) B.pre
  have hown : s.vm.findClass RX6 = some m.cls := findClass_of_methodNamed B.named
  have hlocks := B.notSynchronized
  subst hsz
  have hD := hD0.self (sz := s.heap.size)
  generalize hAe : va_A [(h0, .inr (9, [.int 7, .ref a1, .int 0, .ref a2, .int 0, .int 0, .ref w1, .ref p1, .ref o1])), (a1, .inl (cA1, 4, .inr (.inr (.inr (.inr (fun _ => none)))))), (a2, .inl (cA2, 10, .inr (.inr (.inr (.inr (fun _ => none))))))] s.heap.size = A at hD hZ ⊢
  have hA : ∀ q : Nat, s.heap.size ≤ q → A q := fun q h => by rw [← hAe]; exact Or.inr h
  have hS : va_S A s.heap s.heap [] := va_S.rf
  have hP : va_P (dC, dI) vwCl [(h0, .inr (9, [.int 7, .ref a1, .int 0, .ref a2, .int 0, .int 0, .ref w1, .ref p1, .ref o1])), (a1, .inl (cA1, 4, .inr (.inr (.inr (.inr (fun _ => none)))))), (a2, .inl (cA2, 10, .inr (.inr (.inr (.inr (fun _ => none))))))] s.heap := hP
  have hl := lv_entry ([.ref h0, .int k]) (n := 3) (Nat.le_of_ble_eq_true rfl)
  rw [lg_entry_eq]
  generalize (lg_sl ([.ref h0, .int k]) ++ List.replicate (3 - (lg_sl ([.ref h0, .int k])).length) Slot.unset).toArray = ls at hl ⊢
  have hl : lv_has ls 3 [(0, .ref h0), (1, .int k)] := hl
  obtain ⟨H, eH⟩ : ∃ z, z = s.heap := ⟨_, rfl⟩
  rw [← eH] at hP ⊢
  have hS : va_S A s.heap H [] := by rw [eH]; exact va_S.rf
  refine lv_aload_n hx hb dX6_elementOf_0 rfl (lv_at hl 0 rfl) ?_
  refine lv_iload_n hx hb dX6_elementOf_1 rfl (lv_at hl 1 rfl) ?_
  have hPc := hP.sub (ws' := [(h0, .inr (9, [.int 7, .ref a1, .int 0, .ref a2, .int 0, .int 0, .ref w1, .ref p1, .ref o1])), (a1, .inl (cA1, 4, .inr (.inr (.inr (.inr (fun _ => none)))))), (a2, .inl (cA2, 10, .inr (.inr (.inr (.inr (fun _ => none))))))]) [0, 1, 2] rfl
  have hDc := hD.sub (ws' := [(h0, .inr (9, [.int 7, .ref a1, .int 0, .ref a2, .int 0, .int 0, .ref w1, .ref p1, .ref o1])), (a1, .inl (cA1, 4, .inr (.inr (.inr (.inr (fun _ => none)))))), (a2, .inl (cA2, 10, .inr (.inr (.inr (.inr (fun _ => none))))))]) [0, 1, 2] (by decide) rfl
  have hKc := hK.sub (tys' := [(cA1, .object RX0), (cA2, .object RX1)]) [0, 1] rfl
  have hFc := va_free (wc := [(h0, .inr (9, [.int 7, .ref a1, .int 0, .ref a2, .int 0, .int 0, .ref w1, .ref p1, .ref o1])), (a1, .inl (cA1, 4, .inr (.inr (.inr (.inr (fun _ => none)))))), (a2, .inl (cA2, 10, .inr (.inr (.inr (.inr (fun _ => none))))))]) hD hS hA [0, 1, 2] rfl
  refine va_callq (va_runV (As := [.int k]) (rest := []) ⟨hx, hb, hml, hown, hts⟩ (c_elementOrNull l dC dI dE h0 a1 a2 w1 p1 o1 cA1 cA2 k H.size) (cwV 1 hts gX6_elementOf_X6_elementOrNull rfl rfl rfl (by decide +kernel) ⟨Nat.le_of_ble_eq_true rfl, Nat.le_of_ble_eq_true rfl⟩) ⟨fun a U g mk q => ⟨q.1, PB.blind q.2⟩, va_recv hKc hPc (ci := 9) (q0 := 0) rfl rfl, fun U hU hW => ⟨rfl, PB.call hPc hKc hDc hTb hZ hS hFc hU hW⟩⟩ rfl rfl hl.1 rfl (lv_room (Nat.le_of_ble_eq_true rfl)) dX6_elementOf_2 ⟨Nat.le_of_ble_eq_true rfl, Nat.le_of_ble_eq_true rfl⟩) hS (fun q _ h => hFc q h) hFc (fun r u t H locs ht hvm hw hB hz1 hk1 hS => ?_)
  obtain ⟨hP, hD, hK⟩ := PE.join (wc := [(h0, .inr (9, [.int 7, .ref a1, .int 0, .ref a2, .int 0, .int 0, .ref w1, .ref p1, .ref o1])), (a1, .inl (cA1, 4, .inr (.inr (.inr (.inr (fun _ => none)))))), (a2, .inl (cA2, 10, .inr (.inr (.inr (.inr (fun _ => none))))))]) (wr := []) (w1 := [(h0, .inr (9, [.int 7, .ref a1, .int 0, .ref a2, .int 0, .int 0, .ref w1, .ref p1, .ref o1])), (a1, .inl (cA1, 4, .inr (.inr (.inr (.inr (fun _ => none)))))), (a2, .inl (cA2, 10, .inr (.inr (.inr (.inr (fun _ => none))))))]) (tr := []) (t1 := [(cA1, .object RX0), (cA2, .object RX1)]) hP hD hK [0, 1, 2] [] [] rfl rfl rfl (by decide) (by decide) hk1 hFc ht hvm hB
  have hP : va_P (dC, dI) vwCl [(h0, .inr (9, [.int 7, .ref a1, .int 0, .ref a2, .int 0, .int 0, .ref w1, .ref p1, .ref o1])), (a1, .inl (cA1, 4, .inr (.inr (.inr (.inr (fun _ => none)))))), (a2, .inl (cA2, 10, .inr (.inr (.inr (.inr (fun _ => none))))))] H := hP
  have hD : va_D A [(h0, .inr (9, [.int 7, .ref a1, .int 0, .ref a2, .int 0, .int 0, .ref w1, .ref p1, .ref o1])), (a1, .inl (cA1, 4, .inr (.inr (.inr (.inr (fun _ => none)))))), (a2, .inl (cA2, 10, .inr (.inr (.inr (.inr (fun _ => none))))))] := hD
  have hK : va_K (dC, dI) vwCl [(cA1, .object RX0), (cA2, .object RX1)] s := hK
  subst hw
  refine W.eq (g2 := F0 m 5 ls [.null]) rfl ?_
  refine lv_astore_nN (lv' := [(2, .null), (0, .ref h0), (1, .int k)]) hx hb dX6_elementOf_5 rfl hl (by decide) rfl (fun ls hl => ?_)
  refine lv_aload_nN hx hb dX6_elementOf_6 rfl (lv_at hl 0 rfl) ?_
  refine lv_ifnonnullN hx hb dX6_elementOf_7 ?_
  obtain ⟨sa, hsa⟩ := Tb_s3 hTb
  exact vx_throwSW (names := ["java/lang/RuntimeException", "java/lang/Exception"]) hx hb hst hown (by decide +kernel) (by decide +kernel) (hts (.classLink RX6 276 "java/lang/IndexOutOfBoundsException") (by decide +kernel)) (hts (.initialized "java/lang/IndexOutOfBoundsException") (by decide +kernel)) hsa (vx_hat (fun w h => hts w (by unfold wsX6_elementOf; first | exact List.mem_cons_of_mem _ (List.mem_append_right _ h) | exact List.mem_cons_of_mem _ (List.mem_append_left _ (List.mem_append_right _ h)) | exact List.mem_cons_of_mem _ (List.mem_append_left _ (List.mem_append_left _ (List.mem_append_right _ h))))) (by decide +kernel) (vx_c (va_Nw.use rfl (Tb_d1 hTb)) (vx_c (va_Nw.use rfl (Tb_d2 hTb)) (vx_c (va_Nw.use rfl (Tb_d3 hTb)) (vx_c (va_Nw.use rfl (Tb_c1 hTb)) vx_n))))) (by decide +kernel) hZ.1 hZ.2.1 hS (by rw [hml]; exact hl.1) dX6_elementOf_10 dX6_elementOf_13 dX6_elementOf_14 dX6_elementOf_17 dX6_elementOf_20 (fun x h => (hex x h).elim) (Nat.le_of_ble_eq_true rfl) (Nat.le_of_ble_eq_true rfl) (Nat.le_of_ble_eq_true rfl) (Nat.le_of_ble_eq_true rfl) hlocks (fun t _ h1 h2 => ⟨(), trivial, rfl, Nat.le_trans hS.1 h1, fun q hq hn => (h2 q (Nat.lt_of_lt_of_le hq hS.1)).trans (hS.2.1 q hq hn)⟩) hS.2.2 (Nat.le_of_ble_eq_true rfl) (Nat.le_of_ble_eq_true rfl)

set_option maxHeartbeats 4000000 in
set_option maxRecDepth 100000 in
/-- c_algebraOf -/
theorem c_algebraOf (l : Launch) (hst : l.stackTraces = false) (dC : Nat → ClassId) (dI : Nat → Nat → Nat) (dE : Nat) (h0 : Nat) (a1 : Nat) (a2 : Nat) (w1 : Nat) (p1 : Nat) (o1 : Nat) (cA1 : ClassId) (cA2 : ClassId) (k : Int32) (sz : Nat) : vx_Met l yX6_algebraOf wsX6_algebraOf ({ frames := 8, cells := 1, slots := 6, locals := 120 }) (va_Pc [.ref h0, .int k] (PB dC dI dE [(cA1, .object RX0), (cA2, .object RX1)] [(h0, .inr (9, [.int 7, .ref a1, .int 0, .ref a2, .int 0, .int 0, .ref w1, .ref p1, .ref o1])), (a1, .inl (cA1, 4, .inr (.inr (.inr (.inr (fun _ => none)))))), (a2, .inl (cA2, 10, .inr (.inr (.inr (.inr (fun _ => none))))))] sz)) (va_Qq (fun (_ : Option Nat) (_ : Unit) => False) (fun (_ : Unit) (_ : State) => True) (va_A [(h0, .inr (9, [.int 7, .ref a1, .int 0, .ref a2, .int 0, .int 0, .ref w1, .ref p1, .ref o1])), (a1, .inl (cA1, 4, .inr (.inr (.inr (.inr (fun _ => none)))))), (a2, .inl (cA2, 10, .inr (.inr (.inr (.inr (fun _ => none))))))] sz)) (vx_X (fun (_ : Unit) => True) (fun (E : String) (_ : Unit) (_ : State) => E = "java/lang/IndexOutOfBoundsException") (va_A [(h0, .inr (9, [.int 7, .ref a1, .int 0, .ref a2, .int 0, .int 0, .ref w1, .ref p1, .ref o1])), (a1, .inl (cA1, 4, .inr (.inr (.inr (.inr (fun _ => none)))))), (a2, .inl (cA2, 10, .inr (.inr (.inr (.inr (fun _ => none))))))] sz)) 1 6 (va_A [(h0, .inr (9, [.int 7, .ref a1, .int 0, .ref a2, .int 0, .int 0, .ref w1, .ref p1, .ref o1])), (a1, .inl (cA1, 4, .inr (.inr (.inr (.inr (fun _ => none)))))), (a2, .inl (cA2, 10, .inr (.inr (.inr (.inr (fun _ => none))))))] sz) := by
  refine vx_ofW (cc := cX6_algebraOf) (maxL := 3) (ret := (some (.object "Versorhall$Algebra"))) (by decide) rfl ?_
  intro p e s m args below meth c s₁ B hml hex hv
  obtain ⟨rfl, hsz, hP, hK, hD0, hTb, hZ⟩ := hv
  have hx := B.exec
  have hb := B.bytes
  have hr := B.returns
  have hts := atoms_spec (ws := wsX6_algebraOf) B.pre
  have hown : s.vm.findClass RX6 = some m.cls := findClass_of_methodNamed B.named
  have hlocks := B.notSynchronized
  subst hsz
  have hD := hD0.self (sz := s.heap.size)
  generalize hAe : va_A [(h0, .inr (9, [.int 7, .ref a1, .int 0, .ref a2, .int 0, .int 0, .ref w1, .ref p1, .ref o1])), (a1, .inl (cA1, 4, .inr (.inr (.inr (.inr (fun _ => none)))))), (a2, .inl (cA2, 10, .inr (.inr (.inr (.inr (fun _ => none))))))] s.heap.size = A at hD hZ ⊢
  have hA : ∀ q : Nat, s.heap.size ≤ q → A q := fun q h => by rw [← hAe]; exact Or.inr h
  have hS : va_S A s.heap s.heap [] := va_S.rf
  have hP : va_P (dC, dI) vwCl [(h0, .inr (9, [.int 7, .ref a1, .int 0, .ref a2, .int 0, .int 0, .ref w1, .ref p1, .ref o1])), (a1, .inl (cA1, 4, .inr (.inr (.inr (.inr (fun _ => none)))))), (a2, .inl (cA2, 10, .inr (.inr (.inr (.inr (fun _ => none))))))] s.heap := hP
  have hl := lv_entry ([.ref h0, .int k]) (n := 3) (Nat.le_of_ble_eq_true rfl)
  rw [lg_entry_eq]
  generalize (lg_sl ([.ref h0, .int k]) ++ List.replicate (3 - (lg_sl ([.ref h0, .int k])).length) Slot.unset).toArray = ls at hl ⊢
  have hl : lv_has ls 3 [(0, .ref h0), (1, .int k)] := hl
  obtain ⟨H, eH⟩ : ∃ z, z = s.heap := ⟨_, rfl⟩
  rw [← eH] at hP ⊢
  have hS : va_S A s.heap H [] := by rw [eH]; exact va_S.rf
  refine lv_iload_n hx hb dX6_algebraOf_0 rfl (lv_at hl 1 rfl) ?_
  refine lv_if_lt (tgt := 22) hx hb dX6_algebraOf_1 (by decide) (fun c1_1 => ?_) (fun c1_1 => ?_)
  · refine lv_null hx hb dX6_algebraOf_22 ?_
    refine lv_astore_nN (lv' := [(2, .null), (0, .ref h0), (1, .int k)]) hx hb dX6_algebraOf_23 rfl hl (by decide) rfl (fun ls hl => ?_)
    refine lv_aload_nN hx hb dX6_algebraOf_24 rfl (lv_at hl 0 rfl) ?_
    refine lv_ifnonnullN hx hb dX6_algebraOf_25 ?_
    obtain ⟨sa, hsa⟩ := Tb_s2 hTb
    exact vx_throwSW (names := ["java/lang/RuntimeException", "java/lang/Exception"]) hx hb hst hown (by decide +kernel) (by decide +kernel) (hts (.classLink RX6 276 "java/lang/IndexOutOfBoundsException") (by decide +kernel)) (hts (.initialized "java/lang/IndexOutOfBoundsException") (by decide +kernel)) hsa (vx_hat (fun w h => hts w (by unfold wsX6_algebraOf; first | exact List.mem_cons_of_mem _ (List.mem_append_right _ h) | exact List.mem_cons_of_mem _ (List.mem_append_left _ (List.mem_append_right _ h)) | exact List.mem_cons_of_mem _ (List.mem_append_left _ (List.mem_append_left _ (List.mem_append_right _ h))))) (by decide +kernel) (vx_c (va_Nw.use rfl (Tb_d1 hTb)) (vx_c (va_Nw.use rfl (Tb_d2 hTb)) (vx_c (va_Nw.use rfl (Tb_d3 hTb)) (vx_c (va_Nw.use rfl (Tb_c1 hTb)) vx_n))))) (by decide +kernel) hZ.1 hZ.2.1 hS (by rw [hml]; exact hl.1) dX6_algebraOf_28 dX6_algebraOf_31 dX6_algebraOf_32 dX6_algebraOf_35 dX6_algebraOf_38 (fun x h => (hex x h).elim) (Nat.le_of_ble_eq_true rfl) (Nat.le_of_ble_eq_true rfl) (Nat.le_of_ble_eq_true rfl) (Nat.le_of_ble_eq_true rfl) hlocks (fun t _ h1 h2 => ⟨(), trivial, rfl, Nat.le_trans hS.1 h1, fun q hq hn => (h2 q (Nat.lt_of_lt_of_le hq hS.1)).trans (hS.2.1 q hq hn)⟩) hS.2.2 (Nat.le_of_ble_eq_true rfl) (Nat.le_of_ble_eq_true rfl)
  · refine lv_iload_n hx hb dX6_algebraOf_4 rfl (lv_at hl 1 rfl) ?_
    refine lv_aload_n hx hb dX6_algebraOf_5 rfl (lv_at hl 0 rfl) ?_
    refine va_get (D := (dC, dI)) (ci := 9) (v := .ref a1) (C := RX6) (T := TX6) (N := 9) hx hb hts (by decide +kernel) hown hK hP 0 rfl rfl 1 (by decide) (hts (.fieldLink RX6 15 "Versorhall" "algebras" "[LVersorhall$Algebra;") (by decide +kernel)) (fun _ h9 => h9) rfl dX6_algebraOf_6 ?_
    refine va_alen (v := 4) hx hb hK hP 1 0 rfl rfl (show Int32.ofNat 4 = 4 by decide) dX6_algebraOf_9 ?_
    refine lv_icmp_ge (tgt := 22) hx hb dX6_algebraOf_10 (by decide) (fun c10_2 => ?_) (fun c10_2 => ?_)
    · refine lv_null hx hb dX6_algebraOf_22 ?_
      refine lv_astore_nN (lv' := [(2, .null), (0, .ref h0), (1, .int k)]) hx hb dX6_algebraOf_23 rfl hl (by decide) rfl (fun ls hl => ?_)
      refine lv_aload_nN hx hb dX6_algebraOf_24 rfl (lv_at hl 0 rfl) ?_
      refine lv_ifnonnullN hx hb dX6_algebraOf_25 ?_
      obtain ⟨sa, hsa⟩ := Tb_s2 hTb
      exact vx_throwSW (names := ["java/lang/RuntimeException", "java/lang/Exception"]) hx hb hst hown (by decide +kernel) (by decide +kernel) (hts (.classLink RX6 276 "java/lang/IndexOutOfBoundsException") (by decide +kernel)) (hts (.initialized "java/lang/IndexOutOfBoundsException") (by decide +kernel)) hsa (vx_hat (fun w h => hts w (by unfold wsX6_algebraOf; first | exact List.mem_cons_of_mem _ (List.mem_append_right _ h) | exact List.mem_cons_of_mem _ (List.mem_append_left _ (List.mem_append_right _ h)) | exact List.mem_cons_of_mem _ (List.mem_append_left _ (List.mem_append_left _ (List.mem_append_right _ h))))) (by decide +kernel) (vx_c (va_Nw.use rfl (Tb_d1 hTb)) (vx_c (va_Nw.use rfl (Tb_d2 hTb)) (vx_c (va_Nw.use rfl (Tb_d3 hTb)) (vx_c (va_Nw.use rfl (Tb_c1 hTb)) vx_n))))) (by decide +kernel) hZ.1 hZ.2.1 hS (by rw [hml]; exact hl.1) dX6_algebraOf_28 dX6_algebraOf_31 dX6_algebraOf_32 dX6_algebraOf_35 dX6_algebraOf_38 (fun x h => (hex x h).elim) (Nat.le_of_ble_eq_true rfl) (Nat.le_of_ble_eq_true rfl) (Nat.le_of_ble_eq_true rfl) (Nat.le_of_ble_eq_true rfl) hlocks (fun t _ h1 h2 => ⟨(), trivial, rfl, Nat.le_trans hS.1 h1, fun q hq hn => (h2 q (Nat.lt_of_lt_of_le hq hS.1)).trans (hS.2.1 q hq hn)⟩) hS.2.2 (Nat.le_of_ble_eq_true rfl) (Nat.le_of_ble_eq_true rfl)
    · refine lv_aload_n hx hb dX6_algebraOf_13 rfl (lv_at hl 0 rfl) ?_
      refine va_get (D := (dC, dI)) (ci := 9) (v := .ref a1) (C := RX6) (T := TX6) (N := 9) hx hb hts (by decide +kernel) hown hK hP 0 rfl rfl 1 (by decide) (hts (.fieldLink RX6 15 "Versorhall" "algebras" "[LVersorhall$Algebra;") (by decide +kernel)) (fun _ h9 => h9) rfl dX6_algebraOf_14 ?_
      refine lv_iload_n hx hb dX6_algebraOf_17 rfl (lv_at hl 1 rfl) ?_
      refine va_aldq hx hb hK hP 1 0 rfl rfl (in_of4 c1_1 c10_2) dX6_algebraOf_18 ?_
      refine W.eq (g2 := F0 m 19 ls [.null]) rfl ?_
      refine lv_goto (tgt := 23) hx hb dX6_algebraOf_19 (by decide) ?_
      refine lv_astore_nN (lv' := [(2, .null), (0, .ref h0), (1, .int k)]) hx hb dX6_algebraOf_23 rfl hl (by decide) rfl (fun ls hl => ?_)
      refine lv_aload_nN hx hb dX6_algebraOf_24 rfl (lv_at hl 0 rfl) ?_
      refine lv_ifnonnullN hx hb dX6_algebraOf_25 ?_
      obtain ⟨sa, hsa⟩ := Tb_s2 hTb
      exact vx_throwSW (names := ["java/lang/RuntimeException", "java/lang/Exception"]) hx hb hst hown (by decide +kernel) (by decide +kernel) (hts (.classLink RX6 276 "java/lang/IndexOutOfBoundsException") (by decide +kernel)) (hts (.initialized "java/lang/IndexOutOfBoundsException") (by decide +kernel)) hsa (vx_hat (fun w h => hts w (by unfold wsX6_algebraOf; first | exact List.mem_cons_of_mem _ (List.mem_append_right _ h) | exact List.mem_cons_of_mem _ (List.mem_append_left _ (List.mem_append_right _ h)) | exact List.mem_cons_of_mem _ (List.mem_append_left _ (List.mem_append_left _ (List.mem_append_right _ h))))) (by decide +kernel) (vx_c (va_Nw.use rfl (Tb_d1 hTb)) (vx_c (va_Nw.use rfl (Tb_d2 hTb)) (vx_c (va_Nw.use rfl (Tb_d3 hTb)) (vx_c (va_Nw.use rfl (Tb_c1 hTb)) vx_n))))) (by decide +kernel) hZ.1 hZ.2.1 hS (by rw [hml]; exact hl.1) dX6_algebraOf_28 dX6_algebraOf_31 dX6_algebraOf_32 dX6_algebraOf_35 dX6_algebraOf_38 (fun x h => (hex x h).elim) (Nat.le_of_ble_eq_true rfl) (Nat.le_of_ble_eq_true rfl) (Nat.le_of_ble_eq_true rfl) (Nat.le_of_ble_eq_true rfl) hlocks (fun t _ h1 h2 => ⟨(), trivial, rfl, Nat.le_trans hS.1 h1, fun q hq hn => (h2 q (Nat.lt_of_lt_of_le hq hS.1)).trans (hS.2.1 q hq hn)⟩) hS.2.2 (Nat.le_of_ble_eq_true rfl) (Nat.le_of_ble_eq_true rfl)

