theorem dL_law_0 : decode cL_law 0 = .ok (.new 8, 3) := by decide +kernel
theorem dL_law_3 : decode cL_law 3 = .ok (.dup, 1) := by decide +kernel
set_option maxRecDepth 20000 in
theorem ggL_law_X6_init : GoodIn wsL_law wsX6_init := goodIn_r _ [11, 12, 13, 14, 15, 16, 17, 18, 19, 20, 21, 22, 23, 24, 25, 26, 27, 28, 29, 30, 31, 32, 33, 34, 35, 36, 37, 38, 39, 40, 41, 42, 43, 44, 45, 46, 47, 48, 49, 50, 51, 52, 53, 54, 55, 56, 57, 58, 59, 1430, 1431, 1432, 1433, 1434, 1435, 1436, 1437, 1438, 1447, 1448, 1449, 1450, 1451, 1452, 1453] (by decide +kernel) (by decide +kernel)
set_option maxRecDepth 20000 in
theorem gL_law_X6_init : GoodIn wsL_law (wsX6_init) := ggL_law_X6_init
theorem dL_law_4 : decode cL_law 4 = .ok (.invokespecial 127, 3) := by decide +kernel
theorem dL_law_7 : decode cL_law 7 = .ok (.astore_n 1, 1) := by decide +kernel
theorem dL_law_8 : decode cL_law 8 = .ok (.new 128, 3) := by decide +kernel
theorem dL_law_11 : decode cL_law 11 = .ok (.dup, 1) := by decide +kernel
set_option maxRecDepth 20000 in
theorem ggL_law_X10_init : GoodIn wsL_law wsX10_init := goodIn_r _ [62, 63, 13, 14, 64, 65, 66, 67, 68, 69, 70, 71, 72, 73, 74, 75, 76, 77, 78, 79, 80, 81, 82, 83, 84, 1439, 1440, 1441, 1442, 1443, 1454, 1455, 1456] (by decide +kernel) (by decide +kernel)
set_option maxRecDepth 20000 in
theorem gL_law_X10_init : GoodIn wsL_law (wsX10_init) := ggL_law_X10_init
theorem dL_law_12 : decode cL_law 12 = .ok (.invokespecial 130, 3) := by decide +kernel
theorem dL_law_15 : decode cL_law 15 = .ok (.astore_n 2, 1) := by decide +kernel
theorem dL_law_16 : decode cL_law 16 = .ok (.new 14, 3) := by decide +kernel
theorem dL_law_19 : decode cL_law 19 = .ok (.dup, 1) := by decide +kernel
set_option maxRecDepth 20000 in
theorem ggL_law_X7_init : GoodIn wsL_law wsX7_init := goodIn_r _ [86, 87, 13, 14] (by decide +kernel) (by decide +kernel)
set_option maxRecDepth 20000 in
theorem gL_law_X7_init_n131 : GoodIn wsL_law (wsX7_init) := ggL_law_X7_init
theorem dL_law_20 : decode cL_law 20 = .ok (.invokespecial 131, 3) := by decide +kernel
theorem dL_law_23 : decode cL_law 23 = .ok (.astore_n 3, 1) := by decide +kernel
theorem dL_law_24 : decode cL_law 24 = .ok (.iconst 0, 1) := by decide +kernel
theorem dL_law_25 : decode cL_law 25 = .ok (.istore 4, 2) := by decide +kernel
set_option maxHeartbeats 4000000 in
set_option maxRecDepth 100000 in
/-- THE LAW, from its entry -/
theorem whole_start {p : Program} {e : Env} {s : State} {m : MethodId} {below : List Frame} {meth : Method} {c : Code} (l : Launch) (hflags : l.flags = flags0) {b L : Nat} {xs : Nat → Int32} (hL : L ≤ 4) (C0 : lw_At p s m meth c b L xs) : W p l e room_1 s m #[Value.ref b] below meth c s.heap [] 0 0 (lw_Z below #[Value.ref b] s) (entryFrame m ([Value.ref b] : List Value).toArray 9) := by
  obtain ⟨hx, hb, hr, hml, hown, hts0, hX, hbl, hlocks, hgv⟩ := id C0
  have hst : l.stackTraces = false := by unfold Launch.stackTraces; rw [hflags]; decide
  obtain ⟨A, hAe⟩ : ∃ A : Nat → Prop, A = fun q : Nat => s.heap.size ≤ q := ⟨_, rfl⟩
  have hA : ∀ q : Nat, s.heap.size ≤ q → A q := fun q h => by rw [hAe]; exact h
  have hA2 : ∀ q : Nat, A q → s.heap.size ≤ q := fun q h => by rw [hAe] at h; exact h
  have hbA : ¬ A b := fun h => absurd (hA2 b h) (Nat.not_le.mpr hbl)
  obtain ⟨dC, dI, hK⟩ := lw_K hts0
  have hTb := lw_Tb hts0 hgv
  obtain ⟨dE, hZ⟩ := lw_Zq hts0 hgv hA2
  have hts : ∀ w ∈ wsL_law, w.before #[Value.ref b] s = true := lw_words hts0
  have hP : va_P (dC, dI) vwCl [] s.heap := fun k q h => by simp at h
  have hD : va_D A [] := ⟨fun i j p q h => by simp at h, fun k q h => by simp at h⟩
  have hl := lv_entry ([.ref b]) (n := 9) (Nat.le_of_ble_eq_true rfl)
  rw [lg_entry_eq]
  generalize (lg_sl ([.ref b]) ++ List.replicate (9 - (lg_sl ([.ref b])).length) Slot.unset).toArray = ls at hl ⊢
  have hl : lv_has ls 9 [(0, .ref b)] := hl
  obtain ⟨H, eH⟩ : ∃ z, z = s.heap := ⟨_, rfl⟩
  have hS : va_S A s.heap H [] := by rw [eH]; exact va_S.rf
  suffices K : W p l e room_1 s m #[Value.ref b] below meth c H [] 0 0 (lw_Z below #[Value.ref b] s) (F0 m 0 ls []) from by rw [eH] at K; exact K
  rw [← eH] at hP
  refine va_new (ci := 9) (fs := [.int 0, .null, .int 0, .null, .int 0, .int 0, .null, .null, .null]) (C := RX6) (T := TX6) (N := 9) hx hb hts inlX6 tyX6 tyX6_ok hown (hts (.classLink RL 8 RX6) (List.mem_of_getElem? (i := 0) (by decide +kernel))) (hts (.instantiable RX6 9) (List.mem_of_getElem? (i := 1) (by decide +kernel))) (hts (.initialized RX6) (List.mem_of_getElem? (i := 2) (by decide +kernel))) hK hP hD hS hA rfl (fun j hj => by rcases (show j = 0 ∨ j = 1 ∨ j = 2 ∨ j = 3 ∨ j = 4 ∨ j = 5 ∨ j = 6 ∨ j = 7 ∨ j = 8 by omega) with rfl | rfl | rfl | rfl | rfl | rfl | rfl | rfl | rfl <;> rfl) (Nat.le_of_ble_eq_true rfl) (Nat.le_of_ble_eq_true rfl) dL_law_0 (fun q1 H hP hD hS => ?_)
  have hP : va_P (dC, dI) vwCl [(q1, .inr (9, [.int 0, .null, .int 0, .null, .int 0, .int 0, .null, .null, .null]))] H := hP
  have hD : va_D A [(q1, .inr (9, [.int 0, .null, .int 0, .null, .int 0, .int 0, .null, .null, .null]))] := hD
  refine W.widen (k := 1) (n := 9) (by omega) (by omega) ?_
  refine lv_dup hx hb dL_law_3 rfl ?_
  have hPc := hP.sub (ws' := [(q1, .inr (9, [.int 0, .null, .int 0, .null, .int 0, .int 0, .null, .null, .null]))]) [0] rfl
  have hDc := hD.sub (ws' := [(q1, .inr (9, [.int 0, .null, .int 0, .null, .int 0, .int 0, .null, .null, .null]))]) [0] (by decide) rfl
  have hKc := hK.sub (tys' := []) [] rfl
  have hFc := va_free (wc := [(q1, .inr (9, [.int 0, .null, .int 0, .null, .int 0, .int 0, .null, .null, .null]))]) hD hS hA [0] rfl
  refine va_callv (va_runI (As := []) (rest := [.ref q1]) ⟨hx, hb, hml, hown, hts⟩ (c_House_init l dC dI dE q1 H.size) (cwI 0 hts gL_law_X6_init rfl rfl rfl (hts (.initialized RX6) (List.mem_of_getElem? (i := 2) (by decide +kernel))) (hts (.methodLink RL 127 yX6_init) (List.mem_of_getElem? (i := 9) (by decide +kernel))) (hts (.instanceMethod yX6_init) (List.mem_of_getElem? (i := 10) (by decide +kernel))) rfl (by decide +kernel) ⟨Nat.le_of_ble_eq_true rfl, Nat.le_of_ble_eq_true rfl⟩) ⟨fun a U g mk q => ⟨q.1, PB.blind q.2⟩, fun U hU hW => ⟨rfl, PB.call hPc hKc hDc hTb hZ hS hFc hU hW⟩⟩ rfl rfl hl.1 rfl (lv_room (Nat.le_of_ble_eq_true rfl)) dL_law_4 ⟨Nat.le_of_ble_eq_true rfl, Nat.le_of_ble_eq_true rfl⟩) hS (fun q _ h => hFc q h) hFc (fun u t H locs ht hvm hw hB hz1 hk1 hS => ?_)
  obtain ⟨q2, q3, q4, q5, q6, cA7, cA8, hB⟩ := hB
  obtain ⟨hP, hD, hK⟩ := PE.join (wc := [(q1, .inr (9, [.int 0, .null, .int 0, .null, .int 0, .int 0, .null, .null, .null]))]) (wr := []) (w1 := [(q1, .inr (9, [.int 7, .ref q2, .int 0, .ref q3, .int 0, .int 0, .ref q4, .ref q5, .ref q6])), (q2, .inl (cA7, 4, .inr (.inr (.inr (.inr (fun _ => none)))))), (q3, .inl (cA8, 10, .inr (.inr (.inr (.inr (fun _ => none))))))]) (tr := []) (t1 := [(cA7, .object RX0), (cA8, .object RX1)]) hP hD hK [0] [] [] rfl rfl rfl (by decide) (by decide) hk1 hFc ht hvm hB
  have hP : va_P (dC, dI) vwCl [(q1, .inr (9, [.int 7, .ref q2, .int 0, .ref q3, .int 0, .int 0, .ref q4, .ref q5, .ref q6])), (q2, .inl (cA7, 4, .inr (.inr (.inr (.inr (fun _ => none)))))), (q3, .inl (cA8, 10, .inr (.inr (.inr (.inr (fun _ => none))))))] H := hP
  have hD : va_D A [(q1, .inr (9, [.int 7, .ref q2, .int 0, .ref q3, .int 0, .int 0, .ref q4, .ref q5, .ref q6])), (q2, .inl (cA7, 4, .inr (.inr (.inr (.inr (fun _ => none)))))), (q3, .inl (cA8, 10, .inr (.inr (.inr (.inr (fun _ => none))))))] := hD
  have hK : va_K (dC, dI) vwCl [(cA7, .object RX0), (cA8, .object RX1)] s := hK
  refine W.widen (k := 33) (n := 503) (by omega) (by omega) ?_
  refine lv_astore_n (lv' := [(1, .ref q1), (0, .ref b)]) hx hb dL_law_7 rfl hl (by decide) rfl (fun ls hl => ?_)
  refine va_new (ci := 13) (fs := [.int 0, .int 0, .int 0, .null, .null]) (C := RX10) (T := TX10) (N := 5) hx hb hts inlX10 tyX10 tyX10_ok hown (hts (.classLink RL 128 RX10) (List.mem_of_getElem? (i := 3) (by decide +kernel))) (hts (.instantiable RX10 5) (List.mem_of_getElem? (i := 4) (by decide +kernel))) (hts (.initialized RX10) (List.mem_of_getElem? (i := 5) (by decide +kernel))) hK hP hD hS hA rfl (fun j hj => by rcases (show j = 0 ∨ j = 1 ∨ j = 2 ∨ j = 3 ∨ j = 4 by omega) with rfl | rfl | rfl | rfl | rfl <;> rfl) (Nat.le_of_ble_eq_true rfl) (Nat.le_of_ble_eq_true rfl) dL_law_8 (fun q9 H hP hD hS => ?_)
  have hP : va_P (dC, dI) vwCl [(q1, .inr (9, [.int 7, .ref q2, .int 0, .ref q3, .int 0, .int 0, .ref q4, .ref q5, .ref q6])), (q2, .inl (cA7, 4, .inr (.inr (.inr (.inr (fun _ => none)))))), (q3, .inl (cA8, 10, .inr (.inr (.inr (.inr (fun _ => none)))))), (q9, .inr (13, [.int 0, .int 0, .int 0, .null, .null]))] H := hP
  have hD : va_D A [(q1, .inr (9, [.int 7, .ref q2, .int 0, .ref q3, .int 0, .int 0, .ref q4, .ref q5, .ref q6])), (q2, .inl (cA7, 4, .inr (.inr (.inr (.inr (fun _ => none)))))), (q3, .inl (cA8, 10, .inr (.inr (.inr (.inr (fun _ => none)))))), (q9, .inr (13, [.int 0, .int 0, .int 0, .null, .null]))] := hD
  refine W.widen (k := 34) (n := 508) (by omega) (by omega) ?_
  refine lv_dup hx hb dL_law_11 rfl ?_
  have hPc := hP.sub (ws' := [(q9, .inr (13, [.int 0, .int 0, .int 0, .null, .null]))]) [3] rfl
  have hDc := hD.sub (ws' := [(q9, .inr (13, [.int 0, .int 0, .int 0, .null, .null]))]) [3] (by decide) rfl
  have hKc := hK.sub (tys' := []) [] rfl
  have hFc := va_free (wc := [(q9, .inr (13, [.int 0, .int 0, .int 0, .null, .null]))]) hD hS hA [3] rfl
  refine va_callv (va_runI (As := []) (rest := [.ref q9]) ⟨hx, hb, hml, hown, hts⟩ (c_M_init l dC dI dE q9 H.size) (cwI 0 hts gL_law_X10_init rfl rfl rfl (hts (.initialized RX10) (List.mem_of_getElem? (i := 5) (by decide +kernel))) (hts (.methodLink RL 130 yX10_init) (List.mem_of_getElem? (i := 60) (by decide +kernel))) (hts (.instanceMethod yX10_init) (List.mem_of_getElem? (i := 61) (by decide +kernel))) rfl (by decide +kernel) ⟨Nat.le_of_ble_eq_true rfl, Nat.le_of_ble_eq_true rfl⟩) ⟨fun a U g mk q => ⟨q.1, PB.blind q.2⟩, fun U hU hW => ⟨rfl, PB.call hPc hKc hDc hTb hZ hS hFc hU hW⟩⟩ rfl rfl hl.1 rfl (lv_room (Nat.le_of_ble_eq_true rfl)) dL_law_12 ⟨Nat.le_of_ble_eq_true rfl, Nat.le_of_ble_eq_true rfl⟩) hS (fun q _ h => hFc q h) hFc (fun u t H locs ht hvm hw hB hz1 hk1 hS => ?_)
  obtain ⟨q10, q11, hB⟩ := hB
  obtain ⟨hP, hD, hK⟩ := PE.join (wc := [(q9, .inr (13, [.int 0, .int 0, .int 0, .null, .null]))]) (wr := [(q1, .inr (9, [.int 7, .ref q2, .int 0, .ref q3, .int 0, .int 0, .ref q4, .ref q5, .ref q6])), (q2, .inl (cA7, 4, .inr (.inr (.inr (.inr (fun _ => none)))))), (q3, .inl (cA8, 10, .inr (.inr (.inr (.inr (fun _ => none))))))]) (w1 := [(q9, .inr (13, [.int 0, .int 7, .int 0, .ref q10, .ref q11])), (q10, .inr (2, [.int 0, .ref dE, .int 0])), (q11, .inr (2, [.int 0, .ref dE, .int 0]))]) (tr := [(cA7, .object RX0), (cA8, .object RX1)]) (t1 := []) hP hD hK [3] [0, 1, 2] [0, 1] rfl rfl rfl (by decide) (by decide) hk1 hFc ht hvm hB
  have hP : va_P (dC, dI) vwCl [(q1, .inr (9, [.int 7, .ref q2, .int 0, .ref q3, .int 0, .int 0, .ref q4, .ref q5, .ref q6])), (q2, .inl (cA7, 4, .inr (.inr (.inr (.inr (fun _ => none)))))), (q3, .inl (cA8, 10, .inr (.inr (.inr (.inr (fun _ => none)))))), (q9, .inr (13, [.int 0, .int 7, .int 0, .ref q10, .ref q11])), (q10, .inr (2, [.int 0, .ref dE, .int 0])), (q11, .inr (2, [.int 0, .ref dE, .int 0]))] H := hP
  have hD : va_D A [(q1, .inr (9, [.int 7, .ref q2, .int 0, .ref q3, .int 0, .int 0, .ref q4, .ref q5, .ref q6])), (q2, .inl (cA7, 4, .inr (.inr (.inr (.inr (fun _ => none)))))), (q3, .inl (cA8, 10, .inr (.inr (.inr (.inr (fun _ => none)))))), (q9, .inr (13, [.int 0, .int 7, .int 0, .ref q10, .ref q11])), (q10, .inr (2, [.int 0, .ref dE, .int 0])), (q11, .inr (2, [.int 0, .ref dE, .int 0]))] := hD
  have hK : va_K (dC, dI) vwCl [(cA7, .object RX0), (cA8, .object RX1)] s := hK
  refine W.widen (k := 36) (n := 514) (by omega) (by omega) ?_
  refine lv_astore_n (lv' := [(2, .ref q9), (1, .ref q1), (0, .ref b)]) hx hb dL_law_15 rfl hl (by decide) rfl (fun ls hl => ?_)
  refine va_new (ci := 10) (fs := [.long 0, .double FP.dconst0, .null]) (C := RX7) (T := TX7) (N := 3) hx hb hts inlX7 tyX7 tyX7_ok hown (hts (.classLink RL 14 RX7) (List.mem_of_getElem? (i := 6) (by decide +kernel))) (hts (.instantiable RX7 3) (List.mem_of_getElem? (i := 7) (by decide +kernel))) (hts (.initialized RX7) (List.mem_of_getElem? (i := 8) (by decide +kernel))) hK hP hD hS hA rfl (fun j hj => by rcases (show j = 0 ∨ j = 1 ∨ j = 2 by omega) with rfl | rfl | rfl <;> rfl) (Nat.le_of_ble_eq_true rfl) (Nat.le_of_ble_eq_true rfl) dL_law_16 (fun q12 H hP hD hS => ?_)
  have hP : va_P (dC, dI) vwCl [(q1, .inr (9, [.int 7, .ref q2, .int 0, .ref q3, .int 0, .int 0, .ref q4, .ref q5, .ref q6])), (q2, .inl (cA7, 4, .inr (.inr (.inr (.inr (fun _ => none)))))), (q3, .inl (cA8, 10, .inr (.inr (.inr (.inr (fun _ => none)))))), (q9, .inr (13, [.int 0, .int 7, .int 0, .ref q10, .ref q11])), (q10, .inr (2, [.int 0, .ref dE, .int 0])), (q11, .inr (2, [.int 0, .ref dE, .int 0])), (q12, .inr (10, [.long 0, .double FP.dconst0, .null]))] H := hP
  have hD : va_D A [(q1, .inr (9, [.int 7, .ref q2, .int 0, .ref q3, .int 0, .int 0, .ref q4, .ref q5, .ref q6])), (q2, .inl (cA7, 4, .inr (.inr (.inr (.inr (fun _ => none)))))), (q3, .inl (cA8, 10, .inr (.inr (.inr (.inr (fun _ => none)))))), (q9, .inr (13, [.int 0, .int 7, .int 0, .ref q10, .ref q11])), (q10, .inr (2, [.int 0, .ref dE, .int 0])), (q11, .inr (2, [.int 0, .ref dE, .int 0])), (q12, .inr (10, [.long 0, .double FP.dconst0, .null]))] := hD
  refine W.widen (k := 37) (n := 517) (by omega) (by omega) ?_
  refine lv_dup hx hb dL_law_19 rfl ?_
  have hPc := hP.sub (ws' := [(q12, .inr (10, [.long 0, .double FP.dconst0, .null]))]) [6] rfl
  have hDc := hD.sub (ws' := [(q12, .inr (10, [.long 0, .double FP.dconst0, .null]))]) [6] (by decide) rfl
  have hKc := hK.sub (tys' := []) [] rfl
  have hFc := va_free (wc := [(q12, .inr (10, [.long 0, .double FP.dconst0, .null]))]) hD hS hA [6] rfl
  refine va_callv (va_runIN (As := []) (rest := [.ref q12]) ⟨hx, hb, hml, hown, hts⟩ (c_Out_init l dC dI dE q12 H.size) ⟨va_cnB 0 hts gL_law_X7_init_n131 rfl rfl rfl (Tb_n6 hTb) (hts (.initialized RX7) (List.mem_of_getElem? (i := 8) (by decide +kernel))) ⟨by decide, by decide, by decide +kernel⟩ ⟨Nat.le_of_ble_eq_true rfl, Nat.le_of_ble_eq_true rfl⟩, rfl, (hts (.instanceMethod yX7_init) (List.mem_of_getElem? (i := 85) (by decide +kernel)))⟩ ⟨fun a U g mk q => ⟨q.1, PB.blind q.2⟩, fun U hU hW => ⟨rfl, PB.call hPc hKc hDc hTb hZ hS hFc hU hW⟩⟩ rfl rfl hl.1 rfl (lv_room (Nat.le_of_ble_eq_true rfl)) dL_law_20 ⟨Nat.le_of_ble_eq_true rfl, Nat.le_of_ble_eq_true rfl⟩) hS (fun q _ h => hFc q h) hFc (fun u t H locs ht hvm hw hB hz1 hk1 hS => ?_)
  obtain ⟨hP, hD, hK⟩ := PE.join (wc := [(q12, .inr (10, [.long 0, .double FP.dconst0, .null]))]) (wr := [(q1, .inr (9, [.int 7, .ref q2, .int 0, .ref q3, .int 0, .int 0, .ref q4, .ref q5, .ref q6])), (q2, .inl (cA7, 4, .inr (.inr (.inr (.inr (fun _ => none)))))), (q3, .inl (cA8, 10, .inr (.inr (.inr (.inr (fun _ => none)))))), (q9, .inr (13, [.int 0, .int 7, .int 0, .ref q10, .ref q11])), (q10, .inr (2, [.int 0, .ref dE, .int 0])), (q11, .inr (2, [.int 0, .ref dE, .int 0]))]) (w1 := [(q12, .inr (10, [.long 0, .double FP.dconst0, .null]))]) (tr := [(cA7, .object RX0), (cA8, .object RX1)]) (t1 := []) hP hD hK [6] [0, 1, 2, 3, 4, 5] [0, 1] rfl rfl rfl (by decide) (by decide) hk1 hFc ht hvm hB
  have hP : va_P (dC, dI) vwCl [(q1, .inr (9, [.int 7, .ref q2, .int 0, .ref q3, .int 0, .int 0, .ref q4, .ref q5, .ref q6])), (q2, .inl (cA7, 4, .inr (.inr (.inr (.inr (fun _ => none)))))), (q3, .inl (cA8, 10, .inr (.inr (.inr (.inr (fun _ => none)))))), (q9, .inr (13, [.int 0, .int 7, .int 0, .ref q10, .ref q11])), (q10, .inr (2, [.int 0, .ref dE, .int 0])), (q11, .inr (2, [.int 0, .ref dE, .int 0])), (q12, .inr (10, [.long 0, .double FP.dconst0, .null]))] H := hP
  have hD : va_D A [(q1, .inr (9, [.int 7, .ref q2, .int 0, .ref q3, .int 0, .int 0, .ref q4, .ref q5, .ref q6])), (q2, .inl (cA7, 4, .inr (.inr (.inr (.inr (fun _ => none)))))), (q3, .inl (cA8, 10, .inr (.inr (.inr (.inr (fun _ => none)))))), (q9, .inr (13, [.int 0, .int 7, .int 0, .ref q10, .ref q11])), (q10, .inr (2, [.int 0, .ref dE, .int 0])), (q11, .inr (2, [.int 0, .ref dE, .int 0])), (q12, .inr (10, [.long 0, .double FP.dconst0, .null]))] := hD
  have hK : va_K (dC, dI) vwCl [(cA7, .object RX0), (cA8, .object RX1)] s := hK
  refine lv_astore_n (lv' := [(3, .ref q12), (2, .ref q9), (1, .ref q1), (0, .ref b)]) hx hb dL_law_23 rfl hl (by decide) rfl (fun ls hl => ?_)
  refine lv_iconst (v := 0) hx hb dL_law_24 (by decide) ?_
  refine lv_istore (lv' := [(4, .int 0), (3, .ref q12), (2, .ref q9), (1, .ref q1), (0, .ref b)]) hx hb dL_law_25 hl (by decide) rfl (fun ls hl => ?_)
  rcases Nat.lt_or_ge L 4 with hL4 | hL4
  · refine lv_iload hx hb dL_law_27 (lv_at hl 0 rfl) ?_
    refine lv_aload_n hx hb dL_law_29 rfl (lv_at hl 4 rfl) ?_
    refine va_slen hx hb hX hbl hbA hS dL_law_30 ?_
    refine lv_iconst (v := 4) hx hb dL_law_31 (by decide) ?_
    refine lv_isub hx hb dL_law_32 ?_
    refine lv_icmp_gt (tgt := 2441) hx hb dL_law_33 (by decide) (fun _ => ?_) (fun c9 => absurd ?_ c9)
    · exact lk_out C0 hA2 hS (Nat.le_of_ble_eq_true rfl) (Nat.le_of_ble_eq_true rfl)
    · rcases (show L = 0 ∨ L = 1 ∨ L = 2 ∨ L = 3 by omega) with rfl | rfl | rfl | rfl <;> decide
  · obtain rfl : L = 4 := by omega
    exact lk_main hst C0 hA hA2 hbA q1 q2 q3 q4 q5 q6 cA7 cA8 q9 q10 q11 q12 hTb hZ (hK.sub [0, 1] rfl) (hP.sub [0, 1, 2, 3, 4, 5, 6] rfl) (hD.sub [0, 1, 2, 3, 4, 5, 6] (by decide) rfl) hS (lv_sub hl [0, 1, 2, 3, 4] rfl)

