theorem dL_law_2421 : decode cL_law 2421 = .ok (.aload_n 1, 1) := by decide +kernel
theorem dL_law_2422 : decode cL_law 2422 = .ok (.invokevirtual 249, 3) := by decide +kernel
theorem dL_law_2425 : decode cL_law 2425 = .ok (.aload_n 2, 1) := by decide +kernel
theorem dL_law_2426 : decode cL_law 2426 = .ok (.invokevirtual 253, 3) := by decide +kernel
theorem dL_law_2429 : decode cL_law 2429 = .ok (.lcmp, 1) := by decide +kernel
theorem dL_law_2430 : decode cL_law 2430 = .ok (.ifCond .eq 5, 3) := by decide +kernel
set_option maxHeartbeats 4000000 in
set_option maxRecDepth 100000 in
/-- lk_33 -/
theorem lk_33 {p : Program} {e : Env} {s : State} {m : MethodId} {below : List Frame} {meth : Method} {c : Code} {l : Launch} (hst : l.stackTraces = false) {b : Nat} {xs : Nat → Int32} (C0 : lw_At p s m meth c b 4 xs) {A : Nat → Prop} (hA : ∀ q : Nat, s.heap.size ≤ q → A q) (hA2 : ∀ q : Nat, A q → s.heap.size ≤ q) (hbA : ¬ A b) {dC : Nat → ClassId} {dI : Nat → Nat → Nat} {dE : Nat} (h0 a1 a2 w1 p1 o1 : Nat) (cA1 cA2 : ClassId) (m0 l1 l2 o0 : Nat) (hTb : Tb s) (hZ : Zq2 dE A s s.heap) {H : Heap} {locs : List Loc} (hK : va_K (dC, dI) vwCl [(cA1, .object RX0), (cA2, .object RX1)] s) (hP : va_P (dC, dI) vwCl [(h0, .inr (9, [.int 7, .ref a1, .int 0, .ref a2, .int 0, .int 0, .ref w1, .ref p1, .ref o1])), (a1, .inl (cA1, 4, .inr (.inr (.inr (.inr (fun _ => none)))))), (a2, .inl (cA2, 10, .inr (.inr (.inr (.inr (fun _ => none)))))), (m0, .inr (13, [.int 0, .int 7, .int 0, .ref l1, .ref l2])), (l1, .inr (2, [.int 0, .ref dE, .int 0])), (l2, .inr (2, [.int 0, .ref dE, .int 0])), (o0, .inr (10, [.long 0, .double FP.dconst0, .null]))] H) (hD : va_D A [(h0, .inr (9, [.int 7, .ref a1, .int 0, .ref a2, .int 0, .int 0, .ref w1, .ref p1, .ref o1])), (a1, .inl (cA1, 4, .inr (.inr (.inr (.inr (fun _ => none)))))), (a2, .inl (cA2, 10, .inr (.inr (.inr (.inr (fun _ => none)))))), (m0, .inr (13, [.int 0, .int 7, .int 0, .ref l1, .ref l2])), (l1, .inr (2, [.int 0, .ref dE, .int 0])), (l2, .inr (2, [.int 0, .ref dE, .int 0])), (o0, .inr (10, [.long 0, .double FP.dconst0, .null]))]) (hS : va_S A s.heap H locs) {ls : Array Slot} (hl : lv_has ls 9 [(4, .int 0), (3, .ref o0), (2, .ref m0), (1, .ref h0), (0, .ref b)]) : W p l e room_1 s m #[Value.ref b] below meth c H locs 37 517 (lw_Z below #[Value.ref b] s) (F0 m 2421 ls []) := by
  obtain ⟨hx, hb, hr, hml, hown, hts0, hX, hbl, hlocks, hgv⟩ := id C0
  have hts : ∀ w ∈ wsL_law, w.before #[Value.ref b] s = true := lw_words hts0
  refine lv_aload_n hx hb dL_law_2421 rfl (lv_at hl 3 rfl) ?_
  have hPc := hP.sub (ws' := [(h0, .inr (9, [.int 7, .ref a1, .int 0, .ref a2, .int 0, .int 0, .ref w1, .ref p1, .ref o1])), (a1, .inl (cA1, 4, .inr (.inr (.inr (.inr (fun _ => none)))))), (a2, .inl (cA2, 10, .inr (.inr (.inr (.inr (fun _ => none))))))]) [0, 1, 2] rfl
  have hDc := hD.sub (ws' := [(h0, .inr (9, [.int 7, .ref a1, .int 0, .ref a2, .int 0, .int 0, .ref w1, .ref p1, .ref o1])), (a1, .inl (cA1, 4, .inr (.inr (.inr (.inr (fun _ => none)))))), (a2, .inl (cA2, 10, .inr (.inr (.inr (.inr (fun _ => none))))))]) [0, 1, 2] (by decide) rfl
  have hKc := hK.sub (tys' := [(cA1, .object RX0), (cA2, .object RX1)]) [0, 1] rfl
  have hFc := va_free (wc := [(h0, .inr (9, [.int 7, .ref a1, .int 0, .ref a2, .int 0, .int 0, .ref w1, .ref p1, .ref o1])), (a1, .inl (cA1, 4, .inr (.inr (.inr (.inr (fun _ => none)))))), (a2, .inl (cA2, 10, .inr (.inr (.inr (.inr (fun _ => none))))))]) hD hS hA [0, 1, 2] rfl
  refine va_calll (va_runV (As := []) (rest := []) ⟨hx, hb, hml, hown, hts⟩ (c_digest l dC dI dE h0 a1 a2 w1 p1 o1 cA1 cA2 H.size) (cwV 0 hts gL_law_X6_digest rfl rfl rfl (by decide +kernel) ⟨Nat.le_of_ble_eq_true rfl, Nat.le_of_ble_eq_true rfl⟩) ⟨fun a U g mk q => ⟨q.1, PB.blind q.2⟩, va_recv hKc hPc (ci := 9) (q0 := 0) rfl rfl, fun U hU hW => ⟨rfl, PB.call hPc hKc hDc hTb hZ hS hFc hU hW⟩⟩ rfl rfl hl.1 rfl (lv_room (Nat.le_of_ble_eq_true rfl)) dL_law_2422 ⟨Nat.le_of_ble_eq_true rfl, Nat.le_of_ble_eq_true rfl⟩) hS (fun q _ h => hFc q h) hFc (fun r u t H locs ht hvm hw hB hz1 hk1 hS => ?_)
  obtain ⟨hP, hD, hK⟩ := PE.join0 (wc := [(h0, .inr (9, [.int 7, .ref a1, .int 0, .ref a2, .int 0, .int 0, .ref w1, .ref p1, .ref o1])), (a1, .inl (cA1, 4, .inr (.inr (.inr (.inr (fun _ => none)))))), (a2, .inl (cA2, 10, .inr (.inr (.inr (.inr (fun _ => none))))))]) (wr := [(m0, .inr (13, [.int 0, .int 7, .int 0, .ref l1, .ref l2])), (l1, .inr (2, [.int 0, .ref dE, .int 0])), (l2, .inr (2, [.int 0, .ref dE, .int 0])), (o0, .inr (10, [.long 0, .double FP.dconst0, .null]))]) (tr := []) hP hD hK [0, 1, 2] [3, 4, 5, 6] [] rfl rfl rfl (by decide) (by decide) hk1 hFc
  have hP : va_P (dC, dI) vwCl [(m0, .inr (13, [.int 0, .int 7, .int 0, .ref l1, .ref l2])), (l1, .inr (2, [.int 0, .ref dE, .int 0])), (l2, .inr (2, [.int 0, .ref dE, .int 0])), (o0, .inr (10, [.long 0, .double FP.dconst0, .null]))] H := hP
  have hD : va_D A [(m0, .inr (13, [.int 0, .int 7, .int 0, .ref l1, .ref l2])), (l1, .inr (2, [.int 0, .ref dE, .int 0])), (l2, .inr (2, [.int 0, .ref dE, .int 0])), (o0, .inr (10, [.long 0, .double FP.dconst0, .null]))] := hD
  have hK : va_K (dC, dI) vwCl [] s := hK
  subst hw
  refine lv_aload_n hx hb dL_law_2425 rfl (lv_at hl 2 rfl) ?_
  have hPc := hP.sub (ws' := [(m0, .inr (13, [.int 0, .int 7, .int 0, .ref l1, .ref l2])), (l1, .inr (2, [.int 0, .ref dE, .int 0])), (l2, .inr (2, [.int 0, .ref dE, .int 0]))]) [0, 1, 2] rfl
  have hDc := hD.sub (ws' := [(m0, .inr (13, [.int 0, .int 7, .int 0, .ref l1, .ref l2])), (l1, .inr (2, [.int 0, .ref dE, .int 0])), (l2, .inr (2, [.int 0, .ref dE, .int 0]))]) [0, 1, 2] (by decide) rfl
  have hKc := hK.sub (tys' := []) [] rfl
  have hFc := va_free (wc := [(m0, .inr (13, [.int 0, .int 7, .int 0, .ref l1, .ref l2])), (l1, .inr (2, [.int 0, .ref dE, .int 0])), (l2, .inr (2, [.int 0, .ref dE, .int 0]))]) hD hS hA [0, 1, 2] rfl
  refine va_calll (va_runV (As := []) (rest := [.long 49669155044712853]) ⟨hx, hb, hml, hown, hts⟩ (c_M_digest l dC dI dE m0 l1 l2 H.size) (cwV 0 hts gL_law_X10_digest rfl rfl rfl (by decide +kernel) ⟨Nat.le_of_ble_eq_true rfl, Nat.le_of_ble_eq_true rfl⟩) ⟨fun a U g mk q => ⟨q.1, PB.blind q.2⟩, va_recv hKc hPc (ci := 13) (q0 := 0) rfl rfl, fun U hU hW => ⟨rfl, PB.call hPc hKc hDc hTb hZ hS hFc hU hW⟩⟩ rfl rfl hl.1 rfl (lv_room (Nat.le_of_ble_eq_true rfl)) dL_law_2426 ⟨Nat.le_of_ble_eq_true rfl, Nat.le_of_ble_eq_true rfl⟩) hS (fun q _ h => hFc q h) hFc (fun r u t H locs ht hvm hw hB hz1 hk1 hS => ?_)
  obtain ⟨hP, hD, hK⟩ := PE.join (wc := [(m0, .inr (13, [.int 0, .int 7, .int 0, .ref l1, .ref l2])), (l1, .inr (2, [.int 0, .ref dE, .int 0])), (l2, .inr (2, [.int 0, .ref dE, .int 0]))]) (wr := [(o0, .inr (10, [.long 0, .double FP.dconst0, .null]))]) (w1 := [(m0, .inr (13, [.int 0, .int 7, .int 0, .ref l1, .ref l2])), (l1, .inr (2, [.int 0, .ref dE, .int 0])), (l2, .inr (2, [.int 0, .ref dE, .int 0]))]) (tr := []) (t1 := []) hP hD hK [0, 1, 2] [3] [] rfl rfl rfl (by decide) (by decide) hk1 hFc ht hvm hB
  have hP : va_P (dC, dI) vwCl [(o0, .inr (10, [.long 0, .double FP.dconst0, .null])), (m0, .inr (13, [.int 0, .int 7, .int 0, .ref l1, .ref l2])), (l1, .inr (2, [.int 0, .ref dE, .int 0])), (l2, .inr (2, [.int 0, .ref dE, .int 0]))] H := hP
  have hD : va_D A [(o0, .inr (10, [.long 0, .double FP.dconst0, .null])), (m0, .inr (13, [.int 0, .int 7, .int 0, .ref l1, .ref l2])), (l1, .inr (2, [.int 0, .ref dE, .int 0])), (l2, .inr (2, [.int 0, .ref dE, .int 0]))] := hD
  have hK : va_K (dC, dI) vwCl [] s := hK
  subst hw
  refine W.widen (k := 45) (n := 581) (by omega) (by omega) ?_
  refine W.lcmp hx hb dL_law_2429 ?_
  refine lv_topi (fun f1 ef1 => ?_)
  obtain rfl : f1 = 0 := ef1.trans (by decide)
  refine lv_if_eq (tgt := 2435) hx hb dL_law_2430 (by decide) (fun _ => ?_) (fun c9 => absurd (by decide) c9)
  exact lk_end C0 hA2 hbA hS (Nat.le_of_ble_eq_true rfl) (Nat.le_of_ble_eq_true rfl) (lv_sub hl [0, 4] rfl)

