theorem dL_law_36 : decode cL_law 36 = .ok (.aload_n 0, 1) := by decide +kernel
theorem dL_law_37 : decode cL_law 37 = .ok (.iload 4, 2) := by decide +kernel
theorem dL_law_39 : decode cL_law 39 = .ok (.iaload, 1) := by decide +kernel
theorem dL_law_40 : decode cL_law 40 = .ok (.bipush 63, 2) := by decide +kernel
theorem dL_law_42 : decode cL_law 42 = .ok (.iand, 1) := by decide +kernel
theorem dL_law_43 : decode cL_law 43 = .ok (.tableswitch 2392 0 33 #[149, 206, 263, 332, 389, 470, 551, 632, 713, 782, 863, 932, 1001, 1070, 1127, 1184, 1265, 1334, 1391, 1460, 1529, 1598, 1656, 1725, 1806, 1875, 1916, 1992, 2033, 2090, 2159, 2228, 2297, 2378], 149) := by decide +kernel
set_option maxHeartbeats 4000000 in
set_option maxRecDepth 100000 in
/-- lk_main -/
theorem lk_main {p : Program} {e : Env} {s : State} {m : MethodId} {below : List Frame} {meth : Method} {c : Code} {l : Launch} (hst : l.stackTraces = false) {b : Nat} {xs : Nat → Int32} (C0 : lw_At p s m meth c b 4 xs) {A : Nat → Prop} (hA : ∀ q : Nat, s.heap.size ≤ q → A q) (hA2 : ∀ q : Nat, A q → s.heap.size ≤ q) (hbA : ¬ A b) {dC : Nat → ClassId} {dI : Nat → Nat → Nat} {dE : Nat} (h0 a1 a2 w1 p1 o1 : Nat) (cA1 cA2 : ClassId) (m0 l1 l2 o0 : Nat) (hTb : Tb s) (hZ : Zq2 dE A s s.heap) {H : Heap} {locs : List Loc} (hK : va_K (dC, dI) vwCl [(cA1, .object RX0), (cA2, .object RX1)] s) (hP : va_P (dC, dI) vwCl [(h0, .inr (9, [.int 7, .ref a1, .int 0, .ref a2, .int 0, .int 0, .ref w1, .ref p1, .ref o1])), (a1, .inl (cA1, 4, .inr (.inr (.inr (.inr (fun _ => none)))))), (a2, .inl (cA2, 10, .inr (.inr (.inr (.inr (fun _ => none)))))), (m0, .inr (13, [.int 0, .int 7, .int 0, .ref l1, .ref l2])), (l1, .inr (2, [.int 0, .ref dE, .int 0])), (l2, .inr (2, [.int 0, .ref dE, .int 0])), (o0, .inr (10, [.long 0, .double FP.dconst0, .null]))] H) (hD : va_D A [(h0, .inr (9, [.int 7, .ref a1, .int 0, .ref a2, .int 0, .int 0, .ref w1, .ref p1, .ref o1])), (a1, .inl (cA1, 4, .inr (.inr (.inr (.inr (fun _ => none)))))), (a2, .inl (cA2, 10, .inr (.inr (.inr (.inr (fun _ => none)))))), (m0, .inr (13, [.int 0, .int 7, .int 0, .ref l1, .ref l2])), (l1, .inr (2, [.int 0, .ref dE, .int 0])), (l2, .inr (2, [.int 0, .ref dE, .int 0])), (o0, .inr (10, [.long 0, .double FP.dconst0, .null]))]) (hS : va_S A s.heap H locs) {ls : Array Slot} (hl : lv_has ls 9 [(4, .int 0), (3, .ref o0), (2, .ref m0), (1, .ref h0), (0, .ref b)]) : W p l e room_1 s m #[Value.ref b] below meth c H locs 37 517 (lw_Z below #[Value.ref b] s) (F0 m 27 ls []) := by
  obtain ⟨hx, hb, hr, hml, hown, hts0, hX, hbl, hlocks, hgv⟩ := id C0
  have hts : ∀ w ∈ wsL_law, w.before #[Value.ref b] s = true := lw_words hts0
  refine lv_iload hx hb dL_law_27 (lv_at hl 0 rfl) ?_
  refine lv_aload_n hx hb dL_law_29 rfl (lv_at hl 4 rfl) ?_
  refine va_slen hx hb hX hbl hbA hS dL_law_30 ?_
  refine lv_iconst (v := 4) hx hb dL_law_31 (by decide) ?_
  refine lv_isub hx hb dL_law_32 ?_
  refine lv_icmp_gt (tgt := 2441) hx hb dL_law_33 (by decide) (fun c9 => absurd c9 (by decide)) (fun _ => ?_)
  refine lv_aload_n hx hb dL_law_36 rfl (lv_at hl 4 rfl) ?_
  refine lv_iload hx hb dL_law_37 (lv_at hl 0 rfl) ?_
  refine va_sld hx hb hX hbl hbA hS (by unfold vp_in; decide) dL_law_39 ?_
  refine lv_bipush (v := 63) hx hb dL_law_40 (by decide) ?_
  refine lv_iand hx hb dL_law_42 ?_
  refine lv_topi (fun f ef => ?_)
  by_cases hj : ∃ j : Nat, j < 34 ∧ f = nI j
  · obtain ⟨j, hj, ej⟩ := hj
    rcases (show j = 0 ∨ j = 1 ∨ j = 2 ∨ j = 3 ∨ j = 4 ∨ j = 5 ∨ j = 6 ∨ j = 7 ∨ j = 8 ∨ j = 9 ∨ j = 10 ∨ j = 11 ∨ j = 12 ∨ j = 13 ∨ j = 14 ∨ j = 15 ∨ j = 16 ∨ j = 17 ∨ j = 18 ∨ j = 19 ∨ j = 20 ∨ j = 21 ∨ j = 22 ∨ j = 23 ∨ j = 24 ∨ j = 25 ∨ j = 26 ∨ j = 27 ∨ j = 28 ∨ j = 29 ∨ j = 30 ∨ j = 31 ∨ j = 32 ∨ j = 33 by omega) with rfl | rfl | rfl | rfl | rfl | rfl | rfl | rfl | rfl | rfl | rfl | rfl | rfl | rfl | rfl | rfl | rfl | rfl | rfl | rfl | rfl | rfl | rfl | rfl | rfl | rfl | rfl | rfl | rfl | rfl | rfl | rfl | rfl | rfl
    · obtain rfl : f = 0 := ej.trans (by decide +kernel)
      refine lv_tableIn (tgt := 192) hx hb dL_law_43 (by decide) (by decide) rfl (by decide) ?_
      exact lk_0 hst C0 hA hA2 hbA h0 a1 a2 w1 p1 o1 cA1 cA2 m0 l1 l2 o0 hTb hZ hK hP hD hS hl
    · obtain rfl : f = 1 := ej.trans (by decide +kernel)
      refine lv_tableIn (tgt := 249) hx hb dL_law_43 (by decide) (by decide) rfl (by decide) ?_
      exact lk_1 hst C0 hA hA2 hbA h0 a1 a2 w1 p1 o1 cA1 cA2 m0 l1 l2 o0 hTb hZ hK hP hD hS hl
    · obtain rfl : f = 2 := ej.trans (by decide +kernel)
      refine lv_tableIn (tgt := 306) hx hb dL_law_43 (by decide) (by decide) rfl (by decide) ?_
      exact lk_2 hst C0 hA hA2 hbA h0 a1 a2 w1 p1 o1 cA1 cA2 m0 l1 l2 o0 hTb hZ hK hP hD hS hl
    · obtain rfl : f = 3 := ej.trans (by decide +kernel)
      refine lv_tableIn (tgt := 375) hx hb dL_law_43 (by decide) (by decide) rfl (by decide) ?_
      exact lk_3 hst C0 hA hA2 hbA h0 a1 a2 w1 p1 o1 cA1 cA2 m0 l1 l2 o0 hTb hZ hK hP hD hS hl
    · obtain rfl : f = 4 := ej.trans (by decide +kernel)
      refine lv_tableIn (tgt := 432) hx hb dL_law_43 (by decide) (by decide) rfl (by decide) ?_
      exact lk_4 hst C0 hA hA2 hbA h0 a1 a2 w1 p1 o1 cA1 cA2 m0 l1 l2 o0 hTb hZ hK hP hD hS hl
    · obtain rfl : f = 5 := ej.trans (by decide +kernel)
      refine lv_tableIn (tgt := 513) hx hb dL_law_43 (by decide) (by decide) rfl (by decide) ?_
      exact lk_5 hst C0 hA hA2 hbA h0 a1 a2 w1 p1 o1 cA1 cA2 m0 l1 l2 o0 hTb hZ hK hP hD hS hl
    · obtain rfl : f = 6 := ej.trans (by decide +kernel)
      refine lv_tableIn (tgt := 594) hx hb dL_law_43 (by decide) (by decide) rfl (by decide) ?_
      exact lk_6 hst C0 hA hA2 hbA h0 a1 a2 w1 p1 o1 cA1 cA2 m0 l1 l2 o0 hTb hZ hK hP hD hS hl
    · obtain rfl : f = 7 := ej.trans (by decide +kernel)
      refine lv_tableIn (tgt := 675) hx hb dL_law_43 (by decide) (by decide) rfl (by decide) ?_
      exact lk_7 hst C0 hA hA2 hbA h0 a1 a2 w1 p1 o1 cA1 cA2 m0 l1 l2 o0 hTb hZ hK hP hD hS hl
    · obtain rfl : f = 8 := ej.trans (by decide +kernel)
      refine lv_tableIn (tgt := 756) hx hb dL_law_43 (by decide) (by decide) rfl (by decide) ?_
      exact lk_8 hst C0 hA hA2 hbA h0 a1 a2 w1 p1 o1 cA1 cA2 m0 l1 l2 o0 hTb hZ hK hP hD hS hl
    · obtain rfl : f = 9 := ej.trans (by decide +kernel)
      refine lv_tableIn (tgt := 825) hx hb dL_law_43 (by decide) (by decide) rfl (by decide) ?_
      exact lk_9 hst C0 hA hA2 hbA h0 a1 a2 w1 p1 o1 cA1 cA2 m0 l1 l2 o0 hTb hZ hK hP hD hS hl
    · obtain rfl : f = 10 := ej.trans (by decide +kernel)
      refine lv_tableIn (tgt := 906) hx hb dL_law_43 (by decide) (by decide) rfl (by decide) ?_
      exact lk_10 hst C0 hA hA2 hbA h0 a1 a2 w1 p1 o1 cA1 cA2 m0 l1 l2 o0 hTb hZ hK hP hD hS hl
    · obtain rfl : f = 11 := ej.trans (by decide +kernel)
      refine lv_tableIn (tgt := 975) hx hb dL_law_43 (by decide) (by decide) rfl (by decide) ?_
      exact lk_11 hst C0 hA hA2 hbA h0 a1 a2 w1 p1 o1 cA1 cA2 m0 l1 l2 o0 hTb hZ hK hP hD hS hl
    · obtain rfl : f = 12 := ej.trans (by decide +kernel)
      refine lv_tableIn (tgt := 1044) hx hb dL_law_43 (by decide) (by decide) rfl (by decide) ?_
      exact lk_12 hst C0 hA hA2 hbA h0 a1 a2 w1 p1 o1 cA1 cA2 m0 l1 l2 o0 hTb hZ hK hP hD hS hl
    · obtain rfl : f = 13 := ej.trans (by decide +kernel)
      refine lv_tableIn (tgt := 1113) hx hb dL_law_43 (by decide) (by decide) rfl (by decide) ?_
      exact lk_13 hst C0 hA hA2 hbA h0 a1 a2 w1 p1 o1 cA1 cA2 m0 l1 l2 o0 hTb hZ hK hP hD hS hl
    · obtain rfl : f = 14 := ej.trans (by decide +kernel)
      refine lv_tableIn (tgt := 1170) hx hb dL_law_43 (by decide) (by decide) rfl (by decide) ?_
      exact lk_14 hst C0 hA hA2 hbA h0 a1 a2 w1 p1 o1 cA1 cA2 m0 l1 l2 o0 hTb hZ hK hP hD hS hl
    · obtain rfl : f = 15 := ej.trans (by decide +kernel)
      refine lv_tableIn (tgt := 1227) hx hb dL_law_43 (by decide) (by decide) rfl (by decide) ?_
      exact lk_15 hst C0 hA hA2 hbA h0 a1 a2 w1 p1 o1 cA1 cA2 m0 l1 l2 o0 hTb hZ hK hP hD hS hl
    · obtain rfl : f = 16 := ej.trans (by decide +kernel)
      refine lv_tableIn (tgt := 1308) hx hb dL_law_43 (by decide) (by decide) rfl (by decide) ?_
      exact lk_16 hst C0 hA hA2 hbA h0 a1 a2 w1 p1 o1 cA1 cA2 m0 l1 l2 o0 hTb hZ hK hP hD hS hl
    · obtain rfl : f = 17 := ej.trans (by decide +kernel)
      refine lv_tableIn (tgt := 1377) hx hb dL_law_43 (by decide) (by decide) rfl (by decide) ?_
      exact lk_17 hst C0 hA hA2 hbA h0 a1 a2 w1 p1 o1 cA1 cA2 m0 l1 l2 o0 hTb hZ hK hP hD hS hl
    · obtain rfl : f = 18 := ej.trans (by decide +kernel)
      refine lv_tableIn (tgt := 1434) hx hb dL_law_43 (by decide) (by decide) rfl (by decide) ?_
      exact lk_18 hst C0 hA hA2 hbA h0 a1 a2 w1 p1 o1 cA1 cA2 m0 l1 l2 o0 hTb hZ hK hP hD hS hl
    · obtain rfl : f = 19 := ej.trans (by decide +kernel)
      refine lv_tableIn (tgt := 1503) hx hb dL_law_43 (by decide) (by decide) rfl (by decide) ?_
      exact lk_19 hst C0 hA hA2 hbA h0 a1 a2 w1 p1 o1 cA1 cA2 m0 l1 l2 o0 hTb hZ hK hP hD hS hl
    · obtain rfl : f = 20 := ej.trans (by decide +kernel)
      refine lv_tableIn (tgt := 1572) hx hb dL_law_43 (by decide) (by decide) rfl (by decide) ?_
      exact lk_20 hst C0 hA hA2 hbA h0 a1 a2 w1 p1 o1 cA1 cA2 m0 l1 l2 o0 hTb hZ hK hP hD hS hl
    · obtain rfl : f = 21 := ej.trans (by decide +kernel)
      refine lv_tableIn (tgt := 1641) hx hb dL_law_43 (by decide) (by decide) rfl (by decide) ?_
      exact lk_21 hst C0 hA hA2 hbA h0 a1 a2 w1 p1 o1 cA1 cA2 m0 l1 l2 o0 hTb hZ hK hP hD hS hl
    · obtain rfl : f = 22 := ej.trans (by decide +kernel)
      refine lv_tableIn (tgt := 1699) hx hb dL_law_43 (by decide) (by decide) rfl (by decide) ?_
      exact lk_22 hst C0 hA hA2 hbA h0 a1 a2 w1 p1 o1 cA1 cA2 m0 l1 l2 o0 hTb hZ hK hP hD hS hl
    · obtain rfl : f = 23 := ej.trans (by decide +kernel)
      refine lv_tableIn (tgt := 1768) hx hb dL_law_43 (by decide) (by decide) rfl (by decide) ?_
      exact lk_23 hst C0 hA hA2 hbA h0 a1 a2 w1 p1 o1 cA1 cA2 m0 l1 l2 o0 hTb hZ hK hP hD hS hl
    · obtain rfl : f = 24 := ej.trans (by decide +kernel)
      refine lv_tableIn (tgt := 1849) hx hb dL_law_43 (by decide) (by decide) rfl (by decide) ?_
      exact lk_24 hst C0 hA hA2 hbA h0 a1 a2 w1 p1 o1 cA1 cA2 m0 l1 l2 o0 hTb hZ hK hP hD hS hl
    · obtain rfl : f = 25 := ej.trans (by decide +kernel)
      refine lv_tableIn (tgt := 1918) hx hb dL_law_43 (by decide) (by decide) rfl (by decide) ?_
      exact lk_25 hst C0 hA hA2 hbA h0 a1 a2 w1 p1 o1 cA1 cA2 m0 l1 l2 o0 hTb hZ hK hP hD hS hl
    · obtain rfl : f = 26 := ej.trans (by decide +kernel)
      refine lv_tableIn (tgt := 1959) hx hb dL_law_43 (by decide) (by decide) rfl (by decide) ?_
      exact lk_26 hst C0 hA hA2 hbA h0 a1 a2 w1 p1 o1 cA1 cA2 m0 l1 l2 o0 hTb hZ hK hP hD hS hl
    · obtain rfl : f = 27 := ej.trans (by decide +kernel)
      refine lv_tableIn (tgt := 2035) hx hb dL_law_43 (by decide) (by decide) rfl (by decide) ?_
      exact lk_27 hst C0 hA hA2 hbA h0 a1 a2 w1 p1 o1 cA1 cA2 m0 l1 l2 o0 hTb hZ hK hP hD hS hl
    · obtain rfl : f = 28 := ej.trans (by decide +kernel)
      refine lv_tableIn (tgt := 2076) hx hb dL_law_43 (by decide) (by decide) rfl (by decide) ?_
      exact lk_28 hst C0 hA hA2 hbA h0 a1 a2 w1 p1 o1 cA1 cA2 m0 l1 l2 o0 hTb hZ hK hP hD hS hl
    · obtain rfl : f = 29 := ej.trans (by decide +kernel)
      refine lv_tableIn (tgt := 2133) hx hb dL_law_43 (by decide) (by decide) rfl (by decide) ?_
      exact lk_29 hst C0 hA hA2 hbA h0 a1 a2 w1 p1 o1 cA1 cA2 m0 l1 l2 o0 hTb hZ hK hP hD hS hl
    · obtain rfl : f = 30 := ej.trans (by decide +kernel)
      refine lv_tableIn (tgt := 2202) hx hb dL_law_43 (by decide) (by decide) rfl (by decide) ?_
      exact lk_30 hst C0 hA hA2 hbA h0 a1 a2 w1 p1 o1 cA1 cA2 m0 l1 l2 o0 hTb hZ hK hP hD hS hl
    · obtain rfl : f = 31 := ej.trans (by decide +kernel)
      refine lv_tableIn (tgt := 2271) hx hb dL_law_43 (by decide) (by decide) rfl (by decide) ?_
      exact lk_31 hst C0 hA hA2 hbA h0 a1 a2 w1 p1 o1 cA1 cA2 m0 l1 l2 o0 hTb hZ hK hP hD hS hl
    · obtain rfl : f = 32 := ej.trans (by decide +kernel)
      refine lv_tableIn (tgt := 2340) hx hb dL_law_43 (by decide) (by decide) rfl (by decide) ?_
      exact lk_32 hst C0 hA hA2 hbA h0 a1 a2 w1 p1 o1 cA1 cA2 m0 l1 l2 o0 hTb hZ hK hP hD hS hl
    · obtain rfl : f = 33 := ej.trans (by decide +kernel)
      refine lv_tableIn (tgt := 2421) hx hb dL_law_43 (by decide) (by decide) rfl (by decide) ?_
      exact lk_33 hst C0 hA hA2 hbA h0 a1 a2 w1 p1 o1 cA1 cA2 m0 l1 l2 o0 hTb hZ hK hP hD hS hl
  · refine lv_tableOut (tgt := 2435) hx hb dL_law_43 (law_tab hj) (by decide) ?_
    exact lk_end C0 hA2 hbA hS (Nat.le_of_ble_eq_true rfl) (Nat.le_of_ble_eq_true rfl) (lv_sub hl [0, 4] rfl)

