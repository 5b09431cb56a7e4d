theorem dL_law_2441 : decode cL_law 2441 = .ok (.iconst 1, 1) := by decide +kernel
theorem dL_law_2442 : decode cL_law 2442 = .ok (.ireturn, 1) := by decide +kernel
theorem dL_law_2435 : decode cL_law 2435 = .ok (.iinc 4 4, 3) := by decide +kernel
theorem dL_law_2438 : decode cL_law 2438 = .ok (.goto (-2411), 3) := by decide +kernel
theorem dL_law_27 : decode cL_law 27 = .ok (.iload 4, 2) := by decide +kernel
theorem dL_law_29 : decode cL_law 29 = .ok (.aload_n 0, 1) := by decide +kernel
theorem dL_law_30 : decode cL_law 30 = .ok (.arraylength, 1) := by decide +kernel
theorem dL_law_31 : decode cL_law 31 = .ok (.iconst 4, 1) := by decide +kernel
theorem dL_law_32 : decode cL_law 32 = .ok (.isub, 1) := by decide +kernel
theorem dL_law_33 : decode cL_law 33 = .ok (.if_icmp .gt 2408, 3) := by decide +kernel
theorem law_cmp0 : Op.cmpValue (FP.dcmp FP.dconst0 FP.dconst0) CmpOp.l = 0 := by decide +kernel
theorem law_many {x : Int32} (h : ∀ j : Nat, j < 8 → ¬ x = nI j) : x.toInt < 0 ∨ 7 < x.toInt := by
  by_cases c : x < 0
  · exact Or.inl (Int32.lt_iff_toInt_lt.mp c)
  · obtain ⟨j, hj, rfl⟩ := nI_of c
    rcases Nat.lt_or_ge j 8 with q | q
    · exact absurd rfl (h j q)
    · exact Or.inr (by rw [nI_toInt hj]; omega)
theorem law_tab {x : Int32} (h : ¬ ∃ j : Nat, j < 34 ∧ x = nI j) : x.toInt < 0 ∨ 33 < x.toInt := by
  by_cases c : x < 0
  · exact Or.inl (Int32.lt_iff_toInt_lt.mp c)
  · obtain ⟨j, hj, rfl⟩ := nI_of c
    rcases Nat.lt_or_ge j 34 with q | q
    · exact absurd ⟨j, q, rfl⟩ h
    · exact Or.inr (by rw [nI_toInt hj]; omega)
set_option maxHeartbeats 4000000 in
set_option maxRecDepth 100000 in
theorem lk_out {p : Program} {e : Env} {s : State} {m : MethodId} {below : List Frame} {meth : Method} {c : Code} {l : Launch} {b L : Nat} {xs : Nat → Int32} (C0 : lw_At p s m meth c b L xs) {A : Nat → Prop} (hA2 : ∀ q : Nat, A q → s.heap.size ≤ q) {H : Heap} {locs : List Loc} (hS : va_S A s.heap H locs) {k n : Nat} (hk : k ≤ 600002) (hn : n ≤ 7302232) {ls : Array Slot} : W p l e room_1 s m #[Value.ref b] below meth c H locs k n (lw_Z below #[Value.ref b] s) (F0 m 2441 ls []) := by
  obtain ⟨hx, hb, hr, hml, hown, hts0, hX, hbl, hlocks, hgv⟩ := id C0
  refine lv_iconst (v := 1) hx hb dL_law_2441 (by decide) ?_
  refine va_forget (fun q hq => hA2 _ (hS.2.2 q hq)) ?_
  refine W.widen (k := 600002) (n := 7302232) hk hn ?_
  refine W.base ?_
  exact lw_ret (Drawn.sameBut.refl s.drawn lw_cs) hx hb hr hlocks dL_law_2442
set_option maxHeartbeats 4000000 in
set_option maxRecDepth 100000 in
theorem lk_end {p : Program} {e : Env} {s : State} {m : MethodId} {below : List Frame} {meth : Method} {c : Code} {l : Launch} {b : Nat} {xs : Nat → Int32} (C0 : lw_At p s m meth c b 4 xs) {A : Nat → Prop} (hA2 : ∀ q : Nat, A q → s.heap.size ≤ q) (hbA : ¬ A b) {H : Heap} {locs : List Loc} (hS : va_S A s.heap H locs) {k n : Nat} (hk : k ≤ 600002) (hn : n ≤ 7302232) {ls : Array Slot} (hl : lv_has ls 9 [(4, .int 0), (0, .ref b)]) : W p l e room_1 s m #[Value.ref b] below meth c H locs k n (lw_Z below #[Value.ref b] s) (F0 m 2435 ls []) := by
  obtain ⟨hx, hb, hr, hml, hown, hts0, hX, hbl, hlocks, hgv⟩ := id C0
  refine lv_iinc (v := 4) (lv' := [(4, .int 4), (0, .ref b)]) hx hb dL_law_2435 hl (k := 0) rfl (by decide) (by decide) rfl (fun ls hl => ?_)
  refine lv_goto (tgt := 27) hx hb dL_law_2438 (by decide) ?_
  refine lv_iload hx hb dL_law_27 (lv_at hl 0 rfl) ?_
  refine lv_aload_n hx hb dL_law_29 rfl (lv_at hl 1 rfl) ?_
  refine va_slen hx hb hX hbl hbA hS dL_law_30 ?_
  refine lv_iconst (v := 4) hx hb dL_law_31 (by decide) ?_
  refine lv_isub hx hb dL_law_32 ?_
  refine lv_icmp_gt (tgt := 2441) hx hb dL_law_33 (by decide) (fun _ => ?_) (fun c9 => absurd (by decide) c9)
  exact lk_out C0 hA2 hS hk hn

