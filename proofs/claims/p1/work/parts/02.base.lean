/-! what p1 needs beside the kit: the tables' facts in one word, a contract's world at its start and at its end (my own rows, laid by wip/p1/gen.py) -/
/-- the two statics of Throwable that each new exception reads -/
def Zq2 (dE : Nat) (A : Nat → Prop) (U : State) (H : Heap) : Prop := vx_Zq Bundle.tN "UNASSIGNED_STACK" Bundle.steD A U H ∧ vx_Zq Bundle.tN "SUPPRESSED_SENTINEL" Bundle.listD A U H ∧ va_Z "java/util/ArrayList" "DEFAULTCAPACITY_EMPTY_ELEMENTDATA" "[Ljava/lang/Object;" (.ref dE) A U H ∧ va_T (.object "java/lang/Object") dE 0 (fun _ => .null) A U H
theorem Zq2.at {dE : Nat} {A B : Nat → Prop} {s U : State} {H0 H : Heap} (h : Zq2 dE A s H0) (hk : ∀ a : Nat, a < H0.size → ¬ A a → H[a]? = H0[a]?) (hF : ∀ q, B q → A q) (hv : s.vm.Alike U.vm) : Zq2 dE B U H := ⟨((h.1.kept hk).narrow hF).moved hv, ((h.2.1.kept hk).narrow hF).moved hv, ((h.2.2.1.kept hk).narrow hF).moved hv, ((h.2.2.2.kept hk).narrow hF).moved hv⟩
/-- facts of the tables that no list of words carries -/
def Tb (U : State) : Prop := (va_Nw (.methodLinkNest RX6 36 yX5_init "Versorhall") U) ∧ (va_Nw (.methodLinkNest RX5 11 yX4_init "Versorhall") U) ∧ (va_Nw (.methodLinkNest RX5 23 yX2_init "Versorhall") U) ∧ (va_Nw (.methodLinkNest RX3 21 yX4_init "Versorhall") U) ∧ (va_Nw (.methodLinkNest RX0 40 yX4_init "Versorhall") U) ∧ (va_Nw (.methodLinkNest RL 131 yX7_init "VersorhallLaw") U) ∧ (va_Nw (.fieldLinkNest RL 13 "VersorhallLaw$Out" "n" "J" "VersorhallLaw") U) ∧ (va_AO RX0 U) ∧ (va_AO RX1 U) ∧ (va_AO RX4 U) ∧ (∃ sa : Nat, vk_R RX6 304 "what is 0 to 7" sa U) ∧ (∃ sa : Nat, vk_R RX6 358 "no such ALGEBRA" sa U) ∧ (∃ sa : Nat, vk_R RX6 363 "no such ELEMENT" sa U) ∧ (∃ sa : Nat, vk_R RX6 54 "the PRIME is 3, 5 or 7" sa U) ∧ (∃ sa : Nat, vk_R RX6 64 "no such KIND" sa U) ∧ (∃ sa : Nat, vk_R RX10 211 "" sa U) ∧ (va_Nw (.castable "java/lang/IndexOutOfBoundsException" "java/lang/IndexOutOfBoundsException") U) ∧ (va_Nw (.castable "java/lang/IllegalArgumentException" "java/lang/IllegalArgumentException") U) ∧ (va_Nw (.declares (Bundle.initS "java/lang/RuntimeException")) U) ∧ (va_Nw (.declares (Bundle.initS "java/lang/Exception")) U) ∧ (va_Nw (.declares (Bundle.initS "java/lang/Throwable")) U) ∧ (va_Fw RJx4a65c ⟨"java/util/List", "size", "()I"⟩ yJx4a65c_size_8abf5 U)
theorem Tb_n1 {U : State} (h : Tb U) : va_Nw (.methodLinkNest RX6 36 yX5_init "Versorhall") U := h.1
theorem Tb_n2 {U : State} (h : Tb U) : va_Nw (.methodLinkNest RX5 11 yX4_init "Versorhall") U := h.2.1
theorem Tb_n3 {U : State} (h : Tb U) : va_Nw (.methodLinkNest RX5 23 yX2_init "Versorhall") U := h.2.2.1
theorem Tb_n4 {U : State} (h : Tb U) : va_Nw (.methodLinkNest RX3 21 yX4_init "Versorhall") U := h.2.2.2.1
theorem Tb_n5 {U : State} (h : Tb U) : va_Nw (.methodLinkNest RX0 40 yX4_init "Versorhall") U := h.2.2.2.2.1
theorem Tb_n6 {U : State} (h : Tb U) : va_Nw (.methodLinkNest RL 131 yX7_init "VersorhallLaw") U := h.2.2.2.2.2.1
theorem Tb_f1 {U : State} (h : Tb U) : va_Nw (.fieldLinkNest RL 13 "VersorhallLaw$Out" "n" "J" "VersorhallLaw") U := h.2.2.2.2.2.2.1
theorem Tb_a1 {U : State} (h : Tb U) : va_AO RX0 U := h.2.2.2.2.2.2.2.1
theorem Tb_a2 {U : State} (h : Tb U) : va_AO RX1 U := h.2.2.2.2.2.2.2.2.1
theorem Tb_a3 {U : State} (h : Tb U) : va_AO RX4 U := h.2.2.2.2.2.2.2.2.2.1
theorem Tb_s1 {U : State} (h : Tb U) : ∃ sa : Nat, vk_R RX6 304 "what is 0 to 7" sa U := h.2.2.2.2.2.2.2.2.2.2.1
theorem Tb_s2 {U : State} (h : Tb U) : ∃ sa : Nat, vk_R RX6 358 "no such ALGEBRA" sa U := h.2.2.2.2.2.2.2.2.2.2.2.1
theorem Tb_s3 {U : State} (h : Tb U) : ∃ sa : Nat, vk_R RX6 363 "no such ELEMENT" sa U := h.2.2.2.2.2.2.2.2.2.2.2.2.1
theorem Tb_s4 {U : State} (h : Tb U) : ∃ sa : Nat, vk_R RX6 54 "the PRIME is 3, 5 or 7" sa U := h.2.2.2.2.2.2.2.2.2.2.2.2.2.1
theorem Tb_s5 {U : State} (h : Tb U) : ∃ sa : Nat, vk_R RX6 64 "no such KIND" sa U := h.2.2.2.2.2.2.2.2.2.2.2.2.2.2.1
theorem Tb_s6 {U : State} (h : Tb U) : ∃ sa : Nat, vk_R RX10 211 "" sa U := h.2.2.2.2.2.2.2.2.2.2.2.2.2.2.2.1
theorem Tb_c1 {U : State} (h : Tb U) : va_Nw (.castable "java/lang/IndexOutOfBoundsException" "java/lang/IndexOutOfBoundsException") U := h.2.2.2.2.2.2.2.2.2.2.2.2.2.2.2.2.1
theorem Tb_c2 {U : State} (h : Tb U) : va_Nw (.castable "java/lang/IllegalArgumentException" "java/lang/IllegalArgumentException") U := h.2.2.2.2.2.2.2.2.2.2.2.2.2.2.2.2.2.1
theorem Tb_d1 {U : State} (h : Tb U) : va_Nw (.declares (Bundle.initS "java/lang/RuntimeException")) U := h.2.2.2.2.2.2.2.2.2.2.2.2.2.2.2.2.2.2.1
theorem Tb_d2 {U : State} (h : Tb U) : va_Nw (.declares (Bundle.initS "java/lang/Exception")) U := h.2.2.2.2.2.2.2.2.2.2.2.2.2.2.2.2.2.2.2.1
theorem Tb_d3 {U : State} (h : Tb U) : va_Nw (.declares (Bundle.initS "java/lang/Throwable")) U := h.2.2.2.2.2.2.2.2.2.2.2.2.2.2.2.2.2.2.2.2.1
theorem Tb_w1 {U : State} (h : Tb U) : va_Fw RJx4a65c ⟨"java/util/List", "size", "()I"⟩ yJx4a65c_size_8abf5 U := h.2.2.2.2.2.2.2.2.2.2.2.2.2.2.2.2.2.2.2.2.2
theorem Tb.warm {s U : State} (hW : s.WarmedH U.vm) (h : Tb s) : Tb U := ⟨va_Nw.warmM hW (Tb_n1 h), va_Nw.warmM hW (Tb_n2 h), va_Nw.warmM hW (Tb_n3 h), va_Nw.warmM hW (Tb_n4 h), va_Nw.warmM hW (Tb_n5 h), va_Nw.warmM hW (Tb_n6 h), va_Nw.warmF hW (Tb_f1 h), va_AO.moved hW.alike (Tb_a1 h), va_AO.moved hW.alike (Tb_a2 h), va_AO.moved hW.alike (Tb_a3 h), (let ⟨sa, h9⟩ := (Tb_s1 h); ⟨sa, vk_R.warm hW h9⟩), (let ⟨sa, h9⟩ := (Tb_s2 h); ⟨sa, vk_R.warm hW h9⟩), (let ⟨sa, h9⟩ := (Tb_s3 h); ⟨sa, vk_R.warm hW h9⟩), (let ⟨sa, h9⟩ := (Tb_s4 h); ⟨sa, vk_R.warm hW h9⟩), (let ⟨sa, h9⟩ := (Tb_s5 h); ⟨sa, vk_R.warm hW h9⟩), (let ⟨sa, h9⟩ := (Tb_s6 h); ⟨sa, vk_R.warm hW h9⟩), va_Nw.warmC hW (Tb_c1 h), va_Nw.warmC hW (Tb_c2 h), va_Nw.warmD hW (Tb_d1 h), va_Nw.warmD hW (Tb_d2 h), va_Nw.warmD hW (Tb_d3 h), va_Fw.moved (by decide) hW.alike (Tb_w1 h)⟩
/-- a contract's start -/
def PB (dC : Nat → ClassId) (dI : Nat → Nat → Nat) (dE : Nat) (tys : List (ClassId × FieldType)) (ws : va_W) (sz : Nat) : State → Prop := fun U => U.heap.size = sz ∧ va_P (dC, dI) vwCl ws U.heap ∧ va_K (dC, dI) vwCl tys U ∧ va_D (fun _ => True) ws ∧ Tb U ∧ Zq2 dE (va_A ws sz) U U.heap
theorem PB.blind {dC : Nat → ClassId} {dI : Nat → Nat → Nat} {dE : Nat} {tys : List (ClassId × FieldType)} {ws : va_W} {sz : Nat} {a : Array Value} {U : State} {g : JFrame} {mk : MethodId} (h : PB dC dI dE tys ws sz U) : PB dC dI dE tys ws sz (U.calling g mk a) := by
  obtain ⟨h1, h2, h3, h4, h5, h6⟩ := h
  exact ⟨h1, h2, va_K.moved (u := U) (U := U.calling g mk a) (Vm.Alike.refl U.vm) h3, h4, Tb.warm (s := U) (U := U.calling g mk a) (State.WarmedH.refl U) h5, Zq2.at (U := U.calling g mk a) h6 (fun _ _ _ => rfl) (fun _ h => h) (Vm.Alike.refl U.vm)⟩
theorem PB.call {dC : Nat → ClassId} {dI : Nat → Nat → Nat} {dE : Nat} {tys : List (ClassId × FieldType)} {ws : va_W} {s U : State} {A : Nat → Prop} {H : Heap} {locs : List Loc} (hP : va_P (dC, dI) vwCl ws H) (hK : va_K (dC, dI) vwCl tys s) (hD : va_D A ws) (hT : Tb s) (hZ : Zq2 dE A s s.heap) (hS : va_S A s.heap H locs) (hF : ∀ q, va_A ws H.size q → A q) (hU : U.heap = H) (hW : s.WarmedH U.vm) : PB dC dI dE tys ws H.size U := by
  refine ⟨by rw [hU], by rw [hU]; exact hP, va_K.moved hW.alike hK, hD.weaken (fun _ _ _ _ => trivial), Tb.warm hW hT, ?_⟩
  rw [hU]; exact hZ.at hS.2.1 hF hW.alike
/-- a contract's end -/
def PE (dC : Nat → ClassId) (dI : Nat → Nat → Nat) (tys : List (ClassId × FieldType)) (ws : va_W) (A : Nat → Prop) (t : State) : Prop := va_P (dC, dI) vwCl ws t.heap ∧ va_K (dC, dI) vwCl tys t ∧ va_D A ws
theorem PE.mk {dC : Nat → ClassId} {dI : Nat → Nat → Nat} {tys : List (ClassId × FieldType)} {ws : va_W} {A : Nat → Prop} {s t : State} {H : Heap} (hP : va_P (dC, dI) vwCl ws H) (hK : va_K (dC, dI) vwCl tys s) (hD : va_D A ws) (ht : t.heap = H) (hW : s.WarmedH t.vm) : PE dC dI tys ws A t := ⟨by rw [ht]; exact hP, va_K.moved hW.alike hK, hD⟩
theorem PE.join {dC : Nat → ClassId} {dI : Nat → Nat → Nat} {tys tr t1 : List (ClassId × FieldType)} {ws wc wr w1 : va_W} {A0 : Nat → Prop} {s t : State} {H H1 : Heap} (hP : va_P (dC, dI) vwCl ws H) (hD : va_D A0 ws) (hK : va_K (dC, dI) vwCl tys s) (isC isR isT : List Nat) (hC : isC.map (fun i => ws[i]?) = wc.map some) (hR : isR.map (fun i => ws[i]?) = wr.map some) (hT : isT.filterMap (fun i => tys[i]?) = tr) (hn : va_nd isR = true) (hdis : ∀ i ∈ isR, i ∉ isC)
    (hk : ∀ q : Nat, q < H.size → ¬ va_A wc H.size q → H1[q]? = H[q]?) (hF : ∀ q, va_A wc H.size q → A0 q) (ht : t.heap = H1) (hvm : s.vm.Alike t.vm) (hB : PE dC dI t1 w1 (va_A wc H.size) t) : va_P (dC, dI) vwCl (wr ++ w1) H1 ∧ va_D A0 (wr ++ w1) ∧ va_K (dC, dI) vwCl (tr ++ t1) s := by
  obtain ⟨hP1, hK1, hD1⟩ := hB
  rw [ht] at hP1
  obtain ⟨a, b⟩ := va_join hP hD isC isR hC hR hn hdis hk hF hP1 hD1
  exact ⟨a, b, (hK.sub isT hT).app (va_K.moved hvm.symm hK1)⟩
theorem PE.join0 {dC : Nat → ClassId} {dI : Nat → Nat → Nat} {tys tr : List (ClassId × FieldType)} {ws wc wr : va_W} {A0 : Nat → Prop} {s : State} {H H1 : Heap} (hP : va_P (dC, dI) vwCl ws H) (hD : va_D A0 ws) (hK : va_K (dC, dI) vwCl tys s) (isC isR isT : List Nat) (hC : isC.map (fun i => ws[i]?) = wc.map some) (hR : isR.map (fun i => ws[i]?) = wr.map some) (hT : isT.filterMap (fun i => tys[i]?) = tr) (hn : va_nd isR = true) (hdis : ∀ i ∈ isR, i ∉ isC)
    (hk : ∀ q : Nat, q < H.size → ¬ va_A wc H.size q → H1[q]? = H[q]?) (hF : ∀ q, va_A wc H.size q → A0 q) : va_P (dC, dI) vwCl wr H1 ∧ va_D A0 wr ∧ va_K (dC, dI) vwCl tr s := by
  obtain ⟨a, b⟩ := va_join (w1 := []) hP hD isC isR hC hR hn hdis hk hF (fun k q h => by simp at h) ⟨fun i j p q h => by simp at h, fun k q h => by simp at h⟩
  rw [List.append_nil] at a b
  exact ⟨a, b, hK.sub isT hT⟩
theorem no_m1 {i : Int32} (h : ¬ i < 0) : ¬ i ≤ (-1) := by
  obtain ⟨j, hj, rfl⟩ := nI_of h
  exact fun z => absurd (Int32.le_iff_toInt_le.mp z) (by rw [nI_toInt hj, show ((-1 : Int32)).toInt = -1 by decide]; omega)
theorem lt_of_nle {i j : Int32} (h : ¬ i ≤ j) : j < i := Int32.not_le.mp h
theorem in_no1 {i : Int32} (h : ¬ i < 0) (h0 : ¬ i = 0) (h1 : ¬ i = 1) : (1 : Int32) < i := by
  obtain ⟨j, hj, rfl⟩ := nI_of h
  rcases j with _ | _ | j
  · exact absurd rfl h0
  · exact absurd rfl h1
  · exact nI_lt (a := 1) (by omega) hj
theorem in_no7 {i : Int32} (h : ¬ i < 0) (hm : i.toInt < 0 ∨ 7 < i.toInt) : (7 : Int32) < i := by
  obtain ⟨j, hj, rfl⟩ := nI_of h
  rw [nI_toInt hj] at hm
  exact nI_lt (a := 7) (by omega) hj
theorem in_of10 {i : Int32} (h1 : ¬ i < 0) (h2 : ¬ (10 : Int32) ≤ i) : vp_in i 10 := by
  obtain ⟨j, hj, rfl⟩ := nI_of h1
  refine vp_in_nI ?_ (by omega)
  rcases Nat.lt_or_ge j 10 with q | q
  · exact q
  · exact absurd (nI_le q hj) h2
theorem in_of4 {i : Int32} (h1 : ¬ i < 0) (h2 : ¬ (4 : Int32) ≤ i) : vp_in i 4 := by
  obtain ⟨j, hj, rfl⟩ := nI_of h1
  refine vp_in_nI ?_ (by omega)
  rcases Nat.lt_or_ge j 4 with q | q
  · exact q
  · exact absurd (nI_le q hj) h2

