/-! what p1 needs beside the kit: the tables' facts in one word, a contract's world at its start and at its end (my own rows, laid by wip/p1/gen.py) -/
/-- the two statics of Throwable that each new exception reads -/
def Zq2 (dE : Nat) (A : Nat → Prop) (U : State) (H : Heap) : Prop := vx_Zq Bundle.tN "UNASSIGNED_STACK" Bundle.steD A U H ∧ vx_Zq Bundle.tN "SUPPRESSED_SENTINEL" Bundle.listD A U H ∧ va_Z "java/util/ArrayList" "DEFAULTCAPACITY_EMPTY_ELEMENTDATA" "[Ljava/lang/Object;" (.ref dE) A U H ∧ va_T (.object "java/lang/Object") dE 0 (fun _ => .null) A U H
theorem Zq2.at {dE : Nat} {A B : Nat → Prop} {s U : State} {H0 H : Heap} (h : Zq2 dE A s H0) (hk : ∀ a : Nat, a < H0.size → ¬ A a → H[a]? = H0[a]?) (hF : ∀ q, B q → A q) (hv : s.vm.Alike U.vm) : Zq2 dE B U H := ⟨((h.1.kept hk).narrow hF).moved hv, ((h.2.1.kept hk).narrow hF).moved hv, ((h.2.2.1.kept hk).narrow hF).moved hv, ((h.2.2.2.kept hk).narrow hF).moved hv⟩
/-- an array over int arrays has been made (anewarray of int[]) -/
def AOI (U : State) : Prop := (Cond.arrayOver (.array .int)).before #[] U = true
theorem AOI.use {A : Array Value} {U : State} (h : AOI U) : (Cond.arrayOver (.array .int)).before A U = true := h
theorem AOI.of {A : Array Value} {U : State} (h : (Cond.arrayOver (.array .int)).before A U = true) : AOI U := h
theorem AOI.moved {u U : State} (hvm : u.vm.Alike U.vm) (h : AOI u) : AOI U := by
  obtain ⟨comp, c, k, h1, h2, h3, h4, h5⟩ := arrayOverA_spec h
  obtain ⟨k', hk', he⟩ := hvm.2.2 _ _ h3
  have hi : (U.vm.classes.findIdx? fun (x : Class) => match x.kind with | .array component _ => component == comp | _ => false) = some c := by
    rw [hvm.findIdx?_eq _ (fun _ => rfl)]; exact h2
  have hkind : k'.kind = .array comp (.array .int) := by rw [he]; exact h4
  have f1 : U.vm.findClass (FieldType.array .int).toString = some comp := by rw [hvm.findClass]; exact h1
  have f2 : U.vm.findClass ("[" ++ (FieldType.array .int).toString) = some c := by rw [hvm.findClass]; exact h5
  unfold AOI Cond.before Cond.holds
  simp only [Cond.value]
  rw [f1, Option.bind_some]
  refine (congrArg (fun o : Option Nat => (o.bind (fun c => (U.vm.classes[c]?).map fun (k : Class) => match k.kind with | .array _ ty => decide (ty = FieldType.array .int) && decide (U.vm.findClass ("[" ++ (FieldType.array .int).toString) = some c) | _ => false) == some true)) hi).trans ?_
  simp [hk', hkind, f2]
section TKI
variable {p : Program} {l : Launch} {e : Env} {R : Room} {s : State} {m : MethodId} {args : Array Value} {below : List Frame} {meth : Method} {c : Code} {H : Heap} {locs : List Loc} {cells slots : Nat} {Q : State → Prop}
variable {pc : Nat} {ls : Array Slot} {rest : List Value} {D : va_G} {cl : List vw_C} {A : Nat → Prop} {a : Nat} {tys : List (ClassId × FieldType)} {ws : va_W} {H0 : Heap}
variable {cc : ByteArray}
/-- a new int[N'][], all places null -/
theorem tk_newqI (hexec : p.tables.exec = Jvm.exec) (hb : c.code = cc) {own : String} {index : Nat} (hown : s.vm.findClass own = some m.cls) (hclink : (Cond.classLink own index "[I").before args s = true) (hover : AOI s) (hK : va_K D cl tys s) (hP : va_P D cl ws H) (hD : va_D A ws) (hS : va_S A H0 H locs) (hA : ∀ q, H0.size ≤ q → A q)
    {n : Int32} {N' : Nat} (hn : ¬ n < 0) (hN : n.toNatClampNeg = N') (hbytes : N' * 4 ≤ 536870912) (hcells : cells + 1 ≤ R.cells) (hslots : slots + N' ≤ R.slots) (hdg : decode cc pc = .ok (.anewarray index, 3))
    (kk : ∀ (q : Nat) (cA : ClassId) (H1 : Heap) (kA : Class) (comp : ClassId), s.vm.classes[cA]? = some kA → kA.kind = .array comp (.array .int) → s.vm.findClass "[I" = some comp → va_K D cl (tys ++ [(cA, .array .int)]) s → va_P D cl (ws ++ [(q, .inl (cA, N', .inr (.inr (.inr (.inr (fun _ => none))))))]) H1 → va_D A (ws ++ [(q, .inl (cA, N', .inr (.inr (.inr (.inr (fun _ => none))))))]) → va_S A H0 H1 locs →
      W p l e R s m args below meth c H1 locs (cells + 1) (slots + N') Q (F0 m (pc + 3) ls (.ref q :: rest))) : W p l e R s m args below meth c H locs cells slots Q (F0 m pc ls (.int n :: rest)) := by
  subst hN
  refine W.anewA (t := .int) hexec hb hown hclink (AOI.use hover) rfl hdg rfl hn hbytes hcells hslots fun cA kA comp f1 f2 f3 f4 => ?_
  generalize hH1 : H.push ({ cls := cA, slots := Array.replicate n.toNatClampNeg .null, vm := .none } : Cell) = H1
  have z1 : H1.size = H.size + 1 := by rw [← hH1, Array.size_push]
  have e1 : H1[H.size]? = some (arrV cA n.toNatClampNeg (fun _ => .null)) := by rw [← hH1, Array.getElem?_push_size, ← arrV_new]
  have o1 : ∀ q : Nat, q < H.size → H1[q]? = H[q]? := fun q hq => by rw [← hH1, Array.getElem?_push, if_neg (Nat.ne_of_lt hq)]
  have hAr : ArrOfT s cA (.array .int) := fun N z => ⟨(fun k h => by cases h), kA, f2, comp, f3⟩
  have hk : ∀ (k : Nat) (x : Nat × va_E), ws[k]? = some x → H1[x.1]? = H[x.1]? := fun k x hx => o1 x.1 ((hP k x hx).lt)
  refine kk H.size cA H1 kA comp f2 f3 f4 ⟨hK.1, fun k x hx => ?_⟩ ((hP.kept hk).app (fun k x hx => ?_)) (hD.push hP rfl (hA _ hS.1)) ⟨Nat.le_trans hS.1 (by omega), fun x h1 h2 => (o1 x (Nat.lt_of_lt_of_le h1 hS.1)).trans (hS.2.1 x h1 h2), hS.2.2⟩
  · by_cases hl : k < tys.length
    · rw [List.getElem?_append_left hl] at hx
      exact hK.2 k x hx
    · rw [List.getElem?_append_right (by omega)] at hx
      have hz : k - tys.length < 1 := (List.getElem?_eq_some_iff.mp hx).1
      rw [show k - tys.length = 0 by omega] at hx
      cases hx
      exact ⟨hAr, f1⟩
  · have hz : k < 1 := (List.getElem?_eq_some_iff.mp hx).1
    rw [show k = 0 by omega] at hx
    cases hx
    show H1[H.size]? = some (vp_cell _ _)
    rw [vp_cell_q]
    exact e1
/-- an int[] put into a place of an int[][] -/
theorem tk_astqI (hexec : p.tables.exec = Jvm.exec) (hb : c.code = cc) (hK : va_K D cl tys s) (hP : va_P D cl ws H) (hD : va_D A ws) (hS : va_S A H0 H locs) (q0 qk t1 : Nat) {cA cB comp : ClassId} {kA : Class} {n v N2 : Nat} {f : Nat → Option Nat} {g2 : Nat → Int32} (ha : ws[q0]? = some (a, .inl (cA, n, .inr (.inr (.inr (.inr f)))))) (hkA : s.vm.classes[cA]? = some kA) (hkind : kA.kind = .array comp (.array .int)) (hcomp : s.vm.findClass "[I" = some comp) (hv : ws[qk]? = some (v, .inl (cB, N2, .inl g2))) (ht : tys[t1]? = some (cB, .int)) {i : Int32} (hin : vp_in i n) (hdg : decode cc pc = .ok (.aastore, 1))
    (kk : ∀ (H1 : Heap) (locs1 : List Loc), va_P D cl (ws.set q0 (a, .inl (cA, n, .inr (.inr (.inr (.inr (va_up f i.toNatClampNeg (some v)))))))) H1 → va_D A (ws.set q0 (a, .inl (cA, n, .inr (.inr (.inr (.inr (va_up f i.toNatClampNeg (some v)))))))) → va_S A H0 H1 locs1 → W p l e R s m args below meth c H1 locs1 cells slots Q (F0 m (pc + 1) ls rest)) : W p l e R s m args below meth c H locs cells slots Q (F0 m pc ls (.ref v :: .int i :: .ref a :: rest)) := by
  have hlt : i.toNatClampNeg < n := Nat.not_le.mp fun q => hin (Or.inr q)
  have h0 : ¬ i < 0 := fun q => hin (Or.inl q)
  have hcB : s.vm.findClass "[I" = some cB := (hK.2 t1 _ ht).2
  cases hcomp.symm.trans hcB
  obtain ⟨kB, hkB, -⟩ := Vm.findClass_spec hcB
  have hvc : H[v]? = some (arrV cB N2 (fun j => .int (g2 j))) := hP qk _ hv
  refine W.aast hexec hb (hP q0 _ ha) (fun q h => by cases h) (fun h => by cases h) hkA hkind rfl hkB ⟨h0, by show _ < (arrV _ _ _).slots.size; rw [arrV_size]; exact hlt⟩ hvc (fun q h => by cases h) hkB (va_asg _ _) rfl rfl hdg fun H1 e z oq => ?_
  refine kk H1 _ (hP.set hD ha ?_ oq) (hD.set ha) (hS.put z oq (hD.2 q0 _ ha))
  show H1[a]? = some (vp_cell _ _)
  rw [e]
  rw [vp_cell_q, vp_cell_q, arrV_store]
  congr 2
  funext q
  by_cases hq : q = i.toNatClampNeg
  · subst hq
    simp [updV, va_up, va_rf]
  · simp [updV, va_up, hq]
end TKI
/-- facts of the tables that no list of words carries -/
def Tb (U : State) : Prop := (va_Nw (.methodLinkNest RX6 36 yX5_init "Versorhall") U) ∧ (va_Nw (.methodLinkNest RX5 11 yX4_init "Versorhall") U) ∧ (va_Nw (.methodLinkNest RX5 23 yX2_init "Versorhall") U) ∧ (va_Nw (.methodLinkNest RX3 21 yX4_init "Versorhall") U) ∧ (va_Nw (.methodLinkNest RX0 40 yX4_init "Versorhall") U) ∧ (va_Nw (.methodLinkNest RL 131 yX7_init "VersorhallLaw") U) ∧ (va_Nw (.fieldLinkNest RL 13 "VersorhallLaw$Out" "n" "J" "VersorhallLaw") U) ∧ (va_AO RX0 U) ∧ (va_AO RX1 U) ∧ (va_AO RX4 U) ∧ (∃ sa : Nat, vk_R RX6 304 "what is 0 to 7" sa U) ∧ (∃ sa : Nat, vk_R RX6 358 "no such ALGEBRA" sa U) ∧ (∃ sa : Nat, vk_R RX6 363 "no such ELEMENT" sa U) ∧ (∃ sa : Nat, vk_R RX6 54 "the PRIME is 3, 5 or 7" sa U) ∧ (∃ sa : Nat, vk_R RX6 64 "no such KIND" sa U) ∧ (∃ sa : Nat, vk_R RX10 211 "" sa U) ∧ (va_Nw (.castable "java/lang/IndexOutOfBoundsException" "java/lang/IndexOutOfBoundsException") U) ∧ (va_Nw (.castable "java/lang/IllegalArgumentException" "java/lang/IllegalArgumentException") U) ∧ (va_Nw (.declares (Bundle.initS "java/lang/RuntimeException")) U) ∧ (va_Nw (.declares (Bundle.initS "java/lang/Exception")) U) ∧ (va_Nw (.declares (Bundle.initS "java/lang/Throwable")) U) ∧ (va_Nw (.castable RX8 "java/lang/Object") U) ∧ (va_AO "java/lang/Object" U) ∧ (AOI U) ∧ (va_Fw RJx4a65c ⟨"java/util/List", "add", "(Ljava/lang/Object;)Z"⟩ yJx4a65c_add_9ea2d U) ∧ (va_Fw RJx4a65c ⟨"java/util/List", "size", "()I"⟩ yJx4a65c_size_8abf5 U)
theorem Tb_n1 {U : State} (h : Tb U) : va_Nw (.methodLinkNest RX6 36 yX5_init "Versorhall") U := h.1
theorem Tb_n2 {U : State} (h : Tb U) : va_Nw (.methodLinkNest RX5 11 yX4_init "Versorhall") U := h.2.1
theorem Tb_n3 {U : State} (h : Tb U) : va_Nw (.methodLinkNest RX5 23 yX2_init "Versorhall") U := h.2.2.1
theorem Tb_n4 {U : State} (h : Tb U) : va_Nw (.methodLinkNest RX3 21 yX4_init "Versorhall") U := h.2.2.2.1
theorem Tb_n5 {U : State} (h : Tb U) : va_Nw (.methodLinkNest RX0 40 yX4_init "Versorhall") U := h.2.2.2.2.1
theorem Tb_n6 {U : State} (h : Tb U) : va_Nw (.methodLinkNest RL 131 yX7_init "VersorhallLaw") U := h.2.2.2.2.2.1
theorem Tb_f1 {U : State} (h : Tb U) : va_Nw (.fieldLinkNest RL 13 "VersorhallLaw$Out" "n" "J" "VersorhallLaw") U := h.2.2.2.2.2.2.1
theorem Tb_a1 {U : State} (h : Tb U) : va_AO RX0 U := h.2.2.2.2.2.2.2.1
theorem Tb_a2 {U : State} (h : Tb U) : va_AO RX1 U := h.2.2.2.2.2.2.2.2.1
theorem Tb_a3 {U : State} (h : Tb U) : va_AO RX4 U := h.2.2.2.2.2.2.2.2.2.1
theorem Tb_s1 {U : State} (h : Tb U) : ∃ sa : Nat, vk_R RX6 304 "what is 0 to 7" sa U := h.2.2.2.2.2.2.2.2.2.2.1
theorem Tb_s2 {U : State} (h : Tb U) : ∃ sa : Nat, vk_R RX6 358 "no such ALGEBRA" sa U := h.2.2.2.2.2.2.2.2.2.2.2.1
theorem Tb_s3 {U : State} (h : Tb U) : ∃ sa : Nat, vk_R RX6 363 "no such ELEMENT" sa U := h.2.2.2.2.2.2.2.2.2.2.2.2.1
theorem Tb_s4 {U : State} (h : Tb U) : ∃ sa : Nat, vk_R RX6 54 "the PRIME is 3, 5 or 7" sa U := h.2.2.2.2.2.2.2.2.2.2.2.2.2.1
theorem Tb_s5 {U : State} (h : Tb U) : ∃ sa : Nat, vk_R RX6 64 "no such KIND" sa U := h.2.2.2.2.2.2.2.2.2.2.2.2.2.2.1
theorem Tb_s6 {U : State} (h : Tb U) : ∃ sa : Nat, vk_R RX10 211 "" sa U := h.2.2.2.2.2.2.2.2.2.2.2.2.2.2.2.1
theorem Tb_c1 {U : State} (h : Tb U) : va_Nw (.castable "java/lang/IndexOutOfBoundsException" "java/lang/IndexOutOfBoundsException") U := h.2.2.2.2.2.2.2.2.2.2.2.2.2.2.2.2.1
theorem Tb_c2 {U : State} (h : Tb U) : va_Nw (.castable "java/lang/IllegalArgumentException" "java/lang/IllegalArgumentException") U := h.2.2.2.2.2.2.2.2.2.2.2.2.2.2.2.2.2.1
theorem Tb_d1 {U : State} (h : Tb U) : va_Nw (.declares (Bundle.initS "java/lang/RuntimeException")) U := h.2.2.2.2.2.2.2.2.2.2.2.2.2.2.2.2.2.2.1
theorem Tb_d2 {U : State} (h : Tb U) : va_Nw (.declares (Bundle.initS "java/lang/Exception")) U := h.2.2.2.2.2.2.2.2.2.2.2.2.2.2.2.2.2.2.2.1
theorem Tb_d3 {U : State} (h : Tb U) : va_Nw (.declares (Bundle.initS "java/lang/Throwable")) U := h.2.2.2.2.2.2.2.2.2.2.2.2.2.2.2.2.2.2.2.2.1
theorem Tb_c3 {U : State} (h : Tb U) : va_Nw (.castable RX8 "java/lang/Object") U := h.2.2.2.2.2.2.2.2.2.2.2.2.2.2.2.2.2.2.2.2.2.1
theorem Tb_a4 {U : State} (h : Tb U) : va_AO "java/lang/Object" U := h.2.2.2.2.2.2.2.2.2.2.2.2.2.2.2.2.2.2.2.2.2.2.1
theorem Tb_a5 {U : State} (h : Tb U) : AOI U := h.2.2.2.2.2.2.2.2.2.2.2.2.2.2.2.2.2.2.2.2.2.2.2.1
theorem Tb_w2 {U : State} (h : Tb U) : va_Fw RJx4a65c ⟨"java/util/List", "add", "(Ljava/lang/Object;)Z"⟩ yJx4a65c_add_9ea2d U := h.2.2.2.2.2.2.2.2.2.2.2.2.2.2.2.2.2.2.2.2.2.2.2.2.1
theorem Tb_w1 {U : State} (h : Tb U) : va_Fw RJx4a65c ⟨"java/util/List", "size", "()I"⟩ yJx4a65c_size_8abf5 U := h.2.2.2.2.2.2.2.2.2.2.2.2.2.2.2.2.2.2.2.2.2.2.2.2.2
theorem Tb.warm {s U : State} (hW : s.WarmedH U.vm) (h : Tb s) : Tb U := ⟨va_Nw.warmM hW (Tb_n1 h), va_Nw.warmM hW (Tb_n2 h), va_Nw.warmM hW (Tb_n3 h), va_Nw.warmM hW (Tb_n4 h), va_Nw.warmM hW (Tb_n5 h), va_Nw.warmM hW (Tb_n6 h), va_Nw.warmF hW (Tb_f1 h), va_AO.moved hW.alike (Tb_a1 h), va_AO.moved hW.alike (Tb_a2 h), va_AO.moved hW.alike (Tb_a3 h), (let ⟨sa, h9⟩ := (Tb_s1 h); ⟨sa, vk_R.warm hW h9⟩), (let ⟨sa, h9⟩ := (Tb_s2 h); ⟨sa, vk_R.warm hW h9⟩), (let ⟨sa, h9⟩ := (Tb_s3 h); ⟨sa, vk_R.warm hW h9⟩), (let ⟨sa, h9⟩ := (Tb_s4 h); ⟨sa, vk_R.warm hW h9⟩), (let ⟨sa, h9⟩ := (Tb_s5 h); ⟨sa, vk_R.warm hW h9⟩), (let ⟨sa, h9⟩ := (Tb_s6 h); ⟨sa, vk_R.warm hW h9⟩), va_Nw.warmC hW (Tb_c1 h), va_Nw.warmC hW (Tb_c2 h), va_Nw.warmD hW (Tb_d1 h), va_Nw.warmD hW (Tb_d2 h), va_Nw.warmD hW (Tb_d3 h), va_Nw.warmC hW (Tb_c3 h), va_AO.moved hW.alike (Tb_a4 h), AOI.moved hW.alike (Tb_a5 h), va_Fw.moved (by decide) hW.alike (Tb_w2 h), va_Fw.moved (by decide) hW.alike (Tb_w1 h)⟩
/-- a contract's start -/
def PB (dC : Nat → ClassId) (dI : Nat → Nat → Nat) (dE : Nat) (tys : List (ClassId × FieldType)) (ws : va_W) (sz : Nat) : State → Prop := fun U => U.heap.size = sz ∧ va_P (dC, dI) vwCl ws U.heap ∧ va_K (dC, dI) vwCl tys U ∧ va_D (fun _ => True) ws ∧ Tb U ∧ Zq2 dE (va_A ws sz) U U.heap
theorem PB.blind {dC : Nat → ClassId} {dI : Nat → Nat → Nat} {dE : Nat} {tys : List (ClassId × FieldType)} {ws : va_W} {sz : Nat} {a : Array Value} {U : State} {g : JFrame} {mk : MethodId} (h : PB dC dI dE tys ws sz U) : PB dC dI dE tys ws sz (U.calling g mk a) := by
  obtain ⟨h1, h2, h3, h4, h5, h6⟩ := h
  exact ⟨h1, h2, va_K.moved (u := U) (U := U.calling g mk a) (Vm.Alike.refl U.vm) h3, h4, Tb.warm (s := U) (U := U.calling g mk a) (State.WarmedH.refl U) h5, Zq2.at (U := U.calling g mk a) h6 (fun _ _ _ => rfl) (fun _ h => h) (Vm.Alike.refl U.vm)⟩
theorem PB.call {dC : Nat → ClassId} {dI : Nat → Nat → Nat} {dE : Nat} {tys : List (ClassId × FieldType)} {ws : va_W} {s U : State} {A : Nat → Prop} {H : Heap} {locs : List Loc} (hP : va_P (dC, dI) vwCl ws H) (hK : va_K (dC, dI) vwCl tys s) (hD : va_D A ws) (hT : Tb s) (hZ : Zq2 dE A s s.heap) (hS : va_S A s.heap H locs) (hF : ∀ q, va_A ws H.size q → A q) (hU : U.heap = H) (hW : s.WarmedH U.vm) : PB dC dI dE tys ws H.size U := by
  refine ⟨by rw [hU], by rw [hU]; exact hP, va_K.moved hW.alike hK, hD.weaken (fun _ _ _ _ => trivial), Tb.warm hW hT, ?_⟩
  rw [hU]; exact hZ.at hS.2.1 hF hW.alike
/-- a contract's end -/
def PE (dC : Nat → ClassId) (dI : Nat → Nat → Nat) (tys : List (ClassId × FieldType)) (ws : va_W) (A : Nat → Prop) (t : State) : Prop := va_P (dC, dI) vwCl ws t.heap ∧ va_K (dC, dI) vwCl tys t ∧ va_D A ws
theorem PE.mk {dC : Nat → ClassId} {dI : Nat → Nat → Nat} {tys : List (ClassId × FieldType)} {ws : va_W} {A : Nat → Prop} {s t : State} {H : Heap} (hP : va_P (dC, dI) vwCl ws H) (hK : va_K (dC, dI) vwCl tys s) (hD : va_D A ws) (ht : t.heap = H) (hW : s.WarmedH t.vm) : PE dC dI tys ws A t := ⟨by rw [ht]; exact hP, va_K.moved hW.alike hK, hD⟩
theorem PE.join {dC : Nat → ClassId} {dI : Nat → Nat → Nat} {tys tr t1 : List (ClassId × FieldType)} {ws wc wr w1 : va_W} {A0 : Nat → Prop} {s t : State} {H H1 : Heap} (hP : va_P (dC, dI) vwCl ws H) (hD : va_D A0 ws) (hK : va_K (dC, dI) vwCl tys s) (isC isR isT : List Nat) (hC : isC.map (fun i => ws[i]?) = wc.map some) (hR : isR.map (fun i => ws[i]?) = wr.map some) (hT : isT.filterMap (fun i => tys[i]?) = tr) (hn : va_nd isR = true) (hdis : ∀ i ∈ isR, i ∉ isC)
    (hk : ∀ q : Nat, q < H.size → ¬ va_A wc H.size q → H1[q]? = H[q]?) (hF : ∀ q, va_A wc H.size q → A0 q) (ht : t.heap = H1) (hvm : s.vm.Alike t.vm) (hB : PE dC dI t1 w1 (va_A wc H.size) t) : va_P (dC, dI) vwCl (wr ++ w1) H1 ∧ va_D A0 (wr ++ w1) ∧ va_K (dC, dI) vwCl (tr ++ t1) s := by
  obtain ⟨hP1, hK1, hD1⟩ := hB
  rw [ht] at hP1
  obtain ⟨a, b⟩ := va_join hP hD isC isR hC hR hn hdis hk hF hP1 hD1
  exact ⟨a, b, (hK.sub isT hT).app (va_K.moved hvm.symm hK1)⟩
theorem PE.join0 {dC : Nat → ClassId} {dI : Nat → Nat → Nat} {tys tr : List (ClassId × FieldType)} {ws wc wr : va_W} {A0 : Nat → Prop} {s : State} {H H1 : Heap} (hP : va_P (dC, dI) vwCl ws H) (hD : va_D A0 ws) (hK : va_K (dC, dI) vwCl tys s) (isC isR isT : List Nat) (hC : isC.map (fun i => ws[i]?) = wc.map some) (hR : isR.map (fun i => ws[i]?) = wr.map some) (hT : isT.filterMap (fun i => tys[i]?) = tr) (hn : va_nd isR = true) (hdis : ∀ i ∈ isR, i ∉ isC)
    (hk : ∀ q : Nat, q < H.size → ¬ va_A wc H.size q → H1[q]? = H[q]?) (hF : ∀ q, va_A wc H.size q → A0 q) : va_P (dC, dI) vwCl wr H1 ∧ va_D A0 wr ∧ va_K (dC, dI) vwCl tr s := by
  obtain ⟨a, b⟩ := va_join (w1 := []) hP hD isC isR hC hR hn hdis hk hF (fun k q h => by simp at h) ⟨fun i j p q h => by simp at h, fun k q h => by simp at h⟩
  rw [List.append_nil] at a b
  exact ⟨a, b, hK.sub isT hT⟩
theorem no_m1 {i : Int32} (h : ¬ i < 0) : ¬ i ≤ (-1) := by
  obtain ⟨j, hj, rfl⟩ := nI_of h
  exact fun z => absurd (Int32.le_iff_toInt_le.mp z) (by rw [nI_toInt hj, show ((-1 : Int32)).toInt = -1 by decide]; omega)
theorem lt_of_nle {i j : Int32} (h : ¬ i ≤ j) : j < i := Int32.not_le.mp h
theorem in_no1 {i : Int32} (h : ¬ i < 0) (h0 : ¬ i = 0) (h1 : ¬ i = 1) : (1 : Int32) < i := by
  obtain ⟨j, hj, rfl⟩ := nI_of h
  rcases j with _ | _ | j
  · exact absurd rfl h0
  · exact absurd rfl h1
  · exact nI_lt (a := 1) (by omega) hj
theorem in_no7 {i : Int32} (h : ¬ i < 0) (hm : i.toInt < 0 ∨ 7 < i.toInt) : (7 : Int32) < i := by
  obtain ⟨j, hj, rfl⟩ := nI_of h
  rw [nI_toInt hj] at hm
  exact nI_lt (a := 7) (by omega) hj
theorem in_of10 {i : Int32} (h1 : ¬ i < 0) (h2 : ¬ (10 : Int32) ≤ i) : vp_in i 10 := by
  obtain ⟨j, hj, rfl⟩ := nI_of h1
  refine vp_in_nI ?_ (by omega)
  rcases Nat.lt_or_ge j 10 with q | q
  · exact q
  · exact absurd (nI_le q hj) h2
theorem in_of4 {i : Int32} (h1 : ¬ i < 0) (h2 : ¬ (4 : Int32) ≤ i) : vp_in i 4 := by
  obtain ⟨j, hj, rfl⟩ := nI_of h1
  refine vp_in_nI ?_ (by omega)
  rcases Nat.lt_or_ge j 4 with q | q
  · exact q
  · exact absurd (nI_le q hj) h2

