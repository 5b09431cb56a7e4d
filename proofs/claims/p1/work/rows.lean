section
/-- REPORT T1: where the tables hold no class of this name, the Statement's own premise can't hold (the printed start's tables hold none) -/
theorem tm_missing {args : Array Value} {s : State} (h : s.vm.findClass "[Ljava/lang/StackTraceElement;" = none) : (Jvm.Cond.and given_1 narrow_1).before args s = false := by
  cases hb : (Jvm.Cond.and given_1 narrow_1).before args s with
  | false => rfl
  | true =>
    exfalso
    have hs := flat_of_before _ hb
    have hc : (Cond.not (.castable "[Ljava/lang/StackTraceElement;" "java/lang/String")).before args s = true := hs _ (by decide +kernel)
    obtain ⟨c, t, h1, -, -⟩ := va_Nc.of hc
    rw [h] at h1
    cases h1
theorem i_vc : Claimed_1_1 ∧ Claimed_1_2 := sorry
end
