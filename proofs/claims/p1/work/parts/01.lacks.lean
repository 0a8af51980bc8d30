/-- a part of what the Statement gives of the start: that the array type below is no Integer -/
theorem sx_part {args : Array Value} {s : State} (h : (Jvm.Cond.and given_1 narrow_1).before args s = true) : (Jvm.Cond.not (Jvm.Cond.castable "[Ljava/lang/StackTraceElement;" "java/lang/Integer")).before args s = true :=
  flat_of_before _ h _ (by decide +kernel)
/-- so a state whose tables don't have that array type is no start of this claim -/
theorem sx_no_start {args : Array Value} {s : State} (hn : s.vm.findClass "[Ljava/lang/StackTraceElement;" = none) : (Jvm.Cond.and given_1 narrow_1).before args s = false := by
  cases h : (Jvm.Cond.and given_1 narrow_1).before args s with
  | false => rfl
  | true =>
    have h1 := sx_part h
    simp [Cond.before, Cond.holds, Cond.value, hn] at h1
