-- Why M127 falls: where the class of arrays of StackTraceElement isn't found, narrow_1_6 doesn't hold.
theorem aa_left {a b : Jvm.Cond} {args : Array Jvm.Value} {s : Jvm.State} (h : (Jvm.Cond.and a b).before args s = true) : a.before args s = true := by
  rw [Jvm.Cond.before_and, Bool.and_eq_true] at h
  exact h.1
theorem aa_right {a b : Jvm.Cond} {args : Array Jvm.Value} {s : Jvm.State} (h : (Jvm.Cond.and a b).before args s = true) : b.before args s = true := by
  rw [Jvm.Cond.before_and, Bool.and_eq_true] at h
  exact h.2
theorem aa_atom {cls target : String} {args : Array Jvm.Value} {s : Jvm.State} (hf : s.vm.findClass cls = none)
    (h : (Jvm.Cond.not (Jvm.Cond.castable cls target)).before args s = true) : False := by
  have hv : (Jvm.Cond.castable cls target).value args s none s [] = none := by
    unfold Jvm.Cond.value
    rw [hf]
  unfold Jvm.Cond.before Jvm.Cond.holds at h
  unfold Jvm.Cond.value at h
  rw [hv] at h
  exact absurd h (by decide)
theorem aa_narrow_6 {args : Array Jvm.Value} {s : Jvm.State} (hf : s.vm.findClass "[Ljava/lang/StackTraceElement;" = none) : narrow_1_6.before args s = false := by
  cases h : narrow_1_6.before args s with
  | false => rfl
  | true =>
    exact (aa_atom (target := "java/lang/Integer") hf (aa_left (aa_left (aa_left (aa_left (aa_left (aa_left (aa_right (aa_left h))))))))).elim
