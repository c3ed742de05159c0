section
theorem zz_l {a b : Jvm.Cond} {v : Array Jvm.Value} {s : Jvm.State} (h : (Jvm.Cond.and a b).before v s = true) : a.before v s = true := by
  rw [Cond.before_and, Bool.and_eq_true] at h
  exact h.1
theorem zz_r {a b : Jvm.Cond} {v : Array Jvm.Value} {s : Jvm.State} (h : (Jvm.Cond.and a b).before v s = true) : b.before v s = true := by
  rw [Cond.before_and, Bool.and_eq_true] at h
  exact h.2
theorem zz_cast {A B : String} {v : Array Jvm.Value} {s : Jvm.State} (h : (Jvm.Cond.not (Jvm.Cond.castable A B)).before v s = true) : s.vm.findClass A ≠ none := by
  intro hn
  simp [Cond.before, Cond.holds, Cond.value, hn] at h
/-! a start at which the printed premise holds has the array class of StackTraceElement among its classes; the printed witness lays none -/
theorem zz_look {v : Array Jvm.Value} {s : Jvm.State} (h : narrow_1_2.before v s = true) : s.vm.findClass "[Ljava/lang/StackTraceElement;" ≠ none :=
  zz_cast (B := "java/lang/Integer") (zz_l (zz_l (zz_l (zz_l (zz_l (zz_r (zz_l (zz_l h))))))))
end
section
theorem i_vc : Claimed_1_1 ∧ Claimed_1_2 := sorry
end
