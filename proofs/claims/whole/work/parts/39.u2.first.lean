/-! PURE: the first text is taken: the kernel runs it. -/
def fz : Nat → Int32 := fun _ => 0
theorem first_ok : (f_X1_run 0 0 0 0 0 (-1) 304 MI 0 0 0 0 0 0 fz 0 fz 0 fz 0 fz 0 fz).map (fun o => o.1) = some 1 := by decide +kernel
