/-! PURE: the first text is taken: the kernel runs it. -/
theorem first_ok : (f_X1_run 0 0 0 0 0 (-1) 304 MI 0 0 0 0 0 0 (fun _ => 0) 0 (fun _ => 0) 0 (fun _ => 0) 0 (fun _ => 0) 0 (fun _ => 0)).map (fun o => o.1) = some 1 := by decide +kernel
