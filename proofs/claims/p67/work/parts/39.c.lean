/-! PURE: the constructor. -/
theorem init_some : f_X11_init.isSome = true := by decide +kernel
