theorem dL_law_3425 : decode cL_law 3425 = .ok (.iload 5, 2) := by decide +kernel
theorem dL_law_3427 : decode cL_law 3427 = .ok (.if_icmp .eq 5, 3) := by decide +kernel
theorem dL_law_3430 : decode cL_law 3430 = .ok (.iconst 0, 1) := by decide +kernel
theorem dL_law_3431 : decode cL_law 3431 = .ok (.ireturn, 1) := by decide +kernel
theorem dL_law_3432 : decode cL_law 3432 = .ok (.iload 5, 2) := by decide +kernel
theorem dL_law_3434 : decode cL_law 3434 = .ok (.ifCond .ne 15, 3) := by decide +kernel
theorem dL_law_3437 : decode cL_law 3437 = .ok (.aload_n 3, 1) := by decide +kernel
theorem dL_law_3438 : decode cL_law 3438 = .ok (.iconst 0, 1) := by decide +kernel
theorem dL_law_3439 : decode cL_law 3439 = .ok (.laload, 1) := by decide +kernel
theorem dL_law_3440 : decode cL_law 3440 = .ok (.iload 6, 2) := by decide +kernel
theorem dL_law_3442 : decode cL_law 3442 = .ok (.i2l, 1) := by decide +kernel
theorem dL_law_3443 : decode cL_law 3443 = .ok (.lcmp, 1) := by decide +kernel
theorem dL_law_3444 : decode cL_law 3444 = .ok (.ifCond .eq 5, 3) := by decide +kernel
theorem dL_law_3447 : decode cL_law 3447 = .ok (.iconst 0, 1) := by decide +kernel
theorem dL_law_3448 : decode cL_law 3448 = .ok (.ireturn, 1) := by decide +kernel
theorem dL_law_3449 : decode cL_law 3449 = .ok (.goto 3, 3) := by decide +kernel
theorem dL_law_3452 : decode cL_law 3452 = .ok (.iinc 4 6, 3) := by decide +kernel
theorem dL_law_3455 : decode cL_law 3455 = .ok (.goto (-3432), 3) := by decide +kernel
theorem dL_law_3458 : decode cL_law 3458 = .ok (.iconst 1, 1) := by decide +kernel
theorem dL_law_3459 : decode cL_law 3459 = .ok (.ireturn, 1) := by decide +kernel
