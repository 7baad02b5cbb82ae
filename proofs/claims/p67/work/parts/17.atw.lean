/-! The words of the throws stand among the tables. -/
theorem at83_all : (vx_atS RX11 83 "java/lang/IllegalStateException" nmX).all (fun w => (decide (w ∈ lw_tbl) && goodWord w) || decide (w ∈ nestW)) = true := by decide +kernel
theorem at83 {b : Cond} : ∀ w ∈ vx_atS RX11 83 "java/lang/IllegalStateException" nmX, (w ∈ b :: Wg ∧ goodWord w = true) ∨ w ∈ nestW := fun w hw => by
  have h := List.all_eq_true.mp at83_all w hw
  rw [Bool.or_eq_true, Bool.and_eq_true, decide_eq_true_eq, decide_eq_true_eq] at h
  exact h.imp (fun h => ⟨mw (wg_of h.1 h.2), h.2⟩) id
theorem at92_all : (vx_atS RX11 92 "java/lang/IllegalArgumentException" nmX).all (fun w => (decide (w ∈ lw_tbl) && goodWord w) || decide (w ∈ nestW)) = true := by decide +kernel
theorem at92 {b : Cond} : ∀ w ∈ vx_atS RX11 92 "java/lang/IllegalArgumentException" nmX, (w ∈ b :: Wg ∧ goodWord w = true) ∨ w ∈ nestW := fun w hw => by
  have h := List.all_eq_true.mp at92_all w hw
  rw [Bool.or_eq_true, Bool.and_eq_true, decide_eq_true_eq, decide_eq_true_eq] at h
  exact h.imp (fun h => ⟨mw (wg_of h.1 h.2), h.2⟩) id
theorem at182_all : (vx_atS RX11 182 "java/lang/IndexOutOfBoundsException" nmX).all (fun w => (decide (w ∈ lw_tbl) && goodWord w) || decide (w ∈ nestW)) = true := by decide +kernel
theorem at182 {b : Cond} : ∀ w ∈ vx_atS RX11 182 "java/lang/IndexOutOfBoundsException" nmX, (w ∈ b :: Wg ∧ goodWord w = true) ∨ w ∈ nestW := fun w hw => by
  have h := List.all_eq_true.mp at182_all w hw
  rw [Bool.or_eq_true, Bool.and_eq_true, decide_eq_true_eq, decide_eq_true_eq] at h
  exact h.imp (fun h => ⟨mw (wg_of h.1 h.2), h.2⟩) id
theorem at296_all : (nseAt RX11 296 "java/util/NoSuchElementException" 13 prog_39_method_4_code "java/lang/RuntimeException" ["java/lang/Exception"]).all (fun w => (decide (w ∈ lw_tbl) && goodWord w) || decide (w ∈ nestW)) = true := by decide +kernel
theorem at296 {b : Cond} : ∀ w ∈ nseAt RX11 296 "java/util/NoSuchElementException" 13 prog_39_method_4_code "java/lang/RuntimeException" ["java/lang/Exception"], (w ∈ b :: Wg ∧ goodWord w = true) ∨ w ∈ nestW := fun w hw => by
  have h := List.all_eq_true.mp at296_all w hw
  rw [Bool.or_eq_true, Bool.and_eq_true, decide_eq_true_eq, decide_eq_true_eq] at h
  exact h.imp (fun h => ⟨mw (wg_of h.1 h.2), h.2⟩) id
theorem nx0 : decode prog_39_method_4_code 0 = .ok (.aload_n 0, 1) := by decide +kernel
theorem nx1 : decode prog_39_method_4_code 1 = .ok (.aload_n 1, 1) := by decide +kernel
theorem nx2 : decode prog_39_method_4_code 2 = .ok (.invokespecial 13, 3) := by decide +kernel
theorem nx5 : decode prog_39_method_4_code 5 = .ok (.return_, 1) := by decide +kernel
