def f_X1_take (p_start : Int32) (p_end : Int32) (p_kind : Int32) (p_value : Int32) (p_error : Int32) (p_t_count : Int32) (p_t_cells : Nat → Int32) : Option (Int32 × Int32 × Int32 × Int32 × Int32) :=
  if p_error = 0 then (
    (f_X0_endOfBlanks 600 p_t_count p_t_cells p_end).bind fun o1 =>
    (f_X0_at 600 p_t_count p_t_cells o1).bind fun o2 =>
    if o2 = (-1) then (
      some (p_value, o1, o1, 0, 0))
    else (
      if o2 < 97 then (
        if o2 < 48 then (
          some (p_value, o1, (o1 + 1), 3, o2))
        else (
          if 57 < o2 then (
            some (p_value, o1, (o1 + 1), 3, o2))
          else (
            (f_X0_endOfRun 600 p_t_count p_t_cells o1 48 57).bind fun o3 =>
            (f_X0_numberBetween 600 p_t_count p_t_cells o1 o3).bind fun o4 =>
            some (p_value, o1, o3, 2, o4))))
      else (
        if 122 < o2 then (
          if o2 < 48 then (
            some (p_value, o1, (o1 + 1), 3, o2))
          else (
            if 57 < o2 then (
              some (p_value, o1, (o1 + 1), 3, o2))
            else (
              (f_X0_endOfRun 600 p_t_count p_t_cells o1 48 57).bind fun o5 =>
              (f_X0_numberBetween 600 p_t_count p_t_cells o1 o5).bind fun o6 =>
              some (p_value, o1, o5, 2, o6))))
        else (
          (f_X0_endOfRun 600 p_t_count p_t_cells o1 97 122).bind fun o7 =>
          (f_X0_nameBetween 600 p_t_count p_t_cells o1 o7).bind fun o8 =>
          some (p_value, o1, o7, 1, o8)))))
  else (
    some (p_value, p_start, p_end, p_kind, p_value))
set_option maxRecDepth 100000 in
set_option maxHeartbeats 4000000 in
theorem c_X1_take (l : Launch) {G : (Nat → Prop) → State → Heap → Prop} (hG : vG G) (D : va_G) (c9 : Nat → ClassId) (ad : Nat → Nat) (p_start : Int32) (p_end : Int32) (p_kind : Int32) (p_value : Int32) (p_error : Int32) (p_errorAt : Int32) (p_t_count : Int32) (p_t_cells : Nat → Int32) (p_d_time : Int32) (p_d_tolerance : Int32) (p_d_seed : Int32) (p_d_madeTickets : Int32) (p_d_cheesesOfText : Int32) (p_d_R_rows : Int32) (p_d_R_cells : Nat → Int32) (p_d_U_rows : Int32) (p_d_U_cells : Nat → Int32) (p_d_S_rows : Int32) (p_d_S_cells : Nat → Int32) (p_d_T_rows : Int32) (p_d_T_cells : Nat → Int32) (p_d_E_rows : Int32) (p_d_E_cells : Nat → Int32)  {o : Int32 × Int32 × Int32 × Int32 × Int32} (hf : f_X1_take p_start p_end p_kind p_value p_error p_t_count p_t_cells = some o) : mI l yX1_take (wq yX1_take cX1_take 3 (some .int)) { frames := 2, cells := 0, slots := 0, locals := 64 } G D (tyA c9) [.ref (ad 0)] (wX1 ad c9 p_start p_end p_kind p_value p_error p_errorAt p_t_count p_t_cells p_d_time p_d_tolerance p_d_seed p_d_madeTickets p_d_cheesesOfText p_d_R_rows p_d_R_cells p_d_U_rows p_d_U_cells p_d_S_rows p_d_S_cells p_d_T_rows p_d_T_cells p_d_E_rows p_d_E_cells) [] 0 0 o.1 (wX1 ad c9 o.2.1 o.2.2.1 o.2.2.2.1 o.2.2.2.2 p_error p_errorAt p_t_count p_t_cells p_d_time p_d_tolerance p_d_seed p_d_madeTickets p_d_cheesesOfText p_d_R_rows p_d_R_cells p_d_U_rows p_d_U_cells p_d_S_rows p_d_S_cells p_d_T_rows p_d_T_cells p_d_E_rows p_d_E_cells) := by
  refine mI_of hG (cc := cX1_take) (maxL := 3) (ty := .int) (by decide) rfl (Nat.le_of_ble_eq_true rfl) ?_
  intro p e s m args below meth c A X
  have X : vX p s m args meth c cX1_take 3 (some .int) RX1 (wq yX1_take cX1_take 3 (some .int)) D (tyA c9) G A := X
  refine v_eq (lv2 := [(0, .ref (ad 0))]) rfl rfl rfl rfl ?_
  rw [f_X1_take] at hf
  refine v_aload_n X dX1_take_0 0 rfl rfl 1 rfl ?_
  refine v_get X (C := RX1) (T := TX1) (N := 8) (ci := 3) (v := _) dX1_take_1 (lay_of layc_X1) 0 rfl rfl 5 (by decide) (mw wc_305) rfl rfl 4 rfl ?_
  refine v_istore_n X (lv' := [(1, .int p_value), (0, .ref (ad 0))]) dX1_take_4 rfl (by decide) rfl 5 rfl ?_
  refine v_aload_n X dX1_take_5 1 rfl rfl 6 rfl ?_
  refine v_get X (C := RX1) (T := TX1) (N := 8) (ci := 3) (v := _) dX1_take_6 (lay_of layc_X1) 0 rfl rfl 6 (by decide) (mw wc_306) rfl rfl 9 rfl ?_
  refine v_if_eq X (tgt := 14) dX1_take_9 rfl 12 rfl hf (fun hf => ?_) (fun hf => ?_)
  · refine v_aload_n X dX1_take_14 1 rfl rfl 15 rfl ?_
    refine v_aload_n X dX1_take_15 1 rfl rfl 16 rfl ?_
    refine v_get X (C := RX1) (T := TX1) (N := 8) (ci := 3) (v := _) dX1_take_16 (lay_of layc_X1) 0 rfl rfl 0 (by decide) (mw wc_307) rfl rfl 19 rfl ?_
    refine v_aload_n X dX1_take_19 1 rfl rfl 20 rfl ?_
    refine v_get X (C := RX1) (T := TX1) (N := 8) (ci := 3) (v := _) dX1_take_20 (lay_of layc_X1) 0 rfl rfl 3 (by decide) (mw wc_308) rfl rfl 23 rfl ?_
    obtain ⟨o1, ho1, hf⟩ := bnd hf
    refine v_callVi X (ci := 2) (T := TX0) (C := RX0) (As := [.int p_end]) (rest := [.ref (ad 0)]) (ws' := (wX1 ad c9 p_start p_end p_kind p_value p_error p_errorAt p_t_count p_t_cells p_d_time p_d_tolerance p_d_seed p_d_madeTickets p_d_cheesesOfText p_d_R_rows p_d_R_cells p_d_U_rows p_d_U_cells p_d_S_rows p_d_S_cells p_d_T_rows p_d_T_cells p_d_E_rows p_d_E_cells)) (c_X0_endOfBlanks l hG D c9 (fun k => ad ([1, 2].getD k 0)) 600 p_t_count p_t_cells p_end ho1) 1 (gV wc_309 wc_310 wc_311 wc_7 wc_312) rfl rfl rfl ⟨rfl, pd_X0_endOfBlanks⟩ ⟨Nat.le_of_ble_eq_true rfl, Nat.le_of_ble_eq_true rfl⟩ 1 rfl rfl rfl rfl (Nat.le_of_ble_eq_true rfl) ⟨Nat.zero_le _, Nat.zero_le _⟩ [1, 2] [0, 3, 4, 5, 6, 7, 8, 9, 10, 11, 12, 13] [0, 12, 13, 1, 2, 3, 4, 5, 6, 7, 8, 9, 10, 11] rfl rfl rfl rfl dX1_take_23 26 rfl ?_
    refine v_put X (C := RX1) (T := TX1) (N := 8) (ci := 3) (ty := tyX1 2) (ws' := (wX1 ad c9 o1 p_end p_kind p_value p_error p_errorAt p_t_count p_t_cells p_d_time p_d_tolerance p_d_seed p_d_madeTickets p_d_cheesesOfText p_d_R_rows p_d_R_cells p_d_U_rows p_d_U_cells p_d_S_rows p_d_S_cells p_d_T_rows p_d_T_cells p_d_E_rows p_d_E_cells)) dX1_take_26 (lay_of layc_X1) 0 rfl rfl 2 (by decide) tyX1 tyX1_ok nmX1 (mw wc_313) rfl rfl (tyX1_ok 2 (by decide)) rfl rfl (Nat.le_of_ble_eq_true rfl) rfl 29 rfl ?_
    refine v_aload_n X dX1_take_29 1 rfl rfl 30 rfl ?_
    refine v_get X (C := RX1) (T := TX1) (N := 8) (ci := 3) (v := _) dX1_take_30 (lay_of layc_X1) 0 rfl rfl 0 (by decide) (mw wc_307) rfl rfl 33 rfl ?_
    refine v_aload_n X dX1_take_33 1 rfl rfl 34 rfl ?_
    refine v_get X (C := RX1) (T := TX1) (N := 8) (ci := 3) (v := _) dX1_take_34 (lay_of layc_X1) 0 rfl rfl 2 (by decide) (mw wc_313) rfl rfl 37 rfl ?_
    obtain ⟨o2, ho2, hf⟩ := bnd hf
    refine v_callVi X (ci := 2) (T := TX0) (C := RX0) (As := [.int o1]) (rest := []) (ws' := (wX1 ad c9 o1 p_end p_kind p_value p_error p_errorAt p_t_count p_t_cells p_d_time p_d_tolerance p_d_seed p_d_madeTickets p_d_cheesesOfText p_d_R_rows p_d_R_cells p_d_U_rows p_d_U_cells p_d_S_rows p_d_S_cells p_d_T_rows p_d_T_cells p_d_E_rows p_d_E_cells)) (c_X0_at l hG D c9 (fun k => ad ([1, 2].getD k 0)) 600 p_t_count p_t_cells o1 ho2) 1 (gV wc_314 wc_19 wc_20 wc_7 wc_21) rfl rfl rfl ⟨rfl, pd_X0_at⟩ ⟨Nat.le_of_ble_eq_true rfl, Nat.le_of_ble_eq_true rfl⟩ 1 rfl rfl rfl rfl (Nat.le_of_ble_eq_true rfl) ⟨Nat.zero_le _, Nat.zero_le _⟩ [1, 2] [0, 3, 4, 5, 6, 7, 8, 9, 10, 11, 12, 13] [0, 12, 13, 1, 2, 3, 4, 5, 6, 7, 8, 9, 10, 11] rfl rfl rfl rfl dX1_take_37 40 rfl ?_
    refine v_istore_n X (lv' := [(2, .int o2), (1, .int p_value), (0, .ref (ad 0))]) dX1_take_40 rfl (by decide) rfl 41 rfl ?_
    refine v_iload_n X dX1_take_41 0 rfl rfl 42 rfl ?_
    refine v_iconst X dX1_take_42 ic_m1 43 rfl ?_
    refine v_icmp_ne X (tgt := 67) dX1_take_43 rfl 46 rfl hf (fun hf => ?_) (fun hf => ?_)
    · refine v_iload_n X dX1_take_67 0 rfl rfl 68 rfl ?_
      refine v_bipush X dX1_take_68 bp_97 70 rfl ?_
      refine v_icmp_lt X (tgt := 125) dX1_take_70 rfl 73 rfl hf (fun hf => ?_) (fun hf => ?_)
      · refine v_iload_n X dX1_take_125 0 rfl rfl 126 rfl ?_
        refine v_bipush X dX1_take_126 bp_48 128 rfl ?_
        refine v_icmp_lt X (tgt := 183) dX1_take_128 rfl 131 rfl hf (fun hf => ?_) (fun hf => ?_)
        · refine v_aload_n X dX1_take_183 2 rfl rfl 184 rfl ?_
          refine v_iconst X dX1_take_184 ic_3 185 rfl ?_
          refine v_put X (C := RX1) (T := TX1) (N := 8) (ci := 3) (ty := tyX1 4) (ws' := (wX1 ad c9 o1 p_end 3 p_value p_error p_errorAt p_t_count p_t_cells p_d_time p_d_tolerance p_d_seed p_d_madeTickets p_d_cheesesOfText p_d_R_rows p_d_R_cells p_d_U_rows p_d_U_cells p_d_S_rows p_d_S_cells p_d_T_rows p_d_T_cells p_d_E_rows p_d_E_cells)) dX1_take_185 (lay_of layc_X1) 0 rfl rfl 4 (by decide) tyX1 tyX1_ok nmX1 (mw wc_315) rfl rfl (tyX1_ok 4 (by decide)) rfl rfl (Nat.le_of_ble_eq_true rfl) rfl 188 rfl ?_
          refine v_aload_n X dX1_take_188 2 rfl rfl 189 rfl ?_
          refine v_aload_n X dX1_take_189 2 rfl rfl 190 rfl ?_
          refine v_get X (C := RX1) (T := TX1) (N := 8) (ci := 3) (v := _) dX1_take_190 (lay_of layc_X1) 0 rfl rfl 2 (by decide) (mw wc_313) rfl rfl 193 rfl ?_
          refine v_iconst X dX1_take_193 ic_1 194 rfl ?_
          refine v_iadd X dX1_take_194 195 rfl ?_
          refine v_put X (C := RX1) (T := TX1) (N := 8) (ci := 3) (ty := tyX1 3) (ws' := (wX1 ad c9 o1 (o1 + 1) 3 p_value p_error p_errorAt p_t_count p_t_cells p_d_time p_d_tolerance p_d_seed p_d_madeTickets p_d_cheesesOfText p_d_R_rows p_d_R_cells p_d_U_rows p_d_U_cells p_d_S_rows p_d_S_cells p_d_T_rows p_d_T_cells p_d_E_rows p_d_E_cells)) dX1_take_195 (lay_of layc_X1) 0 rfl rfl 3 (by decide) tyX1 tyX1_ok nmX1 (mw wc_308) rfl rfl (tyX1_ok 3 (by decide)) rfl rfl (Nat.le_of_ble_eq_true rfl) rfl 198 rfl ?_
          refine v_aload_n X dX1_take_198 2 rfl rfl 199 rfl ?_
          refine v_iload_n X dX1_take_199 0 rfl rfl 200 rfl ?_
          refine v_put X (C := RX1) (T := TX1) (N := 8) (ci := 3) (ty := tyX1 5) (ws' := (wX1 ad c9 o1 (o1 + 1) 3 o2 p_error p_errorAt p_t_count p_t_cells p_d_time p_d_tolerance p_d_seed p_d_madeTickets p_d_cheesesOfText p_d_R_rows p_d_R_cells p_d_U_rows p_d_U_cells p_d_S_rows p_d_S_cells p_d_T_rows p_d_T_cells p_d_E_rows p_d_E_cells)) dX1_take_200 (lay_of layc_X1) 0 rfl rfl 5 (by decide) tyX1 tyX1_ok nmX1 (mw wc_305) rfl rfl (tyX1_ok 5 (by decide)) rfl rfl (Nat.le_of_ble_eq_true rfl) rfl 203 rfl ?_
          refine v_iload_n X dX1_take_203 1 rfl rfl 204 rfl ?_
          obtain rfl := Option.some.inj hf
          exact v_iret X (Nat.zero_le _) (Nat.zero_le _) dX1_take_204
        · refine v_iload_n X dX1_take_131 0 rfl rfl 132 rfl ?_
          refine v_bipush X dX1_take_132 bp_57 134 rfl ?_
          refine v_icmp_gt X (tgt := 183) dX1_take_134 rfl 137 rfl hf (fun hf => ?_) (fun hf => ?_)
          · refine v_aload_n X dX1_take_183 2 rfl rfl 184 rfl ?_
            refine v_iconst X dX1_take_184 ic_3 185 rfl ?_
            refine v_put X (C := RX1) (T := TX1) (N := 8) (ci := 3) (ty := tyX1 4) (ws' := (wX1 ad c9 o1 p_end 3 p_value p_error p_errorAt p_t_count p_t_cells p_d_time p_d_tolerance p_d_seed p_d_madeTickets p_d_cheesesOfText p_d_R_rows p_d_R_cells p_d_U_rows p_d_U_cells p_d_S_rows p_d_S_cells p_d_T_rows p_d_T_cells p_d_E_rows p_d_E_cells)) dX1_take_185 (lay_of layc_X1) 0 rfl rfl 4 (by decide) tyX1 tyX1_ok nmX1 (mw wc_315) rfl rfl (tyX1_ok 4 (by decide)) rfl rfl (Nat.le_of_ble_eq_true rfl) rfl 188 rfl ?_
            refine v_aload_n X dX1_take_188 2 rfl rfl 189 rfl ?_
            refine v_aload_n X dX1_take_189 2 rfl rfl 190 rfl ?_
            refine v_get X (C := RX1) (T := TX1) (N := 8) (ci := 3) (v := _) dX1_take_190 (lay_of layc_X1) 0 rfl rfl 2 (by decide) (mw wc_313) rfl rfl 193 rfl ?_
            refine v_iconst X dX1_take_193 ic_1 194 rfl ?_
            refine v_iadd X dX1_take_194 195 rfl ?_
            refine v_put X (C := RX1) (T := TX1) (N := 8) (ci := 3) (ty := tyX1 3) (ws' := (wX1 ad c9 o1 (o1 + 1) 3 p_value p_error p_errorAt p_t_count p_t_cells p_d_time p_d_tolerance p_d_seed p_d_madeTickets p_d_cheesesOfText p_d_R_rows p_d_R_cells p_d_U_rows p_d_U_cells p_d_S_rows p_d_S_cells p_d_T_rows p_d_T_cells p_d_E_rows p_d_E_cells)) dX1_take_195 (lay_of layc_X1) 0 rfl rfl 3 (by decide) tyX1 tyX1_ok nmX1 (mw wc_308) rfl rfl (tyX1_ok 3 (by decide)) rfl rfl (Nat.le_of_ble_eq_true rfl) rfl 198 rfl ?_
            refine v_aload_n X dX1_take_198 2 rfl rfl 199 rfl ?_
            refine v_iload_n X dX1_take_199 0 rfl rfl 200 rfl ?_
            refine v_put X (C := RX1) (T := TX1) (N := 8) (ci := 3) (ty := tyX1 5) (ws' := (wX1 ad c9 o1 (o1 + 1) 3 o2 p_error p_errorAt p_t_count p_t_cells p_d_time p_d_tolerance p_d_seed p_d_madeTickets p_d_cheesesOfText p_d_R_rows p_d_R_cells p_d_U_rows p_d_U_cells p_d_S_rows p_d_S_cells p_d_T_rows p_d_T_cells p_d_E_rows p_d_E_cells)) dX1_take_200 (lay_of layc_X1) 0 rfl rfl 5 (by decide) tyX1 tyX1_ok nmX1 (mw wc_305) rfl rfl (tyX1_ok 5 (by decide)) rfl rfl (Nat.le_of_ble_eq_true rfl) rfl 203 rfl ?_
            refine v_iload_n X dX1_take_203 1 rfl rfl 204 rfl ?_
            obtain rfl := Option.some.inj hf
            exact v_iret X (Nat.zero_le _) (Nat.zero_le _) dX1_take_204
          · refine v_aload_n X dX1_take_137 2 rfl rfl 138 rfl ?_
            refine v_iconst X dX1_take_138 ic_2 139 rfl ?_
            refine v_put X (C := RX1) (T := TX1) (N := 8) (ci := 3) (ty := tyX1 4) (ws' := (wX1 ad c9 o1 p_end 2 p_value p_error p_errorAt p_t_count p_t_cells p_d_time p_d_tolerance p_d_seed p_d_madeTickets p_d_cheesesOfText p_d_R_rows p_d_R_cells p_d_U_rows p_d_U_cells p_d_S_rows p_d_S_cells p_d_T_rows p_d_T_cells p_d_E_rows p_d_E_cells)) dX1_take_139 (lay_of layc_X1) 0 rfl rfl 4 (by decide) tyX1 tyX1_ok nmX1 (mw wc_315) rfl rfl (tyX1_ok 4 (by decide)) rfl rfl (Nat.le_of_ble_eq_true rfl) rfl 142 rfl ?_
            refine v_aload_n X dX1_take_142 2 rfl rfl 143 rfl ?_
            refine v_aload_n X dX1_take_143 2 rfl rfl 144 rfl ?_
            refine v_get X (C := RX1) (T := TX1) (N := 8) (ci := 3) (v := _) dX1_take_144 (lay_of layc_X1) 0 rfl rfl 0 (by decide) (mw wc_307) rfl rfl 147 rfl ?_
            refine v_aload_n X dX1_take_147 2 rfl rfl 148 rfl ?_
            refine v_get X (C := RX1) (T := TX1) (N := 8) (ci := 3) (v := _) dX1_take_148 (lay_of layc_X1) 0 rfl rfl 2 (by decide) (mw wc_313) rfl rfl 151 rfl ?_
            refine v_bipush X dX1_take_151 bp_48 153 rfl ?_
            refine v_bipush X dX1_take_153 bp_57 155 rfl ?_
            obtain ⟨o3, ho3, hf⟩ := bnd hf
            refine v_callVi X (ci := 2) (T := TX0) (C := RX0) (As := [.int o1, .int 48, .int 57]) (rest := [.ref (ad 0)]) (ws' := (wX1 ad c9 o1 p_end 2 p_value p_error p_errorAt p_t_count p_t_cells p_d_time p_d_tolerance p_d_seed p_d_madeTickets p_d_cheesesOfText p_d_R_rows p_d_R_cells p_d_U_rows p_d_U_cells p_d_S_rows p_d_S_cells p_d_T_rows p_d_T_cells p_d_E_rows p_d_E_cells)) (c_X0_endOfRun l hG D c9 (fun k => ad ([1, 2].getD k 0)) 600 p_t_count p_t_cells o1 48 57 ho3) 3 (gV wc_316 wc_317 wc_318 wc_7 wc_319) rfl rfl rfl ⟨rfl, pd_X0_endOfRun⟩ ⟨Nat.le_of_ble_eq_true rfl, Nat.le_of_ble_eq_true rfl⟩ 1 rfl rfl rfl rfl (Nat.le_of_ble_eq_true rfl) ⟨Nat.zero_le _, Nat.zero_le _⟩ [1, 2] [0, 3, 4, 5, 6, 7, 8, 9, 10, 11, 12, 13] [0, 12, 13, 1, 2, 3, 4, 5, 6, 7, 8, 9, 10, 11] rfl rfl rfl rfl dX1_take_155 158 rfl ?_
            refine v_put X (C := RX1) (T := TX1) (N := 8) (ci := 3) (ty := tyX1 3) (ws' := (wX1 ad c9 o1 o3 2 p_value p_error p_errorAt p_t_count p_t_cells p_d_time p_d_tolerance p_d_seed p_d_madeTickets p_d_cheesesOfText p_d_R_rows p_d_R_cells p_d_U_rows p_d_U_cells p_d_S_rows p_d_S_cells p_d_T_rows p_d_T_cells p_d_E_rows p_d_E_cells)) dX1_take_158 (lay_of layc_X1) 0 rfl rfl 3 (by decide) tyX1 tyX1_ok nmX1 (mw wc_308) rfl rfl (tyX1_ok 3 (by decide)) rfl rfl (Nat.le_of_ble_eq_true rfl) rfl 161 rfl ?_
            refine v_aload_n X dX1_take_161 2 rfl rfl 162 rfl ?_
            refine v_aload_n X dX1_take_162 2 rfl rfl 163 rfl ?_
            refine v_get X (C := RX1) (T := TX1) (N := 8) (ci := 3) (v := _) dX1_take_163 (lay_of layc_X1) 0 rfl rfl 0 (by decide) (mw wc_307) rfl rfl 166 rfl ?_
            refine v_aload_n X dX1_take_166 2 rfl rfl 167 rfl ?_
            refine v_get X (C := RX1) (T := TX1) (N := 8) (ci := 3) (v := _) dX1_take_167 (lay_of layc_X1) 0 rfl rfl 2 (by decide) (mw wc_313) rfl rfl 170 rfl ?_
            refine v_aload_n X dX1_take_170 2 rfl rfl 171 rfl ?_
            refine v_get X (C := RX1) (T := TX1) (N := 8) (ci := 3) (v := _) dX1_take_171 (lay_of layc_X1) 0 rfl rfl 3 (by decide) (mw wc_308) rfl rfl 174 rfl ?_
            obtain ⟨o4, ho4, hf⟩ := bnd hf
            refine v_callVi X (ci := 2) (T := TX0) (C := RX0) (As := [.int o1, .int o3]) (rest := [.ref (ad 0)]) (ws' := (wX1 ad c9 o1 o3 2 p_value p_error p_errorAt p_t_count p_t_cells p_d_time p_d_tolerance p_d_seed p_d_madeTickets p_d_cheesesOfText p_d_R_rows p_d_R_cells p_d_U_rows p_d_U_cells p_d_S_rows p_d_S_cells p_d_T_rows p_d_T_cells p_d_E_rows p_d_E_cells)) (c_X0_numberBetween l hG D c9 (fun k => ad ([1, 2].getD k 0)) 600 p_t_count p_t_cells o1 o3 ho4) 2 (gV wc_320 wc_321 wc_322 wc_7 wc_323) rfl rfl rfl ⟨rfl, pd_X0_numberBetween⟩ ⟨Nat.le_of_ble_eq_true rfl, Nat.le_of_ble_eq_true rfl⟩ 1 rfl rfl rfl rfl (Nat.le_of_ble_eq_true rfl) ⟨Nat.zero_le _, Nat.zero_le _⟩ [1, 2] [0, 3, 4, 5, 6, 7, 8, 9, 10, 11, 12, 13] [0, 12, 13, 1, 2, 3, 4, 5, 6, 7, 8, 9, 10, 11] rfl rfl rfl rfl dX1_take_174 177 rfl ?_
            refine v_put X (C := RX1) (T := TX1) (N := 8) (ci := 3) (ty := tyX1 5) (ws' := (wX1 ad c9 o1 o3 2 o4 p_error p_errorAt p_t_count p_t_cells p_d_time p_d_tolerance p_d_seed p_d_madeTickets p_d_cheesesOfText p_d_R_rows p_d_R_cells p_d_U_rows p_d_U_cells p_d_S_rows p_d_S_cells p_d_T_rows p_d_T_cells p_d_E_rows p_d_E_cells)) dX1_take_177 (lay_of layc_X1) 0 rfl rfl 5 (by decide) tyX1 tyX1_ok nmX1 (mw wc_305) rfl rfl (tyX1_ok 5 (by decide)) rfl rfl (Nat.le_of_ble_eq_true rfl) rfl 180 rfl ?_
            refine v_goto X (tgt := 203) dX1_take_180 rfl ?_
            refine v_iload_n X dX1_take_203 1 rfl rfl 204 rfl ?_
            obtain rfl := Option.some.inj hf
            exact v_iret X (Nat.zero_le _) (Nat.zero_le _) dX1_take_204
      · refine v_iload_n X dX1_take_73 0 rfl rfl 74 rfl ?_
        refine v_bipush X dX1_take_74 bp_122 76 rfl ?_
        refine v_icmp_gt X (tgt := 125) dX1_take_76 rfl 79 rfl hf (fun hf => ?_) (fun hf => ?_)
        · refine v_iload_n X dX1_take_125 0 rfl rfl 126 rfl ?_
          refine v_bipush X dX1_take_126 bp_48 128 rfl ?_
          refine v_icmp_lt X (tgt := 183) dX1_take_128 rfl 131 rfl hf (fun hf => ?_) (fun hf => ?_)
          · refine v_aload_n X dX1_take_183 2 rfl rfl 184 rfl ?_
            refine v_iconst X dX1_take_184 ic_3 185 rfl ?_
            refine v_put X (C := RX1) (T := TX1) (N := 8) (ci := 3) (ty := tyX1 4) (ws' := (wX1 ad c9 o1 p_end 3 p_value p_error p_errorAt p_t_count p_t_cells p_d_time p_d_tolerance p_d_seed p_d_madeTickets p_d_cheesesOfText p_d_R_rows p_d_R_cells p_d_U_rows p_d_U_cells p_d_S_rows p_d_S_cells p_d_T_rows p_d_T_cells p_d_E_rows p_d_E_cells)) dX1_take_185 (lay_of layc_X1) 0 rfl rfl 4 (by decide) tyX1 tyX1_ok nmX1 (mw wc_315) rfl rfl (tyX1_ok 4 (by decide)) rfl rfl (Nat.le_of_ble_eq_true rfl) rfl 188 rfl ?_
            refine v_aload_n X dX1_take_188 2 rfl rfl 189 rfl ?_
            refine v_aload_n X dX1_take_189 2 rfl rfl 190 rfl ?_
            refine v_get X (C := RX1) (T := TX1) (N := 8) (ci := 3) (v := _) dX1_take_190 (lay_of layc_X1) 0 rfl rfl 2 (by decide) (mw wc_313) rfl rfl 193 rfl ?_
            refine v_iconst X dX1_take_193 ic_1 194 rfl ?_
            refine v_iadd X dX1_take_194 195 rfl ?_
            refine v_put X (C := RX1) (T := TX1) (N := 8) (ci := 3) (ty := tyX1 3) (ws' := (wX1 ad c9 o1 (o1 + 1) 3 p_value p_error p_errorAt p_t_count p_t_cells p_d_time p_d_tolerance p_d_seed p_d_madeTickets p_d_cheesesOfText p_d_R_rows p_d_R_cells p_d_U_rows p_d_U_cells p_d_S_rows p_d_S_cells p_d_T_rows p_d_T_cells p_d_E_rows p_d_E_cells)) dX1_take_195 (lay_of layc_X1) 0 rfl rfl 3 (by decide) tyX1 tyX1_ok nmX1 (mw wc_308) rfl rfl (tyX1_ok 3 (by decide)) rfl rfl (Nat.le_of_ble_eq_true rfl) rfl 198 rfl ?_
            refine v_aload_n X dX1_take_198 2 rfl rfl 199 rfl ?_
            refine v_iload_n X dX1_take_199 0 rfl rfl 200 rfl ?_
            refine v_put X (C := RX1) (T := TX1) (N := 8) (ci := 3) (ty := tyX1 5) (ws' := (wX1 ad c9 o1 (o1 + 1) 3 o2 p_error p_errorAt p_t_count p_t_cells p_d_time p_d_tolerance p_d_seed p_d_madeTickets p_d_cheesesOfText p_d_R_rows p_d_R_cells p_d_U_rows p_d_U_cells p_d_S_rows p_d_S_cells p_d_T_rows p_d_T_cells p_d_E_rows p_d_E_cells)) dX1_take_200 (lay_of layc_X1) 0 rfl rfl 5 (by decide) tyX1 tyX1_ok nmX1 (mw wc_305) rfl rfl (tyX1_ok 5 (by decide)) rfl rfl (Nat.le_of_ble_eq_true rfl) rfl 203 rfl ?_
            refine v_iload_n X dX1_take_203 1 rfl rfl 204 rfl ?_
            obtain rfl := Option.some.inj hf
            exact v_iret X (Nat.zero_le _) (Nat.zero_le _) dX1_take_204
          · refine v_iload_n X dX1_take_131 0 rfl rfl 132 rfl ?_
            refine v_bipush X dX1_take_132 bp_57 134 rfl ?_
            refine v_icmp_gt X (tgt := 183) dX1_take_134 rfl 137 rfl hf (fun hf => ?_) (fun hf => ?_)
            · refine v_aload_n X dX1_take_183 2 rfl rfl 184 rfl ?_
              refine v_iconst X dX1_take_184 ic_3 185 rfl ?_
              refine v_put X (C := RX1) (T := TX1) (N := 8) (ci := 3) (ty := tyX1 4) (ws' := (wX1 ad c9 o1 p_end 3 p_value p_error p_errorAt p_t_count p_t_cells p_d_time p_d_tolerance p_d_seed p_d_madeTickets p_d_cheesesOfText p_d_R_rows p_d_R_cells p_d_U_rows p_d_U_cells p_d_S_rows p_d_S_cells p_d_T_rows p_d_T_cells p_d_E_rows p_d_E_cells)) dX1_take_185 (lay_of layc_X1) 0 rfl rfl 4 (by decide) tyX1 tyX1_ok nmX1 (mw wc_315) rfl rfl (tyX1_ok 4 (by decide)) rfl rfl (Nat.le_of_ble_eq_true rfl) rfl 188 rfl ?_
              refine v_aload_n X dX1_take_188 2 rfl rfl 189 rfl ?_
              refine v_aload_n X dX1_take_189 2 rfl rfl 190 rfl ?_
              refine v_get X (C := RX1) (T := TX1) (N := 8) (ci := 3) (v := _) dX1_take_190 (lay_of layc_X1) 0 rfl rfl 2 (by decide) (mw wc_313) rfl rfl 193 rfl ?_
              refine v_iconst X dX1_take_193 ic_1 194 rfl ?_
              refine v_iadd X dX1_take_194 195 rfl ?_
              refine v_put X (C := RX1) (T := TX1) (N := 8) (ci := 3) (ty := tyX1 3) (ws' := (wX1 ad c9 o1 (o1 + 1) 3 p_value p_error p_errorAt p_t_count p_t_cells p_d_time p_d_tolerance p_d_seed p_d_madeTickets p_d_cheesesOfText p_d_R_rows p_d_R_cells p_d_U_rows p_d_U_cells p_d_S_rows p_d_S_cells p_d_T_rows p_d_T_cells p_d_E_rows p_d_E_cells)) dX1_take_195 (lay_of layc_X1) 0 rfl rfl 3 (by decide) tyX1 tyX1_ok nmX1 (mw wc_308) rfl rfl (tyX1_ok 3 (by decide)) rfl rfl (Nat.le_of_ble_eq_true rfl) rfl 198 rfl ?_
              refine v_aload_n X dX1_take_198 2 rfl rfl 199 rfl ?_
              refine v_iload_n X dX1_take_199 0 rfl rfl 200 rfl ?_
              refine v_put X (C := RX1) (T := TX1) (N := 8) (ci := 3) (ty := tyX1 5) (ws' := (wX1 ad c9 o1 (o1 + 1) 3 o2 p_error p_errorAt p_t_count p_t_cells p_d_time p_d_tolerance p_d_seed p_d_madeTickets p_d_cheesesOfText p_d_R_rows p_d_R_cells p_d_U_rows p_d_U_cells p_d_S_rows p_d_S_cells p_d_T_rows p_d_T_cells p_d_E_rows p_d_E_cells)) dX1_take_200 (lay_of layc_X1) 0 rfl rfl 5 (by decide) tyX1 tyX1_ok nmX1 (mw wc_305) rfl rfl (tyX1_ok 5 (by decide)) rfl rfl (Nat.le_of_ble_eq_true rfl) rfl 203 rfl ?_
              refine v_iload_n X dX1_take_203 1 rfl rfl 204 rfl ?_
              obtain rfl := Option.some.inj hf
              exact v_iret X (Nat.zero_le _) (Nat.zero_le _) dX1_take_204
            · refine v_aload_n X dX1_take_137 2 rfl rfl 138 rfl ?_
              refine v_iconst X dX1_take_138 ic_2 139 rfl ?_
              refine v_put X (C := RX1) (T := TX1) (N := 8) (ci := 3) (ty := tyX1 4) (ws' := (wX1 ad c9 o1 p_end 2 p_value p_error p_errorAt p_t_count p_t_cells p_d_time p_d_tolerance p_d_seed p_d_madeTickets p_d_cheesesOfText p_d_R_rows p_d_R_cells p_d_U_rows p_d_U_cells p_d_S_rows p_d_S_cells p_d_T_rows p_d_T_cells p_d_E_rows p_d_E_cells)) dX1_take_139 (lay_of layc_X1) 0 rfl rfl 4 (by decide) tyX1 tyX1_ok nmX1 (mw wc_315) rfl rfl (tyX1_ok 4 (by decide)) rfl rfl (Nat.le_of_ble_eq_true rfl) rfl 142 rfl ?_
              refine v_aload_n X dX1_take_142 2 rfl rfl 143 rfl ?_
              refine v_aload_n X dX1_take_143 2 rfl rfl 144 rfl ?_
              refine v_get X (C := RX1) (T := TX1) (N := 8) (ci := 3) (v := _) dX1_take_144 (lay_of layc_X1) 0 rfl rfl 0 (by decide) (mw wc_307) rfl rfl 147 rfl ?_
              refine v_aload_n X dX1_take_147 2 rfl rfl 148 rfl ?_
              refine v_get X (C := RX1) (T := TX1) (N := 8) (ci := 3) (v := _) dX1_take_148 (lay_of layc_X1) 0 rfl rfl 2 (by decide) (mw wc_313) rfl rfl 151 rfl ?_
              refine v_bipush X dX1_take_151 bp_48 153 rfl ?_
              refine v_bipush X dX1_take_153 bp_57 155 rfl ?_
              obtain ⟨o5, ho5, hf⟩ := bnd hf
              refine v_callVi X (ci := 2) (T := TX0) (C := RX0) (As := [.int o1, .int 48, .int 57]) (rest := [.ref (ad 0)]) (ws' := (wX1 ad c9 o1 p_end 2 p_value p_error p_errorAt p_t_count p_t_cells p_d_time p_d_tolerance p_d_seed p_d_madeTickets p_d_cheesesOfText p_d_R_rows p_d_R_cells p_d_U_rows p_d_U_cells p_d_S_rows p_d_S_cells p_d_T_rows p_d_T_cells p_d_E_rows p_d_E_cells)) (c_X0_endOfRun l hG D c9 (fun k => ad ([1, 2].getD k 0)) 600 p_t_count p_t_cells o1 48 57 ho5) 3 (gV wc_316 wc_317 wc_318 wc_7 wc_319) rfl rfl rfl ⟨rfl, pd_X0_endOfRun⟩ ⟨Nat.le_of_ble_eq_true rfl, Nat.le_of_ble_eq_true rfl⟩ 1 rfl rfl rfl rfl (Nat.le_of_ble_eq_true rfl) ⟨Nat.zero_le _, Nat.zero_le _⟩ [1, 2] [0, 3, 4, 5, 6, 7, 8, 9, 10, 11, 12, 13] [0, 12, 13, 1, 2, 3, 4, 5, 6, 7, 8, 9, 10, 11] rfl rfl rfl rfl dX1_take_155 158 rfl ?_
              refine v_put X (C := RX1) (T := TX1) (N := 8) (ci := 3) (ty := tyX1 3) (ws' := (wX1 ad c9 o1 o5 2 p_value p_error p_errorAt p_t_count p_t_cells p_d_time p_d_tolerance p_d_seed p_d_madeTickets p_d_cheesesOfText p_d_R_rows p_d_R_cells p_d_U_rows p_d_U_cells p_d_S_rows p_d_S_cells p_d_T_rows p_d_T_cells p_d_E_rows p_d_E_cells)) dX1_take_158 (lay_of layc_X1) 0 rfl rfl 3 (by decide) tyX1 tyX1_ok nmX1 (mw wc_308) rfl rfl (tyX1_ok 3 (by decide)) rfl rfl (Nat.le_of_ble_eq_true rfl) rfl 161 rfl ?_
              refine v_aload_n X dX1_take_161 2 rfl rfl 162 rfl ?_
              refine v_aload_n X dX1_take_162 2 rfl rfl 163 rfl ?_
              refine v_get X (C := RX1) (T := TX1) (N := 8) (ci := 3) (v := _) dX1_take_163 (lay_of layc_X1) 0 rfl rfl 0 (by decide) (mw wc_307) rfl rfl 166 rfl ?_
              refine v_aload_n X dX1_take_166 2 rfl rfl 167 rfl ?_
              refine v_get X (C := RX1) (T := TX1) (N := 8) (ci := 3) (v := _) dX1_take_167 (lay_of layc_X1) 0 rfl rfl 2 (by decide) (mw wc_313) rfl rfl 170 rfl ?_
              refine v_aload_n X dX1_take_170 2 rfl rfl 171 rfl ?_
              refine v_get X (C := RX1) (T := TX1) (N := 8) (ci := 3) (v := _) dX1_take_171 (lay_of layc_X1) 0 rfl rfl 3 (by decide) (mw wc_308) rfl rfl 174 rfl ?_
              obtain ⟨o6, ho6, hf⟩ := bnd hf
              refine v_callVi X (ci := 2) (T := TX0) (C := RX0) (As := [.int o1, .int o5]) (rest := [.ref (ad 0)]) (ws' := (wX1 ad c9 o1 o5 2 p_value p_error p_errorAt p_t_count p_t_cells p_d_time p_d_tolerance p_d_seed p_d_madeTickets p_d_cheesesOfText p_d_R_rows p_d_R_cells p_d_U_rows p_d_U_cells p_d_S_rows p_d_S_cells p_d_T_rows p_d_T_cells p_d_E_rows p_d_E_cells)) (c_X0_numberBetween l hG D c9 (fun k => ad ([1, 2].getD k 0)) 600 p_t_count p_t_cells o1 o5 ho6) 2 (gV wc_320 wc_321 wc_322 wc_7 wc_323) rfl rfl rfl ⟨rfl, pd_X0_numberBetween⟩ ⟨Nat.le_of_ble_eq_true rfl, Nat.le_of_ble_eq_true rfl⟩ 1 rfl rfl rfl rfl (Nat.le_of_ble_eq_true rfl) ⟨Nat.zero_le _, Nat.zero_le _⟩ [1, 2] [0, 3, 4, 5, 6, 7, 8, 9, 10, 11, 12, 13] [0, 12, 13, 1, 2, 3, 4, 5, 6, 7, 8, 9, 10, 11] rfl rfl rfl rfl dX1_take_174 177 rfl ?_
              refine v_put X (C := RX1) (T := TX1) (N := 8) (ci := 3) (ty := tyX1 5) (ws' := (wX1 ad c9 o1 o5 2 o6 p_error p_errorAt p_t_count p_t_cells p_d_time p_d_tolerance p_d_seed p_d_madeTickets p_d_cheesesOfText p_d_R_rows p_d_R_cells p_d_U_rows p_d_U_cells p_d_S_rows p_d_S_cells p_d_T_rows p_d_T_cells p_d_E_rows p_d_E_cells)) dX1_take_177 (lay_of layc_X1) 0 rfl rfl 5 (by decide) tyX1 tyX1_ok nmX1 (mw wc_305) rfl rfl (tyX1_ok 5 (by decide)) rfl rfl (Nat.le_of_ble_eq_true rfl) rfl 180 rfl ?_
              refine v_goto X (tgt := 203) dX1_take_180 rfl ?_
              refine v_iload_n X dX1_take_203 1 rfl rfl 204 rfl ?_
              obtain rfl := Option.some.inj hf
              exact v_iret X (Nat.zero_le _) (Nat.zero_le _) dX1_take_204
        · refine v_aload_n X dX1_take_79 2 rfl rfl 80 rfl ?_
          refine v_iconst X dX1_take_80 ic_1 81 rfl ?_
          refine v_put X (C := RX1) (T := TX1) (N := 8) (ci := 3) (ty := tyX1 4) (ws' := (wX1 ad c9 o1 p_end 1 p_value p_error p_errorAt p_t_count p_t_cells p_d_time p_d_tolerance p_d_seed p_d_madeTickets p_d_cheesesOfText p_d_R_rows p_d_R_cells p_d_U_rows p_d_U_cells p_d_S_rows p_d_S_cells p_d_T_rows p_d_T_cells p_d_E_rows p_d_E_cells)) dX1_take_81 (lay_of layc_X1) 0 rfl rfl 4 (by decide) tyX1 tyX1_ok nmX1 (mw wc_315) rfl rfl (tyX1_ok 4 (by decide)) rfl rfl (Nat.le_of_ble_eq_true rfl) rfl 84 rfl ?_
          refine v_aload_n X dX1_take_84 2 rfl rfl 85 rfl ?_
          refine v_aload_n X dX1_take_85 2 rfl rfl 86 rfl ?_
          refine v_get X (C := RX1) (T := TX1) (N := 8) (ci := 3) (v := _) dX1_take_86 (lay_of layc_X1) 0 rfl rfl 0 (by decide) (mw wc_307) rfl rfl 89 rfl ?_
          refine v_aload_n X dX1_take_89 2 rfl rfl 90 rfl ?_
          refine v_get X (C := RX1) (T := TX1) (N := 8) (ci := 3) (v := _) dX1_take_90 (lay_of layc_X1) 0 rfl rfl 2 (by decide) (mw wc_313) rfl rfl 93 rfl ?_
          refine v_bipush X dX1_take_93 bp_97 95 rfl ?_
          refine v_bipush X dX1_take_95 bp_122 97 rfl ?_
          obtain ⟨o7, ho7, hf⟩ := bnd hf
          refine v_callVi X (ci := 2) (T := TX0) (C := RX0) (As := [.int o1, .int 97, .int 122]) (rest := [.ref (ad 0)]) (ws' := (wX1 ad c9 o1 p_end 1 p_value p_error p_errorAt p_t_count p_t_cells p_d_time p_d_tolerance p_d_seed p_d_madeTickets p_d_cheesesOfText p_d_R_rows p_d_R_cells p_d_U_rows p_d_U_cells p_d_S_rows p_d_S_cells p_d_T_rows p_d_T_cells p_d_E_rows p_d_E_cells)) (c_X0_endOfRun l hG D c9 (fun k => ad ([1, 2].getD k 0)) 600 p_t_count p_t_cells o1 97 122 ho7) 3 (gV wc_316 wc_317 wc_318 wc_7 wc_319) rfl rfl rfl ⟨rfl, pd_X0_endOfRun⟩ ⟨Nat.le_of_ble_eq_true rfl, Nat.le_of_ble_eq_true rfl⟩ 1 rfl rfl rfl rfl (Nat.le_of_ble_eq_true rfl) ⟨Nat.zero_le _, Nat.zero_le _⟩ [1, 2] [0, 3, 4, 5, 6, 7, 8, 9, 10, 11, 12, 13] [0, 12, 13, 1, 2, 3, 4, 5, 6, 7, 8, 9, 10, 11] rfl rfl rfl rfl dX1_take_97 100 rfl ?_
          refine v_put X (C := RX1) (T := TX1) (N := 8) (ci := 3) (ty := tyX1 3) (ws' := (wX1 ad c9 o1 o7 1 p_value p_error p_errorAt p_t_count p_t_cells p_d_time p_d_tolerance p_d_seed p_d_madeTickets p_d_cheesesOfText p_d_R_rows p_d_R_cells p_d_U_rows p_d_U_cells p_d_S_rows p_d_S_cells p_d_T_rows p_d_T_cells p_d_E_rows p_d_E_cells)) dX1_take_100 (lay_of layc_X1) 0 rfl rfl 3 (by decide) tyX1 tyX1_ok nmX1 (mw wc_308) rfl rfl (tyX1_ok 3 (by decide)) rfl rfl (Nat.le_of_ble_eq_true rfl) rfl 103 rfl ?_
          refine v_aload_n X dX1_take_103 2 rfl rfl 104 rfl ?_
          refine v_aload_n X dX1_take_104 2 rfl rfl 105 rfl ?_
          refine v_get X (C := RX1) (T := TX1) (N := 8) (ci := 3) (v := _) dX1_take_105 (lay_of layc_X1) 0 rfl rfl 0 (by decide) (mw wc_307) rfl rfl 108 rfl ?_
          refine v_aload_n X dX1_take_108 2 rfl rfl 109 rfl ?_
          refine v_get X (C := RX1) (T := TX1) (N := 8) (ci := 3) (v := _) dX1_take_109 (lay_of layc_X1) 0 rfl rfl 2 (by decide) (mw wc_313) rfl rfl 112 rfl ?_
          refine v_aload_n X dX1_take_112 2 rfl rfl 113 rfl ?_
          refine v_get X (C := RX1) (T := TX1) (N := 8) (ci := 3) (v := _) dX1_take_113 (lay_of layc_X1) 0 rfl rfl 3 (by decide) (mw wc_308) rfl rfl 116 rfl ?_
          obtain ⟨o8, ho8, hf⟩ := bnd hf
          refine v_callVi X (ci := 2) (T := TX0) (C := RX0) (As := [.int o1, .int o7]) (rest := [.ref (ad 0)]) (ws' := (wX1 ad c9 o1 o7 1 p_value p_error p_errorAt p_t_count p_t_cells p_d_time p_d_tolerance p_d_seed p_d_madeTickets p_d_cheesesOfText p_d_R_rows p_d_R_cells p_d_U_rows p_d_U_cells p_d_S_rows p_d_S_cells p_d_T_rows p_d_T_cells p_d_E_rows p_d_E_cells)) (c_X0_nameBetween l hG D c9 (fun k => ad ([1, 2].getD k 0)) 600 p_t_count p_t_cells o1 o7 ho8) 2 (gV wc_324 wc_325 wc_326 wc_7 wc_327) rfl rfl rfl ⟨rfl, pd_X0_nameBetween⟩ ⟨Nat.le_of_ble_eq_true rfl, Nat.le_of_ble_eq_true rfl⟩ 1 rfl rfl rfl rfl (Nat.le_of_ble_eq_true rfl) ⟨Nat.zero_le _, Nat.zero_le _⟩ [1, 2] [0, 3, 4, 5, 6, 7, 8, 9, 10, 11, 12, 13] [0, 12, 13, 1, 2, 3, 4, 5, 6, 7, 8, 9, 10, 11] rfl rfl rfl rfl dX1_take_116 119 rfl ?_
          refine v_put X (C := RX1) (T := TX1) (N := 8) (ci := 3) (ty := tyX1 5) (ws' := (wX1 ad c9 o1 o7 1 o8 p_error p_errorAt p_t_count p_t_cells p_d_time p_d_tolerance p_d_seed p_d_madeTickets p_d_cheesesOfText p_d_R_rows p_d_R_cells p_d_U_rows p_d_U_cells p_d_S_rows p_d_S_cells p_d_T_rows p_d_T_cells p_d_E_rows p_d_E_cells)) dX1_take_119 (lay_of layc_X1) 0 rfl rfl 5 (by decide) tyX1 tyX1_ok nmX1 (mw wc_305) rfl rfl (tyX1_ok 5 (by decide)) rfl rfl (Nat.le_of_ble_eq_true rfl) rfl 122 rfl ?_
          refine v_goto X (tgt := 203) dX1_take_122 rfl ?_
          refine v_iload_n X dX1_take_203 1 rfl rfl 204 rfl ?_
          obtain rfl := Option.some.inj hf
          exact v_iret X (Nat.zero_le _) (Nat.zero_le _) dX1_take_204
    · refine v_aload_n X dX1_take_46 2 rfl rfl 47 rfl ?_
      refine v_iconst X dX1_take_47 ic_0 48 rfl ?_
      refine v_put X (C := RX1) (T := TX1) (N := 8) (ci := 3) (ty := tyX1 4) (ws' := (wX1 ad c9 o1 p_end 0 p_value p_error p_errorAt p_t_count p_t_cells p_d_time p_d_tolerance p_d_seed p_d_madeTickets p_d_cheesesOfText p_d_R_rows p_d_R_cells p_d_U_rows p_d_U_cells p_d_S_rows p_d_S_cells p_d_T_rows p_d_T_cells p_d_E_rows p_d_E_cells)) dX1_take_48 (lay_of layc_X1) 0 rfl rfl 4 (by decide) tyX1 tyX1_ok nmX1 (mw wc_315) rfl rfl (tyX1_ok 4 (by decide)) rfl rfl (Nat.le_of_ble_eq_true rfl) rfl 51 rfl ?_
      refine v_aload_n X dX1_take_51 2 rfl rfl 52 rfl ?_
      refine v_aload_n X dX1_take_52 2 rfl rfl 53 rfl ?_
      refine v_get X (C := RX1) (T := TX1) (N := 8) (ci := 3) (v := _) dX1_take_53 (lay_of layc_X1) 0 rfl rfl 2 (by decide) (mw wc_313) rfl rfl 56 rfl ?_
      refine v_put X (C := RX1) (T := TX1) (N := 8) (ci := 3) (ty := tyX1 3) (ws' := (wX1 ad c9 o1 o1 0 p_value p_error p_errorAt p_t_count p_t_cells p_d_time p_d_tolerance p_d_seed p_d_madeTickets p_d_cheesesOfText p_d_R_rows p_d_R_cells p_d_U_rows p_d_U_cells p_d_S_rows p_d_S_cells p_d_T_rows p_d_T_cells p_d_E_rows p_d_E_cells)) dX1_take_56 (lay_of layc_X1) 0 rfl rfl 3 (by decide) tyX1 tyX1_ok nmX1 (mw wc_308) rfl rfl (tyX1_ok 3 (by decide)) rfl rfl (Nat.le_of_ble_eq_true rfl) rfl 59 rfl ?_
      refine v_aload_n X dX1_take_59 2 rfl rfl 60 rfl ?_
      refine v_iconst X dX1_take_60 ic_0 61 rfl ?_
      refine v_put X (C := RX1) (T := TX1) (N := 8) (ci := 3) (ty := tyX1 5) (ws' := (wX1 ad c9 o1 o1 0 0 p_error p_errorAt p_t_count p_t_cells p_d_time p_d_tolerance p_d_seed p_d_madeTickets p_d_cheesesOfText p_d_R_rows p_d_R_cells p_d_U_rows p_d_U_cells p_d_S_rows p_d_S_cells p_d_T_rows p_d_T_cells p_d_E_rows p_d_E_cells)) dX1_take_61 (lay_of layc_X1) 0 rfl rfl 5 (by decide) tyX1 tyX1_ok nmX1 (mw wc_305) rfl rfl (tyX1_ok 5 (by decide)) rfl rfl (Nat.le_of_ble_eq_true rfl) rfl 64 rfl ?_
      refine v_goto X (tgt := 203) dX1_take_64 rfl ?_
      refine v_iload_n X dX1_take_203 1 rfl rfl 204 rfl ?_
      obtain rfl := Option.some.inj hf
      exact v_iret X (Nat.zero_le _) (Nat.zero_le _) dX1_take_204
  · refine v_iload_n X dX1_take_12 0 rfl rfl 13 rfl ?_
    obtain rfl := Option.some.inj hf
    exact v_iret X (Nat.zero_le _) (Nat.zero_le _) dX1_take_13
theorem pd_X1_take : yX1_take.cls ≠ "java/lang/invoke/MethodHandle" ∧ yX1_take.cls ≠ "java/lang/invoke/VarHandle" ∧ (parseMethodDescriptor yX1_take.desc).map (fun d => d.parameters.length) = some 0 := by decide +kernel
def f_X1_isWord (p_start : Int32) (p_end : Int32) (p_kind : Int32) (p_t_count : Int32) (p_t_cells : Nat → Int32) (w1 : Nat) : Option (Int32) :=
  if p_kind = 1 then (
    (f_X0_isText 600 p_t_count p_t_cells p_start p_end w1).bind fun o1 =>
    if o1 = 0 then (
      some (0))
    else (
      some (1)))
  else (
    some (0))
set_option maxRecDepth 100000 in
set_option maxHeartbeats 4000000 in
theorem c_X1_isWord (l : Launch) {G : (Nat → Prop) → State → Heap → Prop} (hG : vG G) (D : va_G) (c9 : Nat → ClassId) (sk sv : Nat → Nat) (hGU : ∀ (A : Nat → Prop) (U : State) (H : Heap), G A U H → vU sk sv A U H) (ad : Nat → Nat) (p_start : Int32) (p_end : Int32) (p_kind : Int32) (p_value : Int32) (p_error : Int32) (p_errorAt : Int32) (p_t_count : Int32) (p_t_cells : Nat → Int32) (p_d_time : Int32) (p_d_tolerance : Int32) (p_d_seed : Int32) (p_d_madeTickets : Int32) (p_d_cheesesOfText : Int32) (p_d_R_rows : Int32) (p_d_R_cells : Nat → Int32) (p_d_U_rows : Int32) (p_d_U_cells : Nat → Int32) (p_d_S_rows : Int32) (p_d_S_cells : Nat → Int32) (p_d_T_rows : Int32) (p_d_T_cells : Nat → Int32) (p_d_E_rows : Int32) (p_d_E_cells : Nat → Int32) (w1 : Nat) (hw1 : w1 < nJS) {o : Int32} (hf : f_X1_isWord p_start p_end p_kind p_t_count p_t_cells w1 = some o) : mI l yX1_isWord (wq yX1_isWord cX1_isWord 2 (some .boolean)) { frames := 6, cells := 0, slots := 0, locals := 175 } G D (tyA c9) [.ref (ad 0), .ref (sk w1)] (wX1 ad c9 p_start p_end p_kind p_value p_error p_errorAt p_t_count p_t_cells p_d_time p_d_tolerance p_d_seed p_d_madeTickets p_d_cheesesOfText p_d_R_rows p_d_R_cells p_d_U_rows p_d_U_cells p_d_S_rows p_d_S_cells p_d_T_rows p_d_T_cells p_d_E_rows p_d_E_cells) [] 0 0 o (wX1 ad c9 p_start p_end p_kind p_value p_error p_errorAt p_t_count p_t_cells p_d_time p_d_tolerance p_d_seed p_d_madeTickets p_d_cheesesOfText p_d_R_rows p_d_R_cells p_d_U_rows p_d_U_cells p_d_S_rows p_d_S_cells p_d_T_rows p_d_T_cells p_d_E_rows p_d_E_cells) := by
  refine mI_of hG (cc := cX1_isWord) (maxL := 2) (ty := .boolean) (by decide) rfl (Nat.le_of_ble_eq_true rfl) ?_
  intro p e s m args below meth c A X
  have X : vX p s m args meth c cX1_isWord 2 (some .boolean) RX1 (wq yX1_isWord cX1_isWord 2 (some .boolean)) D (tyA c9) G A := X
  refine v_eq (lv2 := [(0, .ref (ad 0)), (1, .ref (sk w1))]) rfl rfl rfl rfl ?_
  rw [f_X1_isWord] at hf
  refine v_aload_n X dX1_isWord_0 0 rfl rfl 1 rfl ?_
  refine v_get X (C := RX1) (T := TX1) (N := 8) (ci := 3) (v := _) dX1_isWord_1 (lay_of layc_X1) 0 rfl rfl 4 (by decide) (mw wc_315) rfl rfl 4 rfl ?_
  refine v_iconst X dX1_isWord_4 ic_1 5 rfl ?_
  refine v_icmp_ne X (tgt := 31) dX1_isWord_5 rfl 8 rfl hf (fun hf => ?_) (fun hf => ?_)
  · refine v_iconst X dX1_isWord_31 ic_0 32 rfl ?_
    obtain rfl := Option.some.inj hf
    exact v_zret X (Nat.zero_le _) (Nat.zero_le _) nz0 dX1_isWord_32
  · refine v_aload_n X dX1_isWord_8 0 rfl rfl 9 rfl ?_
    refine v_get X (C := RX1) (T := TX1) (N := 8) (ci := 3) (v := _) dX1_isWord_9 (lay_of layc_X1) 0 rfl rfl 0 (by decide) (mw wc_307) rfl rfl 12 rfl ?_
    refine v_aload_n X dX1_isWord_12 0 rfl rfl 13 rfl ?_
    refine v_get X (C := RX1) (T := TX1) (N := 8) (ci := 3) (v := _) dX1_isWord_13 (lay_of layc_X1) 0 rfl rfl 2 (by decide) (mw wc_313) rfl rfl 16 rfl ?_
    refine v_aload_n X dX1_isWord_16 0 rfl rfl 17 rfl ?_
    refine v_get X (C := RX1) (T := TX1) (N := 8) (ci := 3) (v := _) dX1_isWord_17 (lay_of layc_X1) 0 rfl rfl 3 (by decide) (mw wc_308) rfl rfl 20 rfl ?_
    refine v_aload_n X dX1_isWord_20 1 rfl rfl 21 rfl ?_
    obtain ⟨o1, ho1, hf⟩ := bnd hf
    refine v_callVi X (ci := 2) (T := TX0) (C := RX0) (As := [.int p_start, .int p_end, .ref (sk w1)]) (rest := []) (ws' := (wX1 ad c9 p_start p_end p_kind p_value p_error p_errorAt p_t_count p_t_cells p_d_time p_d_tolerance p_d_seed p_d_madeTickets p_d_cheesesOfText p_d_R_rows p_d_R_cells p_d_U_rows p_d_U_cells p_d_S_rows p_d_S_cells p_d_T_rows p_d_T_cells p_d_E_rows p_d_E_cells)) (c_X0_isText l hG D c9 sk sv hGU (fun k => ad ([1, 2].getD k 0)) 600 p_t_count p_t_cells p_start p_end w1 hw1 ho1) 3 (gV wc_328 wc_329 wc_330 wc_7 wc_331) rfl rfl rfl ⟨rfl, pd_X0_isText⟩ ⟨Nat.le_of_ble_eq_true rfl, Nat.le_of_ble_eq_true rfl⟩ 1 rfl rfl rfl rfl (Nat.le_of_ble_eq_true rfl) ⟨Nat.zero_le _, Nat.zero_le _⟩ [1, 2] [0, 3, 4, 5, 6, 7, 8, 9, 10, 11, 12, 13] [0, 12, 13, 1, 2, 3, 4, 5, 6, 7, 8, 9, 10, 11] rfl rfl rfl rfl dX1_isWord_21 24 rfl ?_
    refine v_if_eq X (tgt := 31) dX1_isWord_24 rfl 27 rfl hf (fun hf => ?_) (fun hf => ?_)
    · refine v_iconst X dX1_isWord_31 ic_0 32 rfl ?_
      obtain rfl := Option.some.inj hf
      exact v_zret X (Nat.zero_le _) (Nat.zero_le _) nz0 dX1_isWord_32
    · refine v_iconst X dX1_isWord_27 ic_1 28 rfl ?_
      refine v_goto X (tgt := 32) dX1_isWord_28 rfl ?_
      obtain rfl := Option.some.inj hf
      exact v_zret X (Nat.zero_le _) (Nat.zero_le _) nz1 dX1_isWord_32
theorem pd_X1_isWord : yX1_isWord.cls ≠ "java/lang/invoke/MethodHandle" ∧ yX1_isWord.cls ≠ "java/lang/invoke/VarHandle" ∧ (parseMethodDescriptor yX1_isWord.desc).map (fun d => d.parameters.length) = some 1 := by decide +kernel
def f_X1_require (p_start : Int32) (p_error : Int32) (p_errorAt : Int32) (v1 : Int32) (v2 : Int32) : Option (Int32 × Int32) :=
  if p_error = 0 then (
    if v1 = 0 then (
      some (v2, p_start))
    else (
      some (p_error, p_errorAt)))
  else (
    some (p_error, p_errorAt))
set_option maxRecDepth 100000 in
set_option maxHeartbeats 4000000 in
theorem c_X1_require (l : Launch) {G : (Nat → Prop) → State → Heap → Prop} (hG : vG G) (D : va_G) (c9 : Nat → ClassId) (ad : Nat → Nat) (p_start : Int32) (p_end : Int32) (p_kind : Int32) (p_value : Int32) (p_error : Int32) (p_errorAt : Int32) (p_t_count : Int32) (p_t_cells : Nat → Int32) (p_d_time : Int32) (p_d_tolerance : Int32) (p_d_seed : Int32) (p_d_madeTickets : Int32) (p_d_cheesesOfText : Int32) (p_d_R_rows : Int32) (p_d_R_cells : Nat → Int32) (p_d_U_rows : Int32) (p_d_U_cells : Nat → Int32) (p_d_S_rows : Int32) (p_d_S_cells : Nat → Int32) (p_d_T_rows : Int32) (p_d_T_cells : Nat → Int32) (p_d_E_rows : Int32) (p_d_E_cells : Nat → Int32) (v1 : Int32) (v2 : Int32) {o : Int32 × Int32} (hf : f_X1_require p_start p_error p_errorAt v1 v2 = some o) : mV l yX1_require (wq yX1_require cX1_require 3 none) { frames := 0, cells := 0, slots := 0, locals := 0 } G D (tyA c9) [.ref (ad 0), .int v1, .int v2] (wX1 ad c9 p_start p_end p_kind p_value p_error p_errorAt p_t_count p_t_cells p_d_time p_d_tolerance p_d_seed p_d_madeTickets p_d_cheesesOfText p_d_R_rows p_d_R_cells p_d_U_rows p_d_U_cells p_d_S_rows p_d_S_cells p_d_T_rows p_d_T_cells p_d_E_rows p_d_E_cells) [] 0 0 (wX1 ad c9 p_start p_end p_kind p_value o.1 o.2 p_t_count p_t_cells p_d_time p_d_tolerance p_d_seed p_d_madeTickets p_d_cheesesOfText p_d_R_rows p_d_R_cells p_d_U_rows p_d_U_cells p_d_S_rows p_d_S_cells p_d_T_rows p_d_T_cells p_d_E_rows p_d_E_cells) := by
  refine mV_of hG (cc := cX1_require) (maxL := 3) (by decide) rfl (Nat.le_of_ble_eq_true rfl) ?_
  intro p e s m args below meth c A hnm X
  have X : vX p s m args meth c cX1_require 3 none RX1 (wq yX1_require cX1_require 3 none) D (tyA c9) G A := X
  refine v_eq (lv2 := [(0, .ref (ad 0)), (1, .int v1), (2, .int v2)]) rfl rfl rfl rfl ?_
  rw [f_X1_require] at hf
  refine v_aload_n X dX1_require_0 0 rfl rfl 1 rfl ?_
  refine v_get X (C := RX1) (T := TX1) (N := 8) (ci := 3) (v := _) dX1_require_1 (lay_of layc_X1) 0 rfl rfl 6 (by decide) (mw wc_306) rfl rfl 4 rfl ?_
  refine v_if_ne X (tgt := 24) dX1_require_4 rfl 7 rfl hf (fun hf => ?_) (fun hf => ?_)
  · obtain rfl := Option.some.inj hf
    exact v_vret X (Nat.zero_le _) (Nat.zero_le _) dX1_require_24
  · refine v_iload_n X dX1_require_7 1 rfl rfl 8 rfl ?_
    refine v_if_ne X (tgt := 24) dX1_require_8 rfl 11 rfl hf (fun hf => ?_) (fun hf => ?_)
    · obtain rfl := Option.some.inj hf
      exact v_vret X (Nat.zero_le _) (Nat.zero_le _) dX1_require_24
    · refine v_aload_n X dX1_require_11 0 rfl rfl 12 rfl ?_
      refine v_iload_n X dX1_require_12 2 rfl rfl 13 rfl ?_
      refine v_put X (C := RX1) (T := TX1) (N := 8) (ci := 3) (ty := tyX1 6) (ws' := (wX1 ad c9 p_start p_end p_kind p_value v2 p_errorAt p_t_count p_t_cells p_d_time p_d_tolerance p_d_seed p_d_madeTickets p_d_cheesesOfText p_d_R_rows p_d_R_cells p_d_U_rows p_d_U_cells p_d_S_rows p_d_S_cells p_d_T_rows p_d_T_cells p_d_E_rows p_d_E_cells)) dX1_require_13 (lay_of layc_X1) 0 rfl rfl 6 (by decide) tyX1 tyX1_ok nmX1 (mw wc_306) rfl rfl (tyX1_ok 6 (by decide)) rfl rfl (Nat.le_of_ble_eq_true rfl) rfl 16 rfl ?_
      refine v_aload_n X dX1_require_16 0 rfl rfl 17 rfl ?_
      refine v_aload_n X dX1_require_17 0 rfl rfl 18 rfl ?_
      refine v_get X (C := RX1) (T := TX1) (N := 8) (ci := 3) (v := _) dX1_require_18 (lay_of layc_X1) 0 rfl rfl 2 (by decide) (mw wc_313) rfl rfl 21 rfl ?_
      refine v_put X (C := RX1) (T := TX1) (N := 8) (ci := 3) (ty := tyX1 7) (ws' := (wX1 ad c9 p_start p_end p_kind p_value v2 p_start p_t_count p_t_cells p_d_time p_d_tolerance p_d_seed p_d_madeTickets p_d_cheesesOfText p_d_R_rows p_d_R_cells p_d_U_rows p_d_U_cells p_d_S_rows p_d_S_cells p_d_T_rows p_d_T_cells p_d_E_rows p_d_E_cells)) dX1_require_21 (lay_of layc_X1) 0 rfl rfl 7 (by decide) tyX1 tyX1_ok nmX1 (mw wc_332) rfl rfl (tyX1_ok 7 (by decide)) rfl rfl (Nat.le_of_ble_eq_true rfl) rfl 24 rfl ?_
      obtain rfl := Option.some.inj hf
      exact v_vret X (Nat.zero_le _) (Nat.zero_le _) dX1_require_24
theorem pd_X1_require : yX1_require.cls ≠ "java/lang/invoke/MethodHandle" ∧ yX1_require.cls ≠ "java/lang/invoke/VarHandle" ∧ (parseMethodDescriptor yX1_require.desc).map (fun d => d.parameters.length) = some 2 := by decide +kernel
def f_X1_number (p_start : Int32) (p_end : Int32) (p_kind : Int32) (p_value : Int32) (p_error : Int32) (p_errorAt : Int32) (p_t_count : Int32) (p_t_cells : Nat → Int32) (v1 : Int32) (v2 : Int32) : Option (Int32 × Int32 × Int32 × Int32 × Int32 × Int32 × Int32) :=
  Option.bind (if p_kind = 2 then (
    some (1))
  else (
    some (0)) : Option (Int32)) fun j1 =>
  (f_X1_require p_start p_error p_errorAt j1 1).bind fun o2 =>
  Option.bind (if p_value < v1 then (
    some (0))
  else (
    if v2 < p_value then (
      some (0))
    else (
      some (1))) : Option (Int32)) fun j3 =>
  (f_X1_require p_start o2.1 o2.2 j3 2).bind fun o4 =>
  (f_X1_take p_start p_end p_kind p_value o4.1 p_t_count p_t_cells).bind fun o5 =>
  some (o5.1, o5.2.1, o5.2.2.1, o5.2.2.2.1, o5.2.2.2.2, o4.1, o4.2)
set_option maxRecDepth 100000 in
set_option maxHeartbeats 4000000 in
theorem c_X1_number (l : Launch) {G : (Nat → Prop) → State → Heap → Prop} (hG : vG G) (D : va_G) (c9 : Nat → ClassId) (ad : Nat → Nat) (p_start : Int32) (p_end : Int32) (p_kind : Int32) (p_value : Int32) (p_error : Int32) (p_errorAt : Int32) (p_t_count : Int32) (p_t_cells : Nat → Int32) (p_d_time : Int32) (p_d_tolerance : Int32) (p_d_seed : Int32) (p_d_madeTickets : Int32) (p_d_cheesesOfText : Int32) (p_d_R_rows : Int32) (p_d_R_cells : Nat → Int32) (p_d_U_rows : Int32) (p_d_U_cells : Nat → Int32) (p_d_S_rows : Int32) (p_d_S_cells : Nat → Int32) (p_d_T_rows : Int32) (p_d_T_cells : Nat → Int32) (p_d_E_rows : Int32) (p_d_E_cells : Nat → Int32) (v1 : Int32) (v2 : Int32) {o : Int32 × Int32 × Int32 × Int32 × Int32 × Int32 × Int32} (hf : f_X1_number p_start p_end p_kind p_value p_error p_errorAt p_t_count p_t_cells v1 v2 = some o) : mI l yX1_number (wq yX1_number cX1_number 3 (some .int)) { frames := 3, cells := 0, slots := 0, locals := 86 } G D (tyA c9) [.ref (ad 0), .int v1, .int v2] (wX1 ad c9 p_start p_end p_kind p_value p_error p_errorAt p_t_count p_t_cells p_d_time p_d_tolerance p_d_seed p_d_madeTickets p_d_cheesesOfText p_d_R_rows p_d_R_cells p_d_U_rows p_d_U_cells p_d_S_rows p_d_S_cells p_d_T_rows p_d_T_cells p_d_E_rows p_d_E_cells) [] 0 0 o.1 (wX1 ad c9 o.2.1 o.2.2.1 o.2.2.2.1 o.2.2.2.2.1 o.2.2.2.2.2.1 o.2.2.2.2.2.2 p_t_count p_t_cells p_d_time p_d_tolerance p_d_seed p_d_madeTickets p_d_cheesesOfText p_d_R_rows p_d_R_cells p_d_U_rows p_d_U_cells p_d_S_rows p_d_S_cells p_d_T_rows p_d_T_cells p_d_E_rows p_d_E_cells) := by
  refine mI_of hG (cc := cX1_number) (maxL := 3) (ty := .int) (by decide) rfl (Nat.le_of_ble_eq_true rfl) ?_
  intro p e s m args below meth c A X
  have X : vX p s m args meth c cX1_number 3 (some .int) RX1 (wq yX1_number cX1_number 3 (some .int)) D (tyA c9) G A := X
  refine v_eq (lv2 := [(0, .ref (ad 0)), (1, .int v1), (2, .int v2)]) rfl rfl rfl rfl ?_
  rw [f_X1_number] at hf
  refine v_aload_n X dX1_number_0 0 rfl rfl 1 rfl ?_
  refine v_aload_n X dX1_number_1 0 rfl rfl 2 rfl ?_
  refine v_get X (C := RX1) (T := TX1) (N := 8) (ci := 3) (v := _) dX1_number_2 (lay_of layc_X1) 0 rfl rfl 4 (by decide) (mw wc_315) rfl rfl 5 rfl ?_
  refine v_iconst X dX1_number_5 ic_2 6 rfl ?_
  obtain ⟨j1, hj1, hf⟩ := bnd hf
  have Jj1 : vW p l e { frames := 3, cells := 0, slots := 0, locals := 86 } s m args below meth c 3 D A [] 0 0 (MQ below (eI D (tyA c9) A o.1 ((wX1 ad c9 o.2.1 o.2.2.1 o.2.2.2.1 o.2.2.2.2.1 o.2.2.2.2.2.1 o.2.2.2.2.2.2 p_t_count p_t_cells p_d_time p_d_tolerance p_d_seed p_d_madeTickets p_d_cheesesOfText p_d_R_rows p_d_R_cells p_d_U_rows p_d_U_cells p_d_S_rows p_d_S_cells p_d_T_rows p_d_T_cells p_d_E_rows p_d_E_cells) ++ [])) args s 0 0 A) (wX1 ad c9 p_start p_end p_kind p_value p_error p_errorAt p_t_count p_t_cells p_d_time p_d_tolerance p_d_seed p_d_madeTickets p_d_cheesesOfText p_d_R_rows p_d_R_cells p_d_U_rows p_d_U_cells p_d_S_rows p_d_S_cells p_d_T_rows p_d_T_cells p_d_E_rows p_d_E_cells) 14 [(0, .ref (ad 0)), (1, .int v1), (2, .int v2)] [.int j1, .ref (ad 0)] := by
    refine v_iconst X dX1_number_14 ic_1 15 rfl ?_
    obtain ⟨o2, ho2, hf⟩ := bnd hf
    refine v_callVv X (ci := 3) (T := TX1) (C := RX1) (As := [.int j1, .int 1]) (rest := []) (ws' := (wX1 ad c9 p_start p_end p_kind p_value o2.1 o2.2 p_t_count p_t_cells p_d_time p_d_tolerance p_d_seed p_d_madeTickets p_d_cheesesOfText p_d_R_rows p_d_R_cells p_d_U_rows p_d_U_cells p_d_S_rows p_d_S_cells p_d_T_rows p_d_T_cells p_d_E_rows p_d_E_cells)) (c_X1_require l hG D c9 ad p_start p_end p_kind p_value p_error p_errorAt p_t_count p_t_cells p_d_time p_d_tolerance p_d_seed p_d_madeTickets p_d_cheesesOfText p_d_R_rows p_d_R_cells p_d_U_rows p_d_U_cells p_d_S_rows p_d_S_cells p_d_T_rows p_d_T_cells p_d_E_rows p_d_E_cells j1 1 ho2) 2 (gV wc_333 wc_334 wc_335 wc_336 wc_337) rfl rfl rfl ⟨rfl, pd_X1_require⟩ ⟨Nat.le_of_ble_eq_true rfl, Nat.le_of_ble_eq_true rfl⟩ 0 rfl rfl rfl rfl (Nat.le_of_ble_eq_true rfl) ⟨Nat.zero_le _, Nat.zero_le _⟩ [0, 1, 2, 3, 4, 5, 6, 7, 8, 9, 10, 11, 12, 13] [] [0, 1, 2, 3, 4, 5, 6, 7, 8, 9, 10, 11, 12, 13] rfl rfl rfl rfl dX1_number_15 18 rfl ?_
    refine v_aload_n X dX1_number_18 0 rfl rfl 19 rfl ?_
    refine v_aload_n X dX1_number_19 0 rfl rfl 20 rfl ?_
    refine v_get X (C := RX1) (T := TX1) (N := 8) (ci := 3) (v := _) dX1_number_20 (lay_of layc_X1) 0 rfl rfl 5 (by decide) (mw wc_305) rfl rfl 23 rfl ?_
    refine v_iload_n X dX1_number_23 1 rfl rfl 24 rfl ?_
    obtain ⟨j3, hj3, hf⟩ := bnd hf
    have Jj3 : vW p l e { frames := 3, cells := 0, slots := 0, locals := 86 } s m args below meth c 3 D A [] 0 0 (MQ below (eI D (tyA c9) A o.1 ((wX1 ad c9 o.2.1 o.2.2.1 o.2.2.2.1 o.2.2.2.2.1 o.2.2.2.2.2.1 o.2.2.2.2.2.2 p_t_count p_t_cells p_d_time p_d_tolerance p_d_seed p_d_madeTickets p_d_cheesesOfText p_d_R_rows p_d_R_cells p_d_U_rows p_d_U_cells p_d_S_rows p_d_S_cells p_d_T_rows p_d_T_cells p_d_E_rows p_d_E_cells) ++ [])) args s 0 0 A) (wX1 ad c9 p_start p_end p_kind p_value o2.1 o2.2 p_t_count p_t_cells p_d_time p_d_tolerance p_d_seed p_d_madeTickets p_d_cheesesOfText p_d_R_rows p_d_R_cells p_d_U_rows p_d_U_cells p_d_S_rows p_d_S_cells p_d_T_rows p_d_T_cells p_d_E_rows p_d_E_cells) 40 [(0, .ref (ad 0))] [.int j3, .ref (ad 0)] := by
      refine v_iconst X dX1_number_40 ic_2 41 rfl ?_
      obtain ⟨o4, ho4, hf⟩ := bnd hf
      refine v_callVv X (ci := 3) (T := TX1) (C := RX1) (As := [.int j3, .int 2]) (rest := []) (ws' := (wX1 ad c9 p_start p_end p_kind p_value o4.1 o4.2 p_t_count p_t_cells p_d_time p_d_tolerance p_d_seed p_d_madeTickets p_d_cheesesOfText p_d_R_rows p_d_R_cells p_d_U_rows p_d_U_cells p_d_S_rows p_d_S_cells p_d_T_rows p_d_T_cells p_d_E_rows p_d_E_cells)) (c_X1_require l hG D c9 ad p_start p_end p_kind p_value o2.1 o2.2 p_t_count p_t_cells p_d_time p_d_tolerance p_d_seed p_d_madeTickets p_d_cheesesOfText p_d_R_rows p_d_R_cells p_d_U_rows p_d_U_cells p_d_S_rows p_d_S_cells p_d_T_rows p_d_T_cells p_d_E_rows p_d_E_cells j3 2 ho4) 2 (gV wc_333 wc_334 wc_335 wc_336 wc_337) rfl rfl rfl ⟨rfl, pd_X1_require⟩ ⟨Nat.le_of_ble_eq_true rfl, Nat.le_of_ble_eq_true rfl⟩ 0 rfl rfl rfl rfl (Nat.le_of_ble_eq_true rfl) ⟨Nat.zero_le _, Nat.zero_le _⟩ [0, 1, 2, 3, 4, 5, 6, 7, 8, 9, 10, 11, 12, 13] [] [0, 1, 2, 3, 4, 5, 6, 7, 8, 9, 10, 11, 12, 13] rfl rfl rfl rfl dX1_number_41 44 rfl ?_
      refine v_aload_n X dX1_number_44 0 rfl rfl 45 rfl ?_
      obtain ⟨o5, ho5, hf⟩ := bnd hf
      refine v_callVi X (ci := 3) (T := TX1) (C := RX1) (As := []) (rest := []) (ws' := (wX1 ad c9 o5.2.1 o5.2.2.1 o5.2.2.2.1 o5.2.2.2.2 o4.1 o4.2 p_t_count p_t_cells p_d_time p_d_tolerance p_d_seed p_d_madeTickets p_d_cheesesOfText p_d_R_rows p_d_R_cells p_d_U_rows p_d_U_cells p_d_S_rows p_d_S_cells p_d_T_rows p_d_T_cells p_d_E_rows p_d_E_cells)) (c_X1_take l hG D c9 ad p_start p_end p_kind p_value o4.1 o4.2 p_t_count p_t_cells p_d_time p_d_tolerance p_d_seed p_d_madeTickets p_d_cheesesOfText p_d_R_rows p_d_R_cells p_d_U_rows p_d_U_cells p_d_S_rows p_d_S_cells p_d_T_rows p_d_T_cells p_d_E_rows p_d_E_cells ho5) 0 (gV wc_338 wc_339 wc_340 wc_336 wc_341) rfl rfl rfl ⟨rfl, pd_X1_take⟩ ⟨Nat.le_of_ble_eq_true rfl, Nat.le_of_ble_eq_true rfl⟩ 0 rfl rfl rfl rfl (Nat.le_of_ble_eq_true rfl) ⟨Nat.zero_le _, Nat.zero_le _⟩ [0, 1, 2, 3, 4, 5, 6, 7, 8, 9, 10, 11, 12, 13] [] [0, 1, 2, 3, 4, 5, 6, 7, 8, 9, 10, 11, 12, 13] rfl rfl rfl rfl dX1_number_45 48 rfl ?_
      obtain rfl := Option.some.inj hf
      exact v_iret X (Nat.zero_le _) (Nat.zero_le _) dX1_number_48
    clear hf
    refine v_icmp_lt X (tgt := 39) dX1_number_24 rfl 27 rfl hj3 (fun hf => ?_) (fun hf => ?_)
    · refine v_iconst X dX1_number_39 ic_0 40 rfl ?_
      obtain rfl := Option.some.inj hf
      refine v_sub (lv' := [(0, .ref (ad 0))]) [0] rfl ?_
      exact Jj3
    · refine v_aload_n X dX1_number_27 0 rfl rfl 28 rfl ?_
      refine v_get X (C := RX1) (T := TX1) (N := 8) (ci := 3) (v := _) dX1_number_28 (lay_of layc_X1) 0 rfl rfl 5 (by decide) (mw wc_305) rfl rfl 31 rfl ?_
      refine v_iload_n X dX1_number_31 2 rfl rfl 32 rfl ?_
      refine v_icmp_gt X (tgt := 39) dX1_number_32 rfl 35 rfl hf (fun hf => ?_) (fun hf => ?_)
      · refine v_iconst X dX1_number_39 ic_0 40 rfl ?_
        obtain rfl := Option.some.inj hf
        refine v_sub (lv' := [(0, .ref (ad 0))]) [0] rfl ?_
        exact Jj3
      · refine v_iconst X dX1_number_35 ic_1 36 rfl ?_
        refine v_goto X (tgt := 40) dX1_number_36 rfl ?_
        obtain rfl := Option.some.inj hf
        refine v_sub (lv' := [(0, .ref (ad 0))]) [0] rfl ?_
        exact Jj3
  clear hf
  refine v_icmp_ne X (tgt := 13) dX1_number_6 rfl 9 rfl hj1 (fun hf => ?_) (fun hf => ?_)
  · refine v_iconst X dX1_number_13 ic_0 14 rfl ?_
    obtain rfl := Option.some.inj hf
    exact Jj1
  · refine v_iconst X dX1_number_9 ic_1 10 rfl ?_
    refine v_goto X (tgt := 14) dX1_number_10 rfl ?_
    obtain rfl := Option.some.inj hf
    exact Jj1
theorem pd_X1_number : yX1_number.cls ≠ "java/lang/invoke/MethodHandle" ∧ yX1_number.cls ≠ "java/lang/invoke/VarHandle" ∧ (parseMethodDescriptor yX1_number.desc).map (fun d => d.parameters.length) = some 2 := by decide +kernel
def f_X1_semicolon (p_start : Int32) (p_end : Int32) (p_kind : Int32) (p_value : Int32) (p_error : Int32) (p_errorAt : Int32) (p_t_count : Int32) (p_t_cells : Nat → Int32) (v1 : Int32) : Option (Int32 × Int32 × Int32 × Int32 × Int32 × Int32 × Int32) :=
  Option.bind (if p_kind = 3 then (
    if p_value = 59 then (
      some (1))
    else (
      some (0)))
  else (
    some (0)) : Option (Int32)) fun j1 =>
  (f_X1_require p_start p_error p_errorAt j1 1).bind fun o2 =>
  (f_X1_require p_start o2.1 o2.2 v1 6).bind fun o3 =>
  (f_X1_take p_start p_end p_kind p_value o3.1 p_t_count p_t_cells).bind fun o4 =>
  if o3.1 = 0 then (
    some (1, o4.2.1, o4.2.2.1, o4.2.2.2.1, o4.2.2.2.2, o3.1, o3.2))
  else (
    some (0, o4.2.1, o4.2.2.1, o4.2.2.2.1, o4.2.2.2.2, o3.1, o3.2))
set_option maxRecDepth 100000 in
set_option maxHeartbeats 4000000 in
theorem c_X1_semicolon (l : Launch) {G : (Nat → Prop) → State → Heap → Prop} (hG : vG G) (D : va_G) (c9 : Nat → ClassId) (ad : Nat → Nat) (p_start : Int32) (p_end : Int32) (p_kind : Int32) (p_value : Int32) (p_error : Int32) (p_errorAt : Int32) (p_t_count : Int32) (p_t_cells : Nat → Int32) (p_d_time : Int32) (p_d_tolerance : Int32) (p_d_seed : Int32) (p_d_madeTickets : Int32) (p_d_cheesesOfText : Int32) (p_d_R_rows : Int32) (p_d_R_cells : Nat → Int32) (p_d_U_rows : Int32) (p_d_U_cells : Nat → Int32) (p_d_S_rows : Int32) (p_d_S_cells : Nat → Int32) (p_d_T_rows : Int32) (p_d_T_cells : Nat → Int32) (p_d_E_rows : Int32) (p_d_E_cells : Nat → Int32) (v1 : Int32) {o : Int32 × Int32 × Int32 × Int32 × Int32 × Int32 × Int32} (hf : f_X1_semicolon p_start p_end p_kind p_value p_error p_errorAt p_t_count p_t_cells v1 = some o) : mI l yX1_semicolon (wq yX1_semicolon cX1_semicolon 2 (some .boolean)) { frames := 3, cells := 0, slots := 0, locals := 86 } G D (tyA c9) [.ref (ad 0), .int v1] (wX1 ad c9 p_start p_end p_kind p_value p_error p_errorAt p_t_count p_t_cells p_d_time p_d_tolerance p_d_seed p_d_madeTickets p_d_cheesesOfText p_d_R_rows p_d_R_cells p_d_U_rows p_d_U_cells p_d_S_rows p_d_S_cells p_d_T_rows p_d_T_cells p_d_E_rows p_d_E_cells) [] 0 0 o.1 (wX1 ad c9 o.2.1 o.2.2.1 o.2.2.2.1 o.2.2.2.2.1 o.2.2.2.2.2.1 o.2.2.2.2.2.2 p_t_count p_t_cells p_d_time p_d_tolerance p_d_seed p_d_madeTickets p_d_cheesesOfText p_d_R_rows p_d_R_cells p_d_U_rows p_d_U_cells p_d_S_rows p_d_S_cells p_d_T_rows p_d_T_cells p_d_E_rows p_d_E_cells) := by
  refine mI_of hG (cc := cX1_semicolon) (maxL := 2) (ty := .boolean) (by decide) rfl (Nat.le_of_ble_eq_true rfl) ?_
  intro p e s m args below meth c A X
  have X : vX p s m args meth c cX1_semicolon 2 (some .boolean) RX1 (wq yX1_semicolon cX1_semicolon 2 (some .boolean)) D (tyA c9) G A := X
  refine v_eq (lv2 := [(0, .ref (ad 0)), (1, .int v1)]) rfl rfl rfl rfl ?_
  rw [f_X1_semicolon] at hf
  refine v_aload_n X dX1_semicolon_0 0 rfl rfl 1 rfl ?_
  refine v_aload_n X dX1_semicolon_1 0 rfl rfl 2 rfl ?_
  refine v_get X (C := RX1) (T := TX1) (N := 8) (ci := 3) (v := _) dX1_semicolon_2 (lay_of layc_X1) 0 rfl rfl 4 (by decide) (mw wc_315) rfl rfl 5 rfl ?_
  refine v_iconst X dX1_semicolon_5 ic_3 6 rfl ?_
  obtain ⟨j1, hj1, hf⟩ := bnd hf
  have Jj1 : vW p l e { frames := 3, cells := 0, slots := 0, locals := 86 } s m args below meth c 2 D A [] 0 0 (MQ below (eI D (tyA c9) A o.1 ((wX1 ad c9 o.2.1 o.2.2.1 o.2.2.2.1 o.2.2.2.2.1 o.2.2.2.2.2.1 o.2.2.2.2.2.2 p_t_count p_t_cells p_d_time p_d_tolerance p_d_seed p_d_madeTickets p_d_cheesesOfText p_d_R_rows p_d_R_cells p_d_U_rows p_d_U_cells p_d_S_rows p_d_S_cells p_d_T_rows p_d_T_cells p_d_E_rows p_d_E_cells) ++ [])) args s 0 0 A) (wX1 ad c9 p_start p_end p_kind p_value p_error p_errorAt p_t_count p_t_cells p_d_time p_d_tolerance p_d_seed p_d_madeTickets p_d_cheesesOfText p_d_R_rows p_d_R_cells p_d_U_rows p_d_U_cells p_d_S_rows p_d_S_cells p_d_T_rows p_d_T_cells p_d_E_rows p_d_E_cells) 23 [(0, .ref (ad 0)), (1, .int v1)] [.int j1, .ref (ad 0)] := by
    refine v_iconst X dX1_semicolon_23 ic_1 24 rfl ?_
    obtain ⟨o2, ho2, hf⟩ := bnd hf
    refine v_callVv X (ci := 3) (T := TX1) (C := RX1) (As := [.int j1, .int 1]) (rest := []) (ws' := (wX1 ad c9 p_start p_end p_kind p_value o2.1 o2.2 p_t_count p_t_cells p_d_time p_d_tolerance p_d_seed p_d_madeTickets p_d_cheesesOfText p_d_R_rows p_d_R_cells p_d_U_rows p_d_U_cells p_d_S_rows p_d_S_cells p_d_T_rows p_d_T_cells p_d_E_rows p_d_E_cells)) (c_X1_require l hG D c9 ad p_start p_end p_kind p_value p_error p_errorAt p_t_count p_t_cells p_d_time p_d_tolerance p_d_seed p_d_madeTickets p_d_cheesesOfText p_d_R_rows p_d_R_cells p_d_U_rows p_d_U_cells p_d_S_rows p_d_S_cells p_d_T_rows p_d_T_cells p_d_E_rows p_d_E_cells j1 1 ho2) 2 (gV wc_333 wc_334 wc_335 wc_336 wc_337) rfl rfl rfl ⟨rfl, pd_X1_require⟩ ⟨Nat.le_of_ble_eq_true rfl, Nat.le_of_ble_eq_true rfl⟩ 0 rfl rfl rfl rfl (Nat.le_of_ble_eq_true rfl) ⟨Nat.zero_le _, Nat.zero_le _⟩ [0, 1, 2, 3, 4, 5, 6, 7, 8, 9, 10, 11, 12, 13] [] [0, 1, 2, 3, 4, 5, 6, 7, 8, 9, 10, 11, 12, 13] rfl rfl rfl rfl dX1_semicolon_24 27 rfl ?_
    refine v_aload_n X dX1_semicolon_27 0 rfl rfl 28 rfl ?_
    refine v_iload_n X dX1_semicolon_28 1 rfl rfl 29 rfl ?_
    refine v_bipush X dX1_semicolon_29 bp_6 31 rfl ?_
    obtain ⟨o3, ho3, hf⟩ := bnd hf
    refine v_callVv X (ci := 3) (T := TX1) (C := RX1) (As := [.int v1, .int 6]) (rest := []) (ws' := (wX1 ad c9 p_start p_end p_kind p_value o3.1 o3.2 p_t_count p_t_cells p_d_time p_d_tolerance p_d_seed p_d_madeTickets p_d_cheesesOfText p_d_R_rows p_d_R_cells p_d_U_rows p_d_U_cells p_d_S_rows p_d_S_cells p_d_T_rows p_d_T_cells p_d_E_rows p_d_E_cells)) (c_X1_require l hG D c9 ad p_start p_end p_kind p_value o2.1 o2.2 p_t_count p_t_cells p_d_time p_d_tolerance p_d_seed p_d_madeTickets p_d_cheesesOfText p_d_R_rows p_d_R_cells p_d_U_rows p_d_U_cells p_d_S_rows p_d_S_cells p_d_T_rows p_d_T_cells p_d_E_rows p_d_E_cells v1 6 ho3) 2 (gV wc_333 wc_334 wc_335 wc_336 wc_337) rfl rfl rfl ⟨rfl, pd_X1_require⟩ ⟨Nat.le_of_ble_eq_true rfl, Nat.le_of_ble_eq_true rfl⟩ 0 rfl rfl rfl rfl (Nat.le_of_ble_eq_true rfl) ⟨Nat.zero_le _, Nat.zero_le _⟩ [0, 1, 2, 3, 4, 5, 6, 7, 8, 9, 10, 11, 12, 13] [] [0, 1, 2, 3, 4, 5, 6, 7, 8, 9, 10, 11, 12, 13] rfl rfl rfl rfl dX1_semicolon_31 34 rfl ?_
    refine v_aload_n X dX1_semicolon_34 0 rfl rfl 35 rfl ?_
    obtain ⟨o4, ho4, hf⟩ := bnd hf
    refine v_callVi X (ci := 3) (T := TX1) (C := RX1) (As := []) (rest := []) (ws' := (wX1 ad c9 o4.2.1 o4.2.2.1 o4.2.2.2.1 o4.2.2.2.2 o3.1 o3.2 p_t_count p_t_cells p_d_time p_d_tolerance p_d_seed p_d_madeTickets p_d_cheesesOfText p_d_R_rows p_d_R_cells p_d_U_rows p_d_U_cells p_d_S_rows p_d_S_cells p_d_T_rows p_d_T_cells p_d_E_rows p_d_E_cells)) (c_X1_take l hG D c9 ad p_start p_end p_kind p_value o3.1 o3.2 p_t_count p_t_cells p_d_time p_d_tolerance p_d_seed p_d_madeTickets p_d_cheesesOfText p_d_R_rows p_d_R_cells p_d_U_rows p_d_U_cells p_d_S_rows p_d_S_cells p_d_T_rows p_d_T_cells p_d_E_rows p_d_E_cells ho4) 0 (gV wc_338 wc_339 wc_340 wc_336 wc_341) rfl rfl rfl ⟨rfl, pd_X1_take⟩ ⟨Nat.le_of_ble_eq_true rfl, Nat.le_of_ble_eq_true rfl⟩ 0 rfl rfl rfl rfl (Nat.le_of_ble_eq_true rfl) ⟨Nat.zero_le _, Nat.zero_le _⟩ [0, 1, 2, 3, 4, 5, 6, 7, 8, 9, 10, 11, 12, 13] [] [0, 1, 2, 3, 4, 5, 6, 7, 8, 9, 10, 11, 12, 13] rfl rfl rfl rfl dX1_semicolon_35 38 rfl ?_
    refine v_pop X dX1_semicolon_38 rfl 39 rfl ?_
    refine v_aload_n X dX1_semicolon_39 0 rfl rfl 40 rfl ?_
    refine v_get X (C := RX1) (T := TX1) (N := 8) (ci := 3) (v := _) dX1_semicolon_40 (lay_of layc_X1) 0 rfl rfl 6 (by decide) (mw wc_306) rfl rfl 43 rfl ?_
    refine v_if_ne X (tgt := 50) dX1_semicolon_43 rfl 46 rfl hf (fun hf => ?_) (fun hf => ?_)
    · refine v_iconst X dX1_semicolon_50 ic_0 51 rfl ?_
      obtain rfl := Option.some.inj hf
      exact v_zret X (Nat.zero_le _) (Nat.zero_le _) nz0 dX1_semicolon_51
    · refine v_iconst X dX1_semicolon_46 ic_1 47 rfl ?_
      refine v_goto X (tgt := 51) dX1_semicolon_47 rfl ?_
      obtain rfl := Option.some.inj hf
      exact v_zret X (Nat.zero_le _) (Nat.zero_le _) nz1 dX1_semicolon_51
  clear hf
  refine v_icmp_ne X (tgt := 22) dX1_semicolon_6 rfl 9 rfl hj1 (fun hf => ?_) (fun hf => ?_)
  · refine v_iconst X dX1_semicolon_22 ic_0 23 rfl ?_
    obtain rfl := Option.some.inj hf
    exact Jj1
  · refine v_aload_n X dX1_semicolon_9 0 rfl rfl 10 rfl ?_
    refine v_get X (C := RX1) (T := TX1) (N := 8) (ci := 3) (v := _) dX1_semicolon_10 (lay_of layc_X1) 0 rfl rfl 5 (by decide) (mw wc_305) rfl rfl 13 rfl ?_
    refine v_bipush X dX1_semicolon_13 bp_59 15 rfl ?_
    refine v_icmp_ne X (tgt := 22) dX1_semicolon_15 rfl 18 rfl hf (fun hf => ?_) (fun hf => ?_)
    · refine v_iconst X dX1_semicolon_22 ic_0 23 rfl ?_
      obtain rfl := Option.some.inj hf
      exact Jj1
    · refine v_iconst X dX1_semicolon_18 ic_1 19 rfl ?_
      refine v_goto X (tgt := 23) dX1_semicolon_19 rfl ?_
      obtain rfl := Option.some.inj hf
      exact Jj1
theorem pd_X1_semicolon : yX1_semicolon.cls ≠ "java/lang/invoke/MethodHandle" ∧ yX1_semicolon.cls ≠ "java/lang/invoke/VarHandle" ∧ (parseMethodDescriptor yX1_semicolon.desc).map (fun d => d.parameters.length) = some 1 := by decide +kernel
def f_X1_readGate (p_start : Int32) (p_end : Int32) (p_kind : Int32) (p_value : Int32) (p_error : Int32) (p_errorAt : Int32) (p_t_count : Int32) (p_t_cells : Nat → Int32) (p_d_time : Int32) (p_d_tolerance : Int32) (p_d_seed : Int32) (p_d_madeTickets : Int32) (p_d_cheesesOfText : Int32) (p_d_R_rows : Int32) (p_d_U_rows : Int32) (p_d_S_rows : Int32) (p_d_T_rows : Int32) (p_d_E_rows : Int32) : Option (Int32 × Int32 × Int32 × Int32 × Int32 × Int32 × Int32 × Int32 × Int32 × Int32 × Int32 × Int32 × Int32 × Int32 × Int32 × Int32) :=
  (f_X1_isWord p_start p_end p_kind p_t_count p_t_cells 17).bind fun o1 =>
  (f_X1_require p_start p_error p_errorAt o1 1).bind fun o2 =>
  (f_X1_take p_start p_end p_kind p_value o2.1 p_t_count p_t_cells).bind fun o3 =>
  (f_X1_number o3.2.1 o3.2.2.1 o3.2.2.2.1 o3.2.2.2.2 o2.1 o2.2 p_t_count p_t_cells 0 9).bind fun o4 =>
  (f_X1_number o4.2.1 o4.2.2.1 o4.2.2.2.1 o4.2.2.2.2.1 o4.2.2.2.2.2.1 o4.2.2.2.2.2.2 p_t_count p_t_cells 0 1023).bind fun o5 =>
  (f_X1_semicolon o5.2.1 o5.2.2.1 o5.2.2.2.1 o5.2.2.2.2.1 o5.2.2.2.2.2.1 o5.2.2.2.2.2.2 p_t_count p_t_cells 1).bind fun o6 =>
  if o6.1 = 0 then (
    some (o6.2.1, o6.2.2.1, o6.2.2.2.1, o6.2.2.2.2.1, o6.2.2.2.2.2.1, o6.2.2.2.2.2.2, p_d_time, p_d_tolerance, p_d_seed, p_d_madeTickets, p_d_cheesesOfText, p_d_R_rows, p_d_U_rows, p_d_S_rows, p_d_T_rows, p_d_E_rows))
  else (
    (f_X5_begin p_d_time p_d_tolerance p_d_seed p_d_madeTickets p_d_cheesesOfText p_d_R_rows p_d_U_rows p_d_S_rows p_d_T_rows p_d_E_rows o4.1 o5.1).bind fun o7 =>
    some (o6.2.1, o6.2.2.1, o6.2.2.2.1, o6.2.2.2.2.1, o6.2.2.2.2.2.1, o6.2.2.2.2.2.2, o7.1, o7.2.1, o7.2.2.1, o7.2.2.2.1, o7.2.2.2.2.1, o7.2.2.2.2.2.1, o7.2.2.2.2.2.2.1, o7.2.2.2.2.2.2.2.1, o7.2.2.2.2.2.2.2.2.1, o7.2.2.2.2.2.2.2.2.2))
set_option maxRecDepth 100000 in
set_option maxHeartbeats 4000000 in
theorem c_X1_readGate (l : Launch) {G : (Nat → Prop) → State → Heap → Prop} (hG : vG G) (D : va_G) (c9 : Nat → ClassId) (sk sv : Nat → Nat) (hGU : ∀ (A : Nat → Prop) (U : State) (H : Heap), G A U H → vU sk sv A U H) (ad : Nat → Nat) (p_start : Int32) (p_end : Int32) (p_kind : Int32) (p_value : Int32) (p_error : Int32) (p_errorAt : Int32) (p_t_count : Int32) (p_t_cells : Nat → Int32) (p_d_time : Int32) (p_d_tolerance : Int32) (p_d_seed : Int32) (p_d_madeTickets : Int32) (p_d_cheesesOfText : Int32) (p_d_R_rows : Int32) (p_d_R_cells : Nat → Int32) (p_d_U_rows : Int32) (p_d_U_cells : Nat → Int32) (p_d_S_rows : Int32) (p_d_S_cells : Nat → Int32) (p_d_T_rows : Int32) (p_d_T_cells : Nat → Int32) (p_d_E_rows : Int32) (p_d_E_cells : Nat → Int32)  {o : Int32 × Int32 × Int32 × Int32 × Int32 × Int32 × Int32 × Int32 × Int32 × Int32 × Int32 × Int32 × Int32 × Int32 × Int32 × Int32} (hf : f_X1_readGate p_start p_end p_kind p_value p_error p_errorAt p_t_count p_t_cells p_d_time p_d_tolerance p_d_seed p_d_madeTickets p_d_cheesesOfText p_d_R_rows p_d_U_rows p_d_S_rows p_d_T_rows p_d_E_rows = some o) : mV l yX1_readGate (wq yX1_readGate cX1_readGate 3 none) { frames := 7, cells := 0, slots := 0, locals := 196 } G D (tyA c9) [.ref (ad 0)] (wX1 ad c9 p_start p_end p_kind p_value p_error p_errorAt p_t_count p_t_cells p_d_time p_d_tolerance p_d_seed p_d_madeTickets p_d_cheesesOfText p_d_R_rows p_d_R_cells p_d_U_rows p_d_U_cells p_d_S_rows p_d_S_cells p_d_T_rows p_d_T_cells p_d_E_rows p_d_E_cells) [] 0 0 (wX1 ad c9 o.1 o.2.1 o.2.2.1 o.2.2.2.1 o.2.2.2.2.1 o.2.2.2.2.2.1 p_t_count p_t_cells o.2.2.2.2.2.2.1 o.2.2.2.2.2.2.2.1 o.2.2.2.2.2.2.2.2.1 o.2.2.2.2.2.2.2.2.2.1 o.2.2.2.2.2.2.2.2.2.2.1 o.2.2.2.2.2.2.2.2.2.2.2.1 p_d_R_cells o.2.2.2.2.2.2.2.2.2.2.2.2.1 p_d_U_cells o.2.2.2.2.2.2.2.2.2.2.2.2.2.1 p_d_S_cells o.2.2.2.2.2.2.2.2.2.2.2.2.2.2.1 p_d_T_cells o.2.2.2.2.2.2.2.2.2.2.2.2.2.2.2 p_d_E_cells) := by
  refine mV_of hG (cc := cX1_readGate) (maxL := 3) (by decide) rfl (Nat.le_of_ble_eq_true rfl) ?_
  intro p e s m args below meth c A hnm X
  have X : vX p s m args meth c cX1_readGate 3 none RX1 (wq yX1_readGate cX1_readGate 3 none) D (tyA c9) G A := X
  refine v_eq (lv2 := [(0, .ref (ad 0))]) rfl rfl rfl rfl ?_
  rw [f_X1_readGate] at hf
  refine v_aload_n X dX1_readGate_0 0 rfl rfl 1 rfl ?_
  refine v_aload_n X dX1_readGate_1 0 rfl rfl 2 rfl ?_
  refine v_lds X hGU (i := 17) dX1_readGate_2 js_RX1_113 4 rfl ?_
  obtain ⟨o1, ho1, hf⟩ := bnd hf
  refine v_callVi X (ci := 3) (T := TX1) (C := RX1) (As := [.ref (sk 17)]) (rest := [.ref (ad 0)]) (ws' := (wX1 ad c9 p_start p_end p_kind p_value p_error p_errorAt p_t_count p_t_cells p_d_time p_d_tolerance p_d_seed p_d_madeTickets p_d_cheesesOfText p_d_R_rows p_d_R_cells p_d_U_rows p_d_U_cells p_d_S_rows p_d_S_cells p_d_T_rows p_d_T_cells p_d_E_rows p_d_E_cells)) (c_X1_isWord l hG D c9 sk sv hGU ad p_start p_end p_kind p_value p_error p_errorAt p_t_count p_t_cells p_d_time p_d_tolerance p_d_seed p_d_madeTickets p_d_cheesesOfText p_d_R_rows p_d_R_cells p_d_U_rows p_d_U_cells p_d_S_rows p_d_S_cells p_d_T_rows p_d_T_cells p_d_E_rows p_d_E_cells 17 (by decide) ho1) 1 (gV wc_342 wc_343 wc_344 wc_336 wc_345) rfl rfl rfl ⟨rfl, pd_X1_isWord⟩ ⟨Nat.le_of_ble_eq_true rfl, Nat.le_of_ble_eq_true rfl⟩ 0 rfl rfl rfl rfl (Nat.le_of_ble_eq_true rfl) ⟨Nat.zero_le _, Nat.zero_le _⟩ [0, 1, 2, 3, 4, 5, 6, 7, 8, 9, 10, 11, 12, 13] [] [0, 1, 2, 3, 4, 5, 6, 7, 8, 9, 10, 11, 12, 13] rfl rfl rfl rfl dX1_readGate_4 7 rfl ?_
  refine v_iconst X dX1_readGate_7 ic_1 8 rfl ?_
  obtain ⟨o2, ho2, hf⟩ := bnd hf
  refine v_callVv X (ci := 3) (T := TX1) (C := RX1) (As := [.int o1, .int 1]) (rest := []) (ws' := (wX1 ad c9 p_start p_end p_kind p_value o2.1 o2.2 p_t_count p_t_cells p_d_time p_d_tolerance p_d_seed p_d_madeTickets p_d_cheesesOfText p_d_R_rows p_d_R_cells p_d_U_rows p_d_U_cells p_d_S_rows p_d_S_cells p_d_T_rows p_d_T_cells p_d_E_rows p_d_E_cells)) (c_X1_require l hG D c9 ad p_start p_end p_kind p_value p_error p_errorAt p_t_count p_t_cells p_d_time p_d_tolerance p_d_seed p_d_madeTickets p_d_cheesesOfText p_d_R_rows p_d_R_cells p_d_U_rows p_d_U_cells p_d_S_rows p_d_S_cells p_d_T_rows p_d_T_cells p_d_E_rows p_d_E_cells o1 1 ho2) 2 (gV wc_333 wc_334 wc_335 wc_336 wc_337) rfl rfl rfl ⟨rfl, pd_X1_require⟩ ⟨Nat.le_of_ble_eq_true rfl, Nat.le_of_ble_eq_true rfl⟩ 0 rfl rfl rfl rfl (Nat.le_of_ble_eq_true rfl) ⟨Nat.zero_le _, Nat.zero_le _⟩ [0, 1, 2, 3, 4, 5, 6, 7, 8, 9, 10, 11, 12, 13] [] [0, 1, 2, 3, 4, 5, 6, 7, 8, 9, 10, 11, 12, 13] rfl rfl rfl rfl dX1_readGate_8 11 rfl ?_
  refine v_aload_n X dX1_readGate_11 0 rfl rfl 12 rfl ?_
  obtain ⟨o3, ho3, hf⟩ := bnd hf
  refine v_callVi X (ci := 3) (T := TX1) (C := RX1) (As := []) (rest := []) (ws' := (wX1 ad c9 o3.2.1 o3.2.2.1 o3.2.2.2.1 o3.2.2.2.2 o2.1 o2.2 p_t_count p_t_cells p_d_time p_d_tolerance p_d_seed p_d_madeTickets p_d_cheesesOfText p_d_R_rows p_d_R_cells p_d_U_rows p_d_U_cells p_d_S_rows p_d_S_cells p_d_T_rows p_d_T_cells p_d_E_rows p_d_E_cells)) (c_X1_take l hG D c9 ad p_start p_end p_kind p_value o2.1 o2.2 p_t_count p_t_cells p_d_time p_d_tolerance p_d_seed p_d_madeTickets p_d_cheesesOfText p_d_R_rows p_d_R_cells p_d_U_rows p_d_U_cells p_d_S_rows p_d_S_cells p_d_T_rows p_d_T_cells p_d_E_rows p_d_E_cells ho3) 0 (gV wc_338 wc_339 wc_340 wc_336 wc_341) rfl rfl rfl ⟨rfl, pd_X1_take⟩ ⟨Nat.le_of_ble_eq_true rfl, Nat.le_of_ble_eq_true rfl⟩ 0 rfl rfl rfl rfl (Nat.le_of_ble_eq_true rfl) ⟨Nat.zero_le _, Nat.zero_le _⟩ [0, 1, 2, 3, 4, 5, 6, 7, 8, 9, 10, 11, 12, 13] [] [0, 1, 2, 3, 4, 5, 6, 7, 8, 9, 10, 11, 12, 13] rfl rfl rfl rfl dX1_readGate_12 15 rfl ?_
  refine v_pop X dX1_readGate_15 rfl 16 rfl ?_
  refine v_aload_n X dX1_readGate_16 0 rfl rfl 17 rfl ?_
  refine v_iconst X dX1_readGate_17 ic_0 18 rfl ?_
  refine v_bipush X dX1_readGate_18 bp_9 20 rfl ?_
  obtain ⟨o4, ho4, hf⟩ := bnd hf
  refine v_callVi X (ci := 3) (T := TX1) (C := RX1) (As := [.int 0, .int 9]) (rest := []) (ws' := (wX1 ad c9 o4.2.1 o4.2.2.1 o4.2.2.2.1 o4.2.2.2.2.1 o4.2.2.2.2.2.1 o4.2.2.2.2.2.2 p_t_count p_t_cells p_d_time p_d_tolerance p_d_seed p_d_madeTickets p_d_cheesesOfText p_d_R_rows p_d_R_cells p_d_U_rows p_d_U_cells p_d_S_rows p_d_S_cells p_d_T_rows p_d_T_cells p_d_E_rows p_d_E_cells)) (c_X1_number l hG D c9 ad o3.2.1 o3.2.2.1 o3.2.2.2.1 o3.2.2.2.2 o2.1 o2.2 p_t_count p_t_cells p_d_time p_d_tolerance p_d_seed p_d_madeTickets p_d_cheesesOfText p_d_R_rows p_d_R_cells p_d_U_rows p_d_U_cells p_d_S_rows p_d_S_cells p_d_T_rows p_d_T_cells p_d_E_rows p_d_E_cells 0 9 ho4) 2 (gV wc_346 wc_347 wc_348 wc_336 wc_349) rfl rfl rfl ⟨rfl, pd_X1_number⟩ ⟨Nat.le_of_ble_eq_true rfl, Nat.le_of_ble_eq_true rfl⟩ 0 rfl rfl rfl rfl (Nat.le_of_ble_eq_true rfl) ⟨Nat.zero_le _, Nat.zero_le _⟩ [0, 1, 2, 3, 4, 5, 6, 7, 8, 9, 10, 11, 12, 13] [] [0, 1, 2, 3, 4, 5, 6, 7, 8, 9, 10, 11, 12, 13] rfl rfl rfl rfl dX1_readGate_20 23 rfl ?_
  refine v_istore_n X (lv' := [(1, .int o4.1), (0, .ref (ad 0))]) dX1_readGate_23 rfl (by decide) rfl 24 rfl ?_
  refine v_aload_n X dX1_readGate_24 1 rfl rfl 25 rfl ?_
  refine v_iconst X dX1_readGate_25 ic_0 26 rfl ?_
  refine v_sipush X dX1_readGate_26 sp_1023 29 rfl ?_
  obtain ⟨o5, ho5, hf⟩ := bnd hf
  refine v_callVi X (ci := 3) (T := TX1) (C := RX1) (As := [.int 0, .int 1023]) (rest := []) (ws' := (wX1 ad c9 o5.2.1 o5.2.2.1 o5.2.2.2.1 o5.2.2.2.2.1 o5.2.2.2.2.2.1 o5.2.2.2.2.2.2 p_t_count p_t_cells p_d_time p_d_tolerance p_d_seed p_d_madeTickets p_d_cheesesOfText p_d_R_rows p_d_R_cells p_d_U_rows p_d_U_cells p_d_S_rows p_d_S_cells p_d_T_rows p_d_T_cells p_d_E_rows p_d_E_cells)) (c_X1_number l hG D c9 ad o4.2.1 o4.2.2.1 o4.2.2.2.1 o4.2.2.2.2.1 o4.2.2.2.2.2.1 o4.2.2.2.2.2.2 p_t_count p_t_cells p_d_time p_d_tolerance p_d_seed p_d_madeTickets p_d_cheesesOfText p_d_R_rows p_d_R_cells p_d_U_rows p_d_U_cells p_d_S_rows p_d_S_cells p_d_T_rows p_d_T_cells p_d_E_rows p_d_E_cells 0 1023 ho5) 2 (gV wc_346 wc_347 wc_348 wc_336 wc_349) rfl rfl rfl ⟨rfl, pd_X1_number⟩ ⟨Nat.le_of_ble_eq_true rfl, Nat.le_of_ble_eq_true rfl⟩ 0 rfl rfl rfl rfl (Nat.le_of_ble_eq_true rfl) ⟨Nat.zero_le _, Nat.zero_le _⟩ [0, 1, 2, 3, 4, 5, 6, 7, 8, 9, 10, 11, 12, 13] [] [0, 1, 2, 3, 4, 5, 6, 7, 8, 9, 10, 11, 12, 13] rfl rfl rfl rfl dX1_readGate_29 32 rfl ?_
  refine v_istore_n X (lv' := [(2, .int o5.1), (1, .int o4.1), (0, .ref (ad 0))]) dX1_readGate_32 rfl (by decide) rfl 33 rfl ?_
  refine v_aload_n X dX1_readGate_33 2 rfl rfl 34 rfl ?_
  refine v_iconst X dX1_readGate_34 ic_1 35 rfl ?_
  obtain ⟨o6, ho6, hf⟩ := bnd hf
  refine v_callVi X (ci := 3) (T := TX1) (C := RX1) (As := [.int 1]) (rest := []) (ws' := (wX1 ad c9 o6.2.1 o6.2.2.1 o6.2.2.2.1 o6.2.2.2.2.1 o6.2.2.2.2.2.1 o6.2.2.2.2.2.2 p_t_count p_t_cells p_d_time p_d_tolerance p_d_seed p_d_madeTickets p_d_cheesesOfText p_d_R_rows p_d_R_cells p_d_U_rows p_d_U_cells p_d_S_rows p_d_S_cells p_d_T_rows p_d_T_cells p_d_E_rows p_d_E_cells)) (c_X1_semicolon l hG D c9 ad o5.2.1 o5.2.2.1 o5.2.2.2.1 o5.2.2.2.2.1 o5.2.2.2.2.2.1 o5.2.2.2.2.2.2 p_t_count p_t_cells p_d_time p_d_tolerance p_d_seed p_d_madeTickets p_d_cheesesOfText p_d_R_rows p_d_R_cells p_d_U_rows p_d_U_cells p_d_S_rows p_d_S_cells p_d_T_rows p_d_T_cells p_d_E_rows p_d_E_cells 1 ho6) 1 (gV wc_350 wc_351 wc_352 wc_336 wc_353) rfl rfl rfl ⟨rfl, pd_X1_semicolon⟩ ⟨Nat.le_of_ble_eq_true rfl, Nat.le_of_ble_eq_true rfl⟩ 0 rfl rfl rfl rfl (Nat.le_of_ble_eq_true rfl) ⟨Nat.zero_le _, Nat.zero_le _⟩ [0, 1, 2, 3, 4, 5, 6, 7, 8, 9, 10, 11, 12, 13] [] [0, 1, 2, 3, 4, 5, 6, 7, 8, 9, 10, 11, 12, 13] rfl rfl rfl rfl dX1_readGate_35 38 rfl ?_
  refine v_if_eq X (tgt := 50) dX1_readGate_38 rfl 41 rfl hf (fun hf => ?_) (fun hf => ?_)
  · obtain rfl := Option.some.inj hf
    exact v_vret X (Nat.zero_le _) (Nat.zero_le _) dX1_readGate_50
  · refine v_aload_n X dX1_readGate_41 2 rfl rfl 42 rfl ?_
    refine v_get X (C := RX1) (T := TX1) (N := 8) (ci := 3) (v := _) dX1_readGate_42 (lay_of layc_X1) 0 rfl rfl 1 (by decide) (mw wc_354) rfl rfl 45 rfl ?_
    refine v_iload_n X dX1_readGate_45 1 rfl rfl 46 rfl ?_
    refine v_iload_n X dX1_readGate_46 0 rfl rfl 47 rfl ?_
    obtain ⟨o7, ho7, hf⟩ := bnd hf
    refine v_callVv X (ci := 7) (T := TX5) (C := RX5) (As := [.int o4.1, .int o5.1]) (rest := []) (ws' := (wX1 ad c9 o6.2.1 o6.2.2.1 o6.2.2.2.1 o6.2.2.2.2.1 o6.2.2.2.2.2.1 o6.2.2.2.2.2.2 p_t_count p_t_cells o7.1 o7.2.1 o7.2.2.1 o7.2.2.2.1 o7.2.2.2.2.1 o7.2.2.2.2.2.1 p_d_R_cells o7.2.2.2.2.2.2.1 p_d_U_cells o7.2.2.2.2.2.2.2.1 p_d_S_cells o7.2.2.2.2.2.2.2.2.1 p_d_T_cells o7.2.2.2.2.2.2.2.2.2 p_d_E_cells)) (c_X5_begin l hG D c9 (fun k => ad ([3, 4, 5, 6, 7, 8, 9, 10, 11, 12, 13].getD k 0)) p_d_time p_d_tolerance p_d_seed p_d_madeTickets p_d_cheesesOfText p_d_R_rows p_d_R_cells p_d_U_rows p_d_U_cells p_d_S_rows p_d_S_cells p_d_T_rows p_d_T_cells p_d_E_rows p_d_E_cells o4.1 o5.1 ho7) 2 (gV wc_355 wc_356 wc_357 wc_233 wc_358) rfl rfl rfl ⟨rfl, pd_X5_begin⟩ ⟨Nat.le_of_ble_eq_true rfl, Nat.le_of_ble_eq_true rfl⟩ 3 rfl rfl rfl rfl (Nat.le_of_ble_eq_true rfl) ⟨Nat.zero_le _, Nat.zero_le _⟩ [3, 4, 5, 6, 7, 8, 9, 10, 11, 12, 13] [0, 1, 2] [0, 1, 2, 3, 4, 5, 6, 7, 8, 9, 10, 11, 12, 13] rfl rfl rfl rfl dX1_readGate_47 50 rfl ?_
    obtain rfl := Option.some.inj hf
    exact v_vret X (Nat.zero_le _) (Nat.zero_le _) dX1_readGate_50
theorem pd_X1_readGate : yX1_readGate.cls ≠ "java/lang/invoke/MethodHandle" ∧ yX1_readGate.cls ≠ "java/lang/invoke/VarHandle" ∧ (parseMethodDescriptor yX1_readGate.desc).map (fun d => d.parameters.length) = some 0 := by decide +kernel
def f_X1_readPass (p_start : Int32) (p_end : Int32) (p_kind : Int32) (p_value : Int32) (p_error : Int32) (p_errorAt : Int32) (p_t_count : Int32) (p_t_cells : Nat → Int32) (p_d_time : Int32) (p_d_tolerance : Int32) (p_d_E_rows : Int32) (p_d_E_cells : Nat → Int32) : Option (Int32 × Int32 × Int32 × Int32 × Int32 × Int32 × Int32 × Int32 × (Nat → Int32)) :=
  (f_X1_take p_start p_end p_kind p_value p_error p_t_count p_t_cells).bind fun o1 =>
  (f_X1_number o1.2.1 o1.2.2.1 o1.2.2.2.1 o1.2.2.2.2 p_error p_errorAt p_t_count p_t_cells 0 999).bind fun o2 =>
  (f_X1_semicolon o2.2.1 o2.2.2.1 o2.2.2.2.1 o2.2.2.2.2.1 o2.2.2.2.2.2.1 o2.2.2.2.2.2.2 p_t_count p_t_cells 1).bind fun o3 =>
  if o3.1 = 0 then (
    some (o3.2.1, o3.2.2.1, o3.2.2.2.1, o3.2.2.2.2.1, o3.2.2.2.2.2.1, o3.2.2.2.2.2.2, p_d_time, p_d_E_rows, p_d_E_cells))
  else (
    (f_X5_letPass p_d_time p_d_tolerance p_d_E_rows p_d_E_cells o2.1).bind fun o4 =>
    some (o3.2.1, o3.2.2.1, o3.2.2.2.1, o3.2.2.2.2.1, o3.2.2.2.2.2.1, o3.2.2.2.2.2.2, o4.1, o4.2.1, o4.2.2))
set_option maxRecDepth 100000 in
set_option maxHeartbeats 4000000 in
theorem c_X1_readPass (l : Launch) {G : (Nat → Prop) → State → Heap → Prop} (hG : vG G) (D : va_G) (c9 : Nat → ClassId) (ad : Nat → Nat) (p_start : Int32) (p_end : Int32) (p_kind : Int32) (p_value : Int32) (p_error : Int32) (p_errorAt : Int32) (p_t_count : Int32) (p_t_cells : Nat → Int32) (p_d_time : Int32) (p_d_tolerance : Int32) (p_d_seed : Int32) (p_d_madeTickets : Int32) (p_d_cheesesOfText : Int32) (p_d_R_rows : Int32) (p_d_R_cells : Nat → Int32) (p_d_U_rows : Int32) (p_d_U_cells : Nat → Int32) (p_d_S_rows : Int32) (p_d_S_cells : Nat → Int32) (p_d_T_rows : Int32) (p_d_T_cells : Nat → Int32) (p_d_E_rows : Int32) (p_d_E_cells : Nat → Int32)  {o : Int32 × Int32 × Int32 × Int32 × Int32 × Int32 × Int32 × Int32 × (Nat → Int32)} (hf : f_X1_readPass p_start p_end p_kind p_value p_error p_errorAt p_t_count p_t_cells p_d_time p_d_tolerance p_d_E_rows p_d_E_cells = some o) : mV l yX1_readPass (wq yX1_readPass cX1_readPass 2 none) { frames := 4, cells := 0, slots := 0, locals := 108 } G D (tyA c9) [.ref (ad 0)] (wX1 ad c9 p_start p_end p_kind p_value p_error p_errorAt p_t_count p_t_cells p_d_time p_d_tolerance p_d_seed p_d_madeTickets p_d_cheesesOfText p_d_R_rows p_d_R_cells p_d_U_rows p_d_U_cells p_d_S_rows p_d_S_cells p_d_T_rows p_d_T_cells p_d_E_rows p_d_E_cells) [] 0 0 (wX1 ad c9 o.1 o.2.1 o.2.2.1 o.2.2.2.1 o.2.2.2.2.1 o.2.2.2.2.2.1 p_t_count p_t_cells o.2.2.2.2.2.2.1 p_d_tolerance p_d_seed p_d_madeTickets p_d_cheesesOfText p_d_R_rows p_d_R_cells p_d_U_rows p_d_U_cells p_d_S_rows p_d_S_cells p_d_T_rows p_d_T_cells o.2.2.2.2.2.2.2.1 o.2.2.2.2.2.2.2.2) := by
  refine mV_of hG (cc := cX1_readPass) (maxL := 2) (by decide) rfl (Nat.le_of_ble_eq_true rfl) ?_
  intro p e s m args below meth c A hnm X
  have X : vX p s m args meth c cX1_readPass 2 none RX1 (wq yX1_readPass cX1_readPass 2 none) D (tyA c9) G A := X
  refine v_eq (lv2 := [(0, .ref (ad 0))]) rfl rfl rfl rfl ?_
  rw [f_X1_readPass] at hf
  refine v_aload_n X dX1_readPass_0 0 rfl rfl 1 rfl ?_
  obtain ⟨o1, ho1, hf⟩ := bnd hf
  refine v_callVi X (ci := 3) (T := TX1) (C := RX1) (As := []) (rest := []) (ws' := (wX1 ad c9 o1.2.1 o1.2.2.1 o1.2.2.2.1 o1.2.2.2.2 p_error p_errorAt p_t_count p_t_cells p_d_time p_d_tolerance p_d_seed p_d_madeTickets p_d_cheesesOfText p_d_R_rows p_d_R_cells p_d_U_rows p_d_U_cells p_d_S_rows p_d_S_cells p_d_T_rows p_d_T_cells p_d_E_rows p_d_E_cells)) (c_X1_take l hG D c9 ad p_start p_end p_kind p_value p_error p_errorAt p_t_count p_t_cells p_d_time p_d_tolerance p_d_seed p_d_madeTickets p_d_cheesesOfText p_d_R_rows p_d_R_cells p_d_U_rows p_d_U_cells p_d_S_rows p_d_S_cells p_d_T_rows p_d_T_cells p_d_E_rows p_d_E_cells ho1) 0 (gV wc_338 wc_339 wc_340 wc_336 wc_341) rfl rfl rfl ⟨rfl, pd_X1_take⟩ ⟨Nat.le_of_ble_eq_true rfl, Nat.le_of_ble_eq_true rfl⟩ 0 rfl rfl rfl rfl (Nat.le_of_ble_eq_true rfl) ⟨Nat.zero_le _, Nat.zero_le _⟩ [0, 1, 2, 3, 4, 5, 6, 7, 8, 9, 10, 11, 12, 13] [] [0, 1, 2, 3, 4, 5, 6, 7, 8, 9, 10, 11, 12, 13] rfl rfl rfl rfl dX1_readPass_1 4 rfl ?_
  refine v_pop X dX1_readPass_4 rfl 5 rfl ?_
  refine v_aload_n X dX1_readPass_5 0 rfl rfl 6 rfl ?_
  refine v_iconst X dX1_readPass_6 ic_0 7 rfl ?_
  refine v_sipush X dX1_readPass_7 sp_999 10 rfl ?_
  obtain ⟨o2, ho2, hf⟩ := bnd hf
  refine v_callVi X (ci := 3) (T := TX1) (C := RX1) (As := [.int 0, .int 999]) (rest := []) (ws' := (wX1 ad c9 o2.2.1 o2.2.2.1 o2.2.2.2.1 o2.2.2.2.2.1 o2.2.2.2.2.2.1 o2.2.2.2.2.2.2 p_t_count p_t_cells p_d_time p_d_tolerance p_d_seed p_d_madeTickets p_d_cheesesOfText p_d_R_rows p_d_R_cells p_d_U_rows p_d_U_cells p_d_S_rows p_d_S_cells p_d_T_rows p_d_T_cells p_d_E_rows p_d_E_cells)) (c_X1_number l hG D c9 ad o1.2.1 o1.2.2.1 o1.2.2.2.1 o1.2.2.2.2 p_error p_errorAt p_t_count p_t_cells p_d_time p_d_tolerance p_d_seed p_d_madeTickets p_d_cheesesOfText p_d_R_rows p_d_R_cells p_d_U_rows p_d_U_cells p_d_S_rows p_d_S_cells p_d_T_rows p_d_T_cells p_d_E_rows p_d_E_cells 0 999 ho2) 2 (gV wc_346 wc_347 wc_348 wc_336 wc_349) rfl rfl rfl ⟨rfl, pd_X1_number⟩ ⟨Nat.le_of_ble_eq_true rfl, Nat.le_of_ble_eq_true rfl⟩ 0 rfl rfl rfl rfl (Nat.le_of_ble_eq_true rfl) ⟨Nat.zero_le _, Nat.zero_le _⟩ [0, 1, 2, 3, 4, 5, 6, 7, 8, 9, 10, 11, 12, 13] [] [0, 1, 2, 3, 4, 5, 6, 7, 8, 9, 10, 11, 12, 13] rfl rfl rfl rfl dX1_readPass_10 13 rfl ?_
  refine v_istore_n X (lv' := [(1, .int o2.1), (0, .ref (ad 0))]) dX1_readPass_13 rfl (by decide) rfl 14 rfl ?_
  refine v_aload_n X dX1_readPass_14 1 rfl rfl 15 rfl ?_
  refine v_iconst X dX1_readPass_15 ic_1 16 rfl ?_
  obtain ⟨o3, ho3, hf⟩ := bnd hf
  refine v_callVi X (ci := 3) (T := TX1) (C := RX1) (As := [.int 1]) (rest := []) (ws' := (wX1 ad c9 o3.2.1 o3.2.2.1 o3.2.2.2.1 o3.2.2.2.2.1 o3.2.2.2.2.2.1 o3.2.2.2.2.2.2 p_t_count p_t_cells p_d_time p_d_tolerance p_d_seed p_d_madeTickets p_d_cheesesOfText p_d_R_rows p_d_R_cells p_d_U_rows p_d_U_cells p_d_S_rows p_d_S_cells p_d_T_rows p_d_T_cells p_d_E_rows p_d_E_cells)) (c_X1_semicolon l hG D c9 ad o2.2.1 o2.2.2.1 o2.2.2.2.1 o2.2.2.2.2.1 o2.2.2.2.2.2.1 o2.2.2.2.2.2.2 p_t_count p_t_cells p_d_time p_d_tolerance p_d_seed p_d_madeTickets p_d_cheesesOfText p_d_R_rows p_d_R_cells p_d_U_rows p_d_U_cells p_d_S_rows p_d_S_cells p_d_T_rows p_d_T_cells p_d_E_rows p_d_E_cells 1 ho3) 1 (gV wc_350 wc_351 wc_352 wc_336 wc_353) rfl rfl rfl ⟨rfl, pd_X1_semicolon⟩ ⟨Nat.le_of_ble_eq_true rfl, Nat.le_of_ble_eq_true rfl⟩ 0 rfl rfl rfl rfl (Nat.le_of_ble_eq_true rfl) ⟨Nat.zero_le _, Nat.zero_le _⟩ [0, 1, 2, 3, 4, 5, 6, 7, 8, 9, 10, 11, 12, 13] [] [0, 1, 2, 3, 4, 5, 6, 7, 8, 9, 10, 11, 12, 13] rfl rfl rfl rfl dX1_readPass_16 19 rfl ?_
  refine v_if_eq X (tgt := 30) dX1_readPass_19 rfl 22 rfl hf (fun hf => ?_) (fun hf => ?_)
  · obtain rfl := Option.some.inj hf
    exact v_vret X (Nat.zero_le _) (Nat.zero_le _) dX1_readPass_30
  · refine v_aload_n X dX1_readPass_22 1 rfl rfl 23 rfl ?_
    refine v_get X (C := RX1) (T := TX1) (N := 8) (ci := 3) (v := _) dX1_readPass_23 (lay_of layc_X1) 0 rfl rfl 1 (by decide) (mw wc_354) rfl rfl 26 rfl ?_
    refine v_iload_n X dX1_readPass_26 0 rfl rfl 27 rfl ?_
    obtain ⟨o4, ho4, hf⟩ := bnd hf
    refine v_callVv X (ci := 7) (T := TX5) (C := RX5) (As := [.int o2.1]) (rest := []) (ws' := (wX1 ad c9 o3.2.1 o3.2.2.1 o3.2.2.2.1 o3.2.2.2.2.1 o3.2.2.2.2.2.1 o3.2.2.2.2.2.2 p_t_count p_t_cells o4.1 p_d_tolerance p_d_seed p_d_madeTickets p_d_cheesesOfText p_d_R_rows p_d_R_cells p_d_U_rows p_d_U_cells p_d_S_rows p_d_S_cells p_d_T_rows p_d_T_cells o4.2.1 o4.2.2)) (c_X5_letPass l hG D c9 (fun k => ad ([3, 4, 5, 6, 7, 8, 9, 10, 11, 12, 13].getD k 0)) p_d_time p_d_tolerance p_d_seed p_d_madeTickets p_d_cheesesOfText p_d_R_rows p_d_R_cells p_d_U_rows p_d_U_cells p_d_S_rows p_d_S_cells p_d_T_rows p_d_T_cells p_d_E_rows p_d_E_cells o2.1 ho4) 1 (gV wc_359 wc_360 wc_361 wc_233 wc_362) rfl rfl rfl ⟨rfl, pd_X5_letPass⟩ ⟨Nat.le_of_ble_eq_true rfl, Nat.le_of_ble_eq_true rfl⟩ 3 rfl rfl rfl rfl (Nat.le_of_ble_eq_true rfl) ⟨Nat.zero_le _, Nat.zero_le _⟩ [3, 4, 5, 6, 7, 8, 9, 10, 11, 12, 13] [0, 1, 2] [0, 1, 2, 3, 4, 5, 6, 7, 8, 9, 10, 11, 12, 13] rfl rfl rfl rfl dX1_readPass_27 30 rfl ?_
    obtain rfl := Option.some.inj hf
    exact v_vret X (Nat.zero_le _) (Nat.zero_le _) dX1_readPass_30
theorem pd_X1_readPass : yX1_readPass.cls ≠ "java/lang/invoke/MethodHandle" ∧ yX1_readPass.cls ≠ "java/lang/invoke/VarHandle" ∧ (parseMethodDescriptor yX1_readPass.desc).map (fun d => d.parameters.length) = some 0 := by decide +kernel
def f_X1_readSweep (p_start : Int32) (p_end : Int32) (p_kind : Int32) (p_value : Int32) (p_error : Int32) (p_errorAt : Int32) (p_t_count : Int32) (p_t_cells : Nat → Int32) (p_d_time : Int32) (p_d_T_rows : Int32) (p_d_T_cells : Nat → Int32) : Option (Int32 × Int32 × Int32 × Int32 × Int32 × Int32 × Int32 × (Nat → Int32)) :=
  (f_X1_take p_start p_end p_kind p_value p_error p_t_count p_t_cells).bind fun o1 =>
  (f_X1_semicolon o1.2.1 o1.2.2.1 o1.2.2.2.1 o1.2.2.2.2 p_error p_errorAt p_t_count p_t_cells 1).bind fun o2 =>
  if o2.1 = 0 then (
    some (o2.2.1, o2.2.2.1, o2.2.2.2.1, o2.2.2.2.2.1, o2.2.2.2.2.2.1, o2.2.2.2.2.2.2, p_d_T_rows, p_d_T_cells))
  else (
    (f_X7_removeDead p_d_T_rows p_d_T_cells p_d_time).bind fun o3 =>
    some (o2.2.1, o2.2.2.1, o2.2.2.2.1, o2.2.2.2.2.1, o2.2.2.2.2.2.1, o2.2.2.2.2.2.2, o3.2.1, o3.2.2))
set_option maxRecDepth 100000 in
set_option maxHeartbeats 4000000 in
theorem c_X1_readSweep (l : Launch) {G : (Nat → Prop) → State → Heap → Prop} (hG : vG G) (D : va_G) (c9 : Nat → ClassId) (ad : Nat → Nat) (p_start : Int32) (p_end : Int32) (p_kind : Int32) (p_value : Int32) (p_error : Int32) (p_errorAt : Int32) (p_t_count : Int32) (p_t_cells : Nat → Int32) (p_d_time : Int32) (p_d_tolerance : Int32) (p_d_seed : Int32) (p_d_madeTickets : Int32) (p_d_cheesesOfText : Int32) (p_d_R_rows : Int32) (p_d_R_cells : Nat → Int32) (p_d_U_rows : Int32) (p_d_U_cells : Nat → Int32) (p_d_S_rows : Int32) (p_d_S_cells : Nat → Int32) (p_d_T_rows : Int32) (p_d_T_cells : Nat → Int32) (p_d_E_rows : Int32) (p_d_E_cells : Nat → Int32)  {o : Int32 × Int32 × Int32 × Int32 × Int32 × Int32 × Int32 × (Nat → Int32)} (hf : f_X1_readSweep p_start p_end p_kind p_value p_error p_errorAt p_t_count p_t_cells p_d_time p_d_T_rows p_d_T_cells = some o) : mV l yX1_readSweep (wq yX1_readSweep cX1_readSweep 1 none) { frames := 4, cells := 0, slots := 0, locals := 107 } G D (tyA c9) [.ref (ad 0)] (wX1 ad c9 p_start p_end p_kind p_value p_error p_errorAt p_t_count p_t_cells p_d_time p_d_tolerance p_d_seed p_d_madeTickets p_d_cheesesOfText p_d_R_rows p_d_R_cells p_d_U_rows p_d_U_cells p_d_S_rows p_d_S_cells p_d_T_rows p_d_T_cells p_d_E_rows p_d_E_cells) [] 0 0 (wX1 ad c9 o.1 o.2.1 o.2.2.1 o.2.2.2.1 o.2.2.2.2.1 o.2.2.2.2.2.1 p_t_count p_t_cells p_d_time p_d_tolerance p_d_seed p_d_madeTickets p_d_cheesesOfText p_d_R_rows p_d_R_cells p_d_U_rows p_d_U_cells p_d_S_rows p_d_S_cells o.2.2.2.2.2.2.1 o.2.2.2.2.2.2.2 p_d_E_rows p_d_E_cells) := by
  refine mV_of hG (cc := cX1_readSweep) (maxL := 1) (by decide) rfl (Nat.le_of_ble_eq_true rfl) ?_
  intro p e s m args below meth c A hnm X
  have X : vX p s m args meth c cX1_readSweep 1 none RX1 (wq yX1_readSweep cX1_readSweep 1 none) D (tyA c9) G A := X
  refine v_eq (lv2 := [(0, .ref (ad 0))]) rfl rfl rfl rfl ?_
  rw [f_X1_readSweep] at hf
  refine v_aload_n X dX1_readSweep_0 0 rfl rfl 1 rfl ?_
  obtain ⟨o1, ho1, hf⟩ := bnd hf
  refine v_callVi X (ci := 3) (T := TX1) (C := RX1) (As := []) (rest := []) (ws' := (wX1 ad c9 o1.2.1 o1.2.2.1 o1.2.2.2.1 o1.2.2.2.2 p_error p_errorAt p_t_count p_t_cells p_d_time p_d_tolerance p_d_seed p_d_madeTickets p_d_cheesesOfText p_d_R_rows p_d_R_cells p_d_U_rows p_d_U_cells p_d_S_rows p_d_S_cells p_d_T_rows p_d_T_cells p_d_E_rows p_d_E_cells)) (c_X1_take l hG D c9 ad p_start p_end p_kind p_value p_error p_errorAt p_t_count p_t_cells p_d_time p_d_tolerance p_d_seed p_d_madeTickets p_d_cheesesOfText p_d_R_rows p_d_R_cells p_d_U_rows p_d_U_cells p_d_S_rows p_d_S_cells p_d_T_rows p_d_T_cells p_d_E_rows p_d_E_cells ho1) 0 (gV wc_338 wc_339 wc_340 wc_336 wc_341) rfl rfl rfl ⟨rfl, pd_X1_take⟩ ⟨Nat.le_of_ble_eq_true rfl, Nat.le_of_ble_eq_true rfl⟩ 0 rfl rfl rfl rfl (Nat.le_of_ble_eq_true rfl) ⟨Nat.zero_le _, Nat.zero_le _⟩ [0, 1, 2, 3, 4, 5, 6, 7, 8, 9, 10, 11, 12, 13] [] [0, 1, 2, 3, 4, 5, 6, 7, 8, 9, 10, 11, 12, 13] rfl rfl rfl rfl dX1_readSweep_1 4 rfl ?_
  refine v_pop X dX1_readSweep_4 rfl 5 rfl ?_
  refine v_aload_n X dX1_readSweep_5 0 rfl rfl 6 rfl ?_
  refine v_iconst X dX1_readSweep_6 ic_1 7 rfl ?_
  obtain ⟨o2, ho2, hf⟩ := bnd hf
  refine v_callVi X (ci := 3) (T := TX1) (C := RX1) (As := [.int 1]) (rest := []) (ws' := (wX1 ad c9 o2.2.1 o2.2.2.1 o2.2.2.2.1 o2.2.2.2.2.1 o2.2.2.2.2.2.1 o2.2.2.2.2.2.2 p_t_count p_t_cells p_d_time p_d_tolerance p_d_seed p_d_madeTickets p_d_cheesesOfText p_d_R_rows p_d_R_cells p_d_U_rows p_d_U_cells p_d_S_rows p_d_S_cells p_d_T_rows p_d_T_cells p_d_E_rows p_d_E_cells)) (c_X1_semicolon l hG D c9 ad o1.2.1 o1.2.2.1 o1.2.2.2.1 o1.2.2.2.2 p_error p_errorAt p_t_count p_t_cells p_d_time p_d_tolerance p_d_seed p_d_madeTickets p_d_cheesesOfText p_d_R_rows p_d_R_cells p_d_U_rows p_d_U_cells p_d_S_rows p_d_S_cells p_d_T_rows p_d_T_cells p_d_E_rows p_d_E_cells 1 ho2) 1 (gV wc_350 wc_351 wc_352 wc_336 wc_353) rfl rfl rfl ⟨rfl, pd_X1_semicolon⟩ ⟨Nat.le_of_ble_eq_true rfl, Nat.le_of_ble_eq_true rfl⟩ 0 rfl rfl rfl rfl (Nat.le_of_ble_eq_true rfl) ⟨Nat.zero_le _, Nat.zero_le _⟩ [0, 1, 2, 3, 4, 5, 6, 7, 8, 9, 10, 11, 12, 13] [] [0, 1, 2, 3, 4, 5, 6, 7, 8, 9, 10, 11, 12, 13] rfl rfl rfl rfl dX1_readSweep_7 10 rfl ?_
  refine v_if_eq X (tgt := 31) dX1_readSweep_10 rfl 13 rfl hf (fun hf => ?_) (fun hf => ?_)
  · obtain rfl := Option.some.inj hf
    exact v_vret X (Nat.zero_le _) (Nat.zero_le _) dX1_readSweep_31
  · refine v_aload_n X dX1_readSweep_13 0 rfl rfl 14 rfl ?_
    refine v_get X (C := RX1) (T := TX1) (N := 8) (ci := 3) (v := _) dX1_readSweep_14 (lay_of layc_X1) 0 rfl rfl 1 (by decide) (mw wc_354) rfl rfl 17 rfl ?_
    refine v_getN X (C := RX5) (T := TX5) (N := 10) (ci := 7) (v := _) dX1_readSweep_17 (lay_of layc_X5) 3 rfl rfl 3 (by decide) nest_RX1_225 rfl rfl 20 rfl ?_
    refine v_aload_n X dX1_readSweep_20 0 rfl rfl 21 rfl ?_
    refine v_get X (C := RX1) (T := TX1) (N := 8) (ci := 3) (v := _) dX1_readSweep_21 (lay_of layc_X1) 0 rfl rfl 1 (by decide) (mw wc_354) rfl rfl 24 rfl ?_
    refine v_getN X (C := RX5) (T := TX5) (N := 10) (ci := 7) (v := _) dX1_readSweep_24 (lay_of layc_X5) 3 rfl rfl 5 (by decide) nest_RX1_235 rfl rfl 27 rfl ?_
    obtain ⟨o3, ho3, hf⟩ := bnd hf
    refine v_callVi X (ci := 8) (T := TX7) (C := RX7) (As := [.int p_d_time]) (rest := []) (ws' := (wX1 ad c9 o2.2.1 o2.2.2.1 o2.2.2.2.1 o2.2.2.2.2.1 o2.2.2.2.2.2.1 o2.2.2.2.2.2.2 p_t_count p_t_cells p_d_time p_d_tolerance p_d_seed p_d_madeTickets p_d_cheesesOfText p_d_R_rows p_d_R_cells p_d_U_rows p_d_U_cells p_d_S_rows p_d_S_cells o3.2.1 o3.2.2 p_d_E_rows p_d_E_cells)) (c_X7_removeDead l hG D c9 (fun k => ad ([10, 11].getD k 0)) p_d_T_rows p_d_T_cells p_d_time ho3) 1 (gV wc_363 wc_364 wc_365 wc_91 wc_366) rfl rfl rfl ⟨rfl, pd_X7_removeDead⟩ ⟨Nat.le_of_ble_eq_true rfl, Nat.le_of_ble_eq_true rfl⟩ 10 rfl rfl rfl rfl (Nat.le_of_ble_eq_true rfl) ⟨Nat.zero_le _, Nat.zero_le _⟩ [10, 11] [0, 1, 2, 3, 4, 5, 6, 7, 8, 9, 12, 13] [0, 1, 2, 3, 4, 5, 6, 7, 8, 9, 12, 13, 10, 11] rfl rfl rfl rfl dX1_readSweep_27 30 rfl ?_
    refine v_pop X dX1_readSweep_30 rfl 31 rfl ?_
    obtain rfl := Option.some.inj hf
    exact v_vret X (Nat.zero_le _) (Nat.zero_le _) dX1_readSweep_31
theorem pd_X1_readSweep : yX1_readSweep.cls ≠ "java/lang/invoke/MethodHandle" ∧ yX1_readSweep.cls ≠ "java/lang/invoke/VarHandle" ∧ (parseMethodDescriptor yX1_readSweep.desc).map (fun d => d.parameters.length) = some 0 := by decide +kernel
theorem pd_X6_rowWith_UX1_knownTicket_250 : "TicketGate$Table" ≠ "java/lang/invoke/MethodHandle" ∧ "TicketGate$Table" ≠ "java/lang/invoke/VarHandle" ∧ (parseMethodDescriptor "(II)I").map (fun d => d.parameters.length) = some 2 := by decide +kernel
def f_X1_knownTicket (p_start : Int32) (p_end : Int32) (p_kind : Int32) (p_value : Int32) (p_error : Int32) (p_errorAt : Int32) (p_t_count : Int32) (p_t_cells : Nat → Int32) (p_d_T_rows : Int32) (p_d_T_cells : Nat → Int32) : Option (Int32 × Int32 × Int32 × Int32 × Int32 × Int32 × Int32) :=
  (f_X6_rowWith 240 10 p_d_T_rows p_d_T_cells 0 p_value).bind fun o1 =>
  Option.bind (if p_kind = 2 then (
    some (1))
  else (
    some (0)) : Option (Int32)) fun j2 =>
  (f_X1_require p_start p_error p_errorAt j2 1).bind fun o3 =>
  Option.bind (if o1 = (-1) then (
    some (0))
  else (
    some (1)) : Option (Int32)) fun j4 =>
  (f_X1_require p_start o3.1 o3.2 j4 4).bind fun o5 =>
  (f_X1_take p_start p_end p_kind p_value o5.1 p_t_count p_t_cells).bind fun o6 =>
  some (o1, o6.2.1, o6.2.2.1, o6.2.2.2.1, o6.2.2.2.2, o5.1, o5.2)
set_option maxRecDepth 100000 in
set_option maxHeartbeats 4000000 in
theorem c_X1_knownTicket (l : Launch) {G : (Nat → Prop) → State → Heap → Prop} (hG : vG G) (D : va_G) (c9 : Nat → ClassId) (ad : Nat → Nat) (p_start : Int32) (p_end : Int32) (p_kind : Int32) (p_value : Int32) (p_error : Int32) (p_errorAt : Int32) (p_t_count : Int32) (p_t_cells : Nat → Int32) (p_d_time : Int32) (p_d_tolerance : Int32) (p_d_seed : Int32) (p_d_madeTickets : Int32) (p_d_cheesesOfText : Int32) (p_d_R_rows : Int32) (p_d_R_cells : Nat → Int32) (p_d_U_rows : Int32) (p_d_U_cells : Nat → Int32) (p_d_S_rows : Int32) (p_d_S_cells : Nat → Int32) (p_d_T_rows : Int32) (p_d_T_cells : Nat → Int32) (p_d_E_rows : Int32) (p_d_E_cells : Nat → Int32)  {o : Int32 × Int32 × Int32 × Int32 × Int32 × Int32 × Int32} (hf : f_X1_knownTicket p_start p_end p_kind p_value p_error p_errorAt p_t_count p_t_cells p_d_T_rows p_d_T_cells = some o) : mI l yX1_knownTicket (wq yX1_knownTicket cX1_knownTicket 2 (some .int)) { frames := 3, cells := 0, slots := 0, locals := 86 } G D (tyA c9) [.ref (ad 0)] (wX1 ad c9 p_start p_end p_kind p_value p_error p_errorAt p_t_count p_t_cells p_d_time p_d_tolerance p_d_seed p_d_madeTickets p_d_cheesesOfText p_d_R_rows p_d_R_cells p_d_U_rows p_d_U_cells p_d_S_rows p_d_S_cells p_d_T_rows p_d_T_cells p_d_E_rows p_d_E_cells) [] 0 0 o.1 (wX1 ad c9 o.2.1 o.2.2.1 o.2.2.2.1 o.2.2.2.2.1 o.2.2.2.2.2.1 o.2.2.2.2.2.2 p_t_count p_t_cells p_d_time p_d_tolerance p_d_seed p_d_madeTickets p_d_cheesesOfText p_d_R_rows p_d_R_cells p_d_U_rows p_d_U_cells p_d_S_rows p_d_S_cells p_d_T_rows p_d_T_cells p_d_E_rows p_d_E_cells) := by
  refine mI_of hG (cc := cX1_knownTicket) (maxL := 2) (ty := .int) (by decide) rfl (Nat.le_of_ble_eq_true rfl) ?_
  intro p e s m args below meth c A X
  have X : vX p s m args meth c cX1_knownTicket 2 (some .int) RX1 (wq yX1_knownTicket cX1_knownTicket 2 (some .int)) D (tyA c9) G A := X
  refine v_eq (lv2 := [(0, .ref (ad 0))]) rfl rfl rfl rfl ?_
  rw [f_X1_knownTicket] at hf
  refine v_aload_n X dX1_knownTicket_0 0 rfl rfl 1 rfl ?_
  refine v_get X (C := RX1) (T := TX1) (N := 8) (ci := 3) (v := _) dX1_knownTicket_1 (lay_of layc_X1) 0 rfl rfl 1 (by decide) (mw wc_354) rfl rfl 4 rfl ?_
  refine v_getN X (C := RX5) (T := TX5) (N := 10) (ci := 7) (v := _) dX1_knownTicket_4 (lay_of layc_X5) 3 rfl rfl 3 (by decide) nest_RX1_225 rfl rfl 7 rfl ?_
  refine v_iconst X dX1_knownTicket_7 ic_0 8 rfl ?_
  refine v_aload_n X dX1_knownTicket_8 0 rfl rfl 9 rfl ?_
  refine v_get X (C := RX1) (T := TX1) (N := 8) (ci := 3) (v := _) dX1_knownTicket_9 (lay_of layc_X1) 0 rfl rfl 5 (by decide) (mw wc_305) rfl rfl 12 rfl ?_
  obtain ⟨o1, ho1, hf⟩ := bnd hf
  refine v_callUi X (ci := 8) (T := TX7) (C := RX7) (owner := "TicketGate$Table") (As := [.int 0, .int p_value]) (rest := []) (ws' := (wX1 ad c9 p_start p_end p_kind p_value p_error p_errorAt p_t_count p_t_cells p_d_time p_d_tolerance p_d_seed p_d_madeTickets p_d_cheesesOfText p_d_R_rows p_d_R_cells p_d_U_rows p_d_U_cells p_d_S_rows p_d_S_cells p_d_T_rows p_d_T_cells p_d_E_rows p_d_E_cells)) (c_X6_rowWith l hG D c9 (fun k => ad ([10, 11].getD k 0)) 240 8 RX7 rfl layc_X7 wc_367 24 10 p_d_T_rows p_d_T_cells 0 p_value ho1) 2 (gU wc_368 wc_369 wc_370 wc_212 wc_34 wc_213) rfl rfl rfl rfl pd_X6_rowWith_UX1_knownTicket_250 ⟨Nat.le_of_ble_eq_true rfl, Nat.le_of_ble_eq_true rfl⟩ 10 rfl rfl rfl rfl (Nat.le_of_ble_eq_true rfl) ⟨Nat.zero_le _, Nat.zero_le _⟩ [10, 11] [0, 1, 2, 3, 4, 5, 6, 7, 8, 9, 12, 13] [0, 1, 2, 3, 4, 5, 6, 7, 8, 9, 12, 13, 10, 11] rfl rfl rfl rfl dX1_knownTicket_12 15 rfl ?_
  refine v_istore_n X (lv' := [(1, .int o1), (0, .ref (ad 0))]) dX1_knownTicket_15 rfl (by decide) rfl 16 rfl ?_
  refine v_aload_n X dX1_knownTicket_16 1 rfl rfl 17 rfl ?_
  refine v_aload_n X dX1_knownTicket_17 1 rfl rfl 18 rfl ?_
  refine v_get X (C := RX1) (T := TX1) (N := 8) (ci := 3) (v := _) dX1_knownTicket_18 (lay_of layc_X1) 0 rfl rfl 4 (by decide) (mw wc_315) rfl rfl 21 rfl ?_
  refine v_iconst X dX1_knownTicket_21 ic_2 22 rfl ?_
  obtain ⟨j2, hj2, hf⟩ := bnd hf
  have Jj2 : vW p l e { frames := 3, cells := 0, slots := 0, locals := 86 } s m args below meth c 2 D A [] 0 0 (MQ below (eI D (tyA c9) A o.1 ((wX1 ad c9 o.2.1 o.2.2.1 o.2.2.2.1 o.2.2.2.2.1 o.2.2.2.2.2.1 o.2.2.2.2.2.2 p_t_count p_t_cells p_d_time p_d_tolerance p_d_seed p_d_madeTickets p_d_cheesesOfText p_d_R_rows p_d_R_cells p_d_U_rows p_d_U_cells p_d_S_rows p_d_S_cells p_d_T_rows p_d_T_cells p_d_E_rows p_d_E_cells) ++ [])) args s 0 0 A) (wX1 ad c9 p_start p_end p_kind p_value p_error p_errorAt p_t_count p_t_cells p_d_time p_d_tolerance p_d_seed p_d_madeTickets p_d_cheesesOfText p_d_R_rows p_d_R_cells p_d_U_rows p_d_U_cells p_d_S_rows p_d_S_cells p_d_T_rows p_d_T_cells p_d_E_rows p_d_E_cells) 30 [(0, .ref (ad 0)), (1, .int o1)] [.int j2, .ref (ad 0)] := by
    refine v_iconst X dX1_knownTicket_30 ic_1 31 rfl ?_
    obtain ⟨o3, ho3, hf⟩ := bnd hf
    refine v_callVv X (ci := 3) (T := TX1) (C := RX1) (As := [.int j2, .int 1]) (rest := []) (ws' := (wX1 ad c9 p_start p_end p_kind p_value o3.1 o3.2 p_t_count p_t_cells p_d_time p_d_tolerance p_d_seed p_d_madeTickets p_d_cheesesOfText p_d_R_rows p_d_R_cells p_d_U_rows p_d_U_cells p_d_S_rows p_d_S_cells p_d_T_rows p_d_T_cells p_d_E_rows p_d_E_cells)) (c_X1_require l hG D c9 ad p_start p_end p_kind p_value p_error p_errorAt p_t_count p_t_cells p_d_time p_d_tolerance p_d_seed p_d_madeTickets p_d_cheesesOfText p_d_R_rows p_d_R_cells p_d_U_rows p_d_U_cells p_d_S_rows p_d_S_cells p_d_T_rows p_d_T_cells p_d_E_rows p_d_E_cells j2 1 ho3) 2 (gV wc_333 wc_334 wc_335 wc_336 wc_337) rfl rfl rfl ⟨rfl, pd_X1_require⟩ ⟨Nat.le_of_ble_eq_true rfl, Nat.le_of_ble_eq_true rfl⟩ 0 rfl rfl rfl rfl (Nat.le_of_ble_eq_true rfl) ⟨Nat.zero_le _, Nat.zero_le _⟩ [0, 1, 2, 3, 4, 5, 6, 7, 8, 9, 10, 11, 12, 13] [] [0, 1, 2, 3, 4, 5, 6, 7, 8, 9, 10, 11, 12, 13] rfl rfl rfl rfl dX1_knownTicket_31 34 rfl ?_
    refine v_aload_n X dX1_knownTicket_34 0 rfl rfl 35 rfl ?_
    refine v_iload_n X dX1_knownTicket_35 1 rfl rfl 36 rfl ?_
    refine v_iconst X dX1_knownTicket_36 ic_m1 37 rfl ?_
    obtain ⟨j4, hj4, hf⟩ := bnd hf
    have Jj4 : vW p l e { frames := 3, cells := 0, slots := 0, locals := 86 } s m args below meth c 2 D A [] 0 0 (MQ below (eI D (tyA c9) A o.1 ((wX1 ad c9 o.2.1 o.2.2.1 o.2.2.2.1 o.2.2.2.2.1 o.2.2.2.2.2.1 o.2.2.2.2.2.2 p_t_count p_t_cells p_d_time p_d_tolerance p_d_seed p_d_madeTickets p_d_cheesesOfText p_d_R_rows p_d_R_cells p_d_U_rows p_d_U_cells p_d_S_rows p_d_S_cells p_d_T_rows p_d_T_cells p_d_E_rows p_d_E_cells) ++ [])) args s 0 0 A) (wX1 ad c9 p_start p_end p_kind p_value o3.1 o3.2 p_t_count p_t_cells p_d_time p_d_tolerance p_d_seed p_d_madeTickets p_d_cheesesOfText p_d_R_rows p_d_R_cells p_d_U_rows p_d_U_cells p_d_S_rows p_d_S_cells p_d_T_rows p_d_T_cells p_d_E_rows p_d_E_cells) 45 [(0, .ref (ad 0)), (1, .int o1)] [.int j4, .ref (ad 0)] := by
      refine v_iconst X dX1_knownTicket_45 ic_4 46 rfl ?_
      obtain ⟨o5, ho5, hf⟩ := bnd hf
      refine v_callVv X (ci := 3) (T := TX1) (C := RX1) (As := [.int j4, .int 4]) (rest := []) (ws' := (wX1 ad c9 p_start p_end p_kind p_value o5.1 o5.2 p_t_count p_t_cells p_d_time p_d_tolerance p_d_seed p_d_madeTickets p_d_cheesesOfText p_d_R_rows p_d_R_cells p_d_U_rows p_d_U_cells p_d_S_rows p_d_S_cells p_d_T_rows p_d_T_cells p_d_E_rows p_d_E_cells)) (c_X1_require l hG D c9 ad p_start p_end p_kind p_value o3.1 o3.2 p_t_count p_t_cells p_d_time p_d_tolerance p_d_seed p_d_madeTickets p_d_cheesesOfText p_d_R_rows p_d_R_cells p_d_U_rows p_d_U_cells p_d_S_rows p_d_S_cells p_d_T_rows p_d_T_cells p_d_E_rows p_d_E_cells j4 4 ho5) 2 (gV wc_333 wc_334 wc_335 wc_336 wc_337) rfl rfl rfl ⟨rfl, pd_X1_require⟩ ⟨Nat.le_of_ble_eq_true rfl, Nat.le_of_ble_eq_true rfl⟩ 0 rfl rfl rfl rfl (Nat.le_of_ble_eq_true rfl) ⟨Nat.zero_le _, Nat.zero_le _⟩ [0, 1, 2, 3, 4, 5, 6, 7, 8, 9, 10, 11, 12, 13] [] [0, 1, 2, 3, 4, 5, 6, 7, 8, 9, 10, 11, 12, 13] rfl rfl rfl rfl dX1_knownTicket_46 49 rfl ?_
      refine v_aload_n X dX1_knownTicket_49 0 rfl rfl 50 rfl ?_
      obtain ⟨o6, ho6, hf⟩ := bnd hf
      refine v_callVi X (ci := 3) (T := TX1) (C := RX1) (As := []) (rest := []) (ws' := (wX1 ad c9 o6.2.1 o6.2.2.1 o6.2.2.2.1 o6.2.2.2.2 o5.1 o5.2 p_t_count p_t_cells p_d_time p_d_tolerance p_d_seed p_d_madeTickets p_d_cheesesOfText p_d_R_rows p_d_R_cells p_d_U_rows p_d_U_cells p_d_S_rows p_d_S_cells p_d_T_rows p_d_T_cells p_d_E_rows p_d_E_cells)) (c_X1_take l hG D c9 ad p_start p_end p_kind p_value o5.1 o5.2 p_t_count p_t_cells p_d_time p_d_tolerance p_d_seed p_d_madeTickets p_d_cheesesOfText p_d_R_rows p_d_R_cells p_d_U_rows p_d_U_cells p_d_S_rows p_d_S_cells p_d_T_rows p_d_T_cells p_d_E_rows p_d_E_cells ho6) 0 (gV wc_338 wc_339 wc_340 wc_336 wc_341) rfl rfl rfl ⟨rfl, pd_X1_take⟩ ⟨Nat.le_of_ble_eq_true rfl, Nat.le_of_ble_eq_true rfl⟩ 0 rfl rfl rfl rfl (Nat.le_of_ble_eq_true rfl) ⟨Nat.zero_le _, Nat.zero_le _⟩ [0, 1, 2, 3, 4, 5, 6, 7, 8, 9, 10, 11, 12, 13] [] [0, 1, 2, 3, 4, 5, 6, 7, 8, 9, 10, 11, 12, 13] rfl rfl rfl rfl dX1_knownTicket_50 53 rfl ?_
      refine v_pop X dX1_knownTicket_53 rfl 54 rfl ?_
      refine v_iload_n X dX1_knownTicket_54 1 rfl rfl 55 rfl ?_
      obtain rfl := Option.some.inj hf
      exact v_iret X (Nat.zero_le _) (Nat.zero_le _) dX1_knownTicket_55
    clear hf
    refine v_icmp_eq X (tgt := 44) dX1_knownTicket_37 rfl 40 rfl hj4 (fun hf => ?_) (fun hf => ?_)
    · refine v_iconst X dX1_knownTicket_44 ic_0 45 rfl ?_
      obtain rfl := Option.some.inj hf
      exact Jj4
    · refine v_iconst X dX1_knownTicket_40 ic_1 41 rfl ?_
      refine v_goto X (tgt := 45) dX1_knownTicket_41 rfl ?_
      obtain rfl := Option.some.inj hf
      exact Jj4
  clear hf
  refine v_icmp_ne X (tgt := 29) dX1_knownTicket_22 rfl 25 rfl hj2 (fun hf => ?_) (fun hf => ?_)
  · refine v_iconst X dX1_knownTicket_29 ic_0 30 rfl ?_
    obtain rfl := Option.some.inj hf
    refine v_sub (lv' := [(0, .ref (ad 0)), (1, .int o1)]) [1, 0] rfl ?_
    exact Jj2
  · refine v_iconst X dX1_knownTicket_25 ic_1 26 rfl ?_
    refine v_goto X (tgt := 30) dX1_knownTicket_26 rfl ?_
    obtain rfl := Option.some.inj hf
    refine v_sub (lv' := [(0, .ref (ad 0)), (1, .int o1)]) [1, 0] rfl ?_
    exact Jj2
theorem pd_X1_knownTicket : yX1_knownTicket.cls ≠ "java/lang/invoke/MethodHandle" ∧ yX1_knownTicket.cls ≠ "java/lang/invoke/VarHandle" ∧ (parseMethodDescriptor yX1_knownTicket.desc).map (fun d => d.parameters.length) = some 0 := by decide +kernel
theorem pd_X6_removeRow_UX1_readDrop_229 : "TicketGate$Table" ≠ "java/lang/invoke/MethodHandle" ∧ "TicketGate$Table" ≠ "java/lang/invoke/VarHandle" ∧ (parseMethodDescriptor "(I)V").map (fun d => d.parameters.length) = some 1 := by decide +kernel
def f_X1_readDrop (p_start : Int32) (p_end : Int32) (p_kind : Int32) (p_value : Int32) (p_error : Int32) (p_errorAt : Int32) (p_t_count : Int32) (p_t_cells : Nat → Int32) (p_d_T_rows : Int32) (p_d_T_cells : Nat → Int32) : Option (Int32 × Int32 × Int32 × Int32 × Int32 × Int32 × Int32 × (Nat → Int32)) :=
  (f_X1_take p_start p_end p_kind p_value p_error p_t_count p_t_cells).bind fun o1 =>
  (f_X1_knownTicket o1.2.1 o1.2.2.1 o1.2.2.2.1 o1.2.2.2.2 p_error p_errorAt p_t_count p_t_cells p_d_T_rows p_d_T_cells).bind fun o2 =>
  (f_X1_semicolon o2.2.1 o2.2.2.1 o2.2.2.2.1 o2.2.2.2.2.1 o2.2.2.2.2.2.1 o2.2.2.2.2.2.2 p_t_count p_t_cells 1).bind fun o3 =>
  if o3.1 = 0 then (
    some (o3.2.1, o3.2.2.1, o3.2.2.2.1, o3.2.2.2.2.1, o3.2.2.2.2.2.1, o3.2.2.2.2.2.2, p_d_T_rows, p_d_T_cells))
  else (
    (f_X6_removeRow 240 10 p_d_T_rows p_d_T_cells o2.1).bind fun o4 =>
    some (o3.2.1, o3.2.2.1, o3.2.2.2.1, o3.2.2.2.2.1, o3.2.2.2.2.2.1, o3.2.2.2.2.2.2, o4.1, o4.2))
set_option maxRecDepth 100000 in
set_option maxHeartbeats 4000000 in
theorem c_X1_readDrop (l : Launch) {G : (Nat → Prop) → State → Heap → Prop} (hG : vG G) (D : va_G) (c9 : Nat → ClassId) (ad : Nat → Nat) (p_start : Int32) (p_end : Int32) (p_kind : Int32) (p_value : Int32) (p_error : Int32) (p_errorAt : Int32) (p_t_count : Int32) (p_t_cells : Nat → Int32) (p_d_time : Int32) (p_d_tolerance : Int32) (p_d_seed : Int32) (p_d_madeTickets : Int32) (p_d_cheesesOfText : Int32) (p_d_R_rows : Int32) (p_d_R_cells : Nat → Int32) (p_d_U_rows : Int32) (p_d_U_cells : Nat → Int32) (p_d_S_rows : Int32) (p_d_S_cells : Nat → Int32) (p_d_T_rows : Int32) (p_d_T_cells : Nat → Int32) (p_d_E_rows : Int32) (p_d_E_cells : Nat → Int32)  {o : Int32 × Int32 × Int32 × Int32 × Int32 × Int32 × Int32 × (Nat → Int32)} (hf : f_X1_readDrop p_start p_end p_kind p_value p_error p_errorAt p_t_count p_t_cells p_d_T_rows p_d_T_cells = some o) : mV l yX1_readDrop (wq yX1_readDrop cX1_readDrop 2 none) { frames := 4, cells := 0, slots := 0, locals := 107 } G D (tyA c9) [.ref (ad 0)] (wX1 ad c9 p_start p_end p_kind p_value p_error p_errorAt p_t_count p_t_cells p_d_time p_d_tolerance p_d_seed p_d_madeTickets p_d_cheesesOfText p_d_R_rows p_d_R_cells p_d_U_rows p_d_U_cells p_d_S_rows p_d_S_cells p_d_T_rows p_d_T_cells p_d_E_rows p_d_E_cells) [] 0 0 (wX1 ad c9 o.1 o.2.1 o.2.2.1 o.2.2.2.1 o.2.2.2.2.1 o.2.2.2.2.2.1 p_t_count p_t_cells p_d_time p_d_tolerance p_d_seed p_d_madeTickets p_d_cheesesOfText p_d_R_rows p_d_R_cells p_d_U_rows p_d_U_cells p_d_S_rows p_d_S_cells o.2.2.2.2.2.2.1 o.2.2.2.2.2.2.2 p_d_E_rows p_d_E_cells) := by
  refine mV_of hG (cc := cX1_readDrop) (maxL := 2) (by decide) rfl (Nat.le_of_ble_eq_true rfl) ?_
  intro p e s m args below meth c A hnm X
  have X : vX p s m args meth c cX1_readDrop 2 none RX1 (wq yX1_readDrop cX1_readDrop 2 none) D (tyA c9) G A := X
  refine v_eq (lv2 := [(0, .ref (ad 0))]) rfl rfl rfl rfl ?_
  rw [f_X1_readDrop] at hf
  refine v_aload_n X dX1_readDrop_0 0 rfl rfl 1 rfl ?_
  obtain ⟨o1, ho1, hf⟩ := bnd hf
  refine v_callVi X (ci := 3) (T := TX1) (C := RX1) (As := []) (rest := []) (ws' := (wX1 ad c9 o1.2.1 o1.2.2.1 o1.2.2.2.1 o1.2.2.2.2 p_error p_errorAt p_t_count p_t_cells p_d_time p_d_tolerance p_d_seed p_d_madeTickets p_d_cheesesOfText p_d_R_rows p_d_R_cells p_d_U_rows p_d_U_cells p_d_S_rows p_d_S_cells p_d_T_rows p_d_T_cells p_d_E_rows p_d_E_cells)) (c_X1_take l hG D c9 ad p_start p_end p_kind p_value p_error p_errorAt p_t_count p_t_cells p_d_time p_d_tolerance p_d_seed p_d_madeTickets p_d_cheesesOfText p_d_R_rows p_d_R_cells p_d_U_rows p_d_U_cells p_d_S_rows p_d_S_cells p_d_T_rows p_d_T_cells p_d_E_rows p_d_E_cells ho1) 0 (gV wc_338 wc_339 wc_340 wc_336 wc_341) rfl rfl rfl ⟨rfl, pd_X1_take⟩ ⟨Nat.le_of_ble_eq_true rfl, Nat.le_of_ble_eq_true rfl⟩ 0 rfl rfl rfl rfl (Nat.le_of_ble_eq_true rfl) ⟨Nat.zero_le _, Nat.zero_le _⟩ [0, 1, 2, 3, 4, 5, 6, 7, 8, 9, 10, 11, 12, 13] [] [0, 1, 2, 3, 4, 5, 6, 7, 8, 9, 10, 11, 12, 13] rfl rfl rfl rfl dX1_readDrop_1 4 rfl ?_
  refine v_pop X dX1_readDrop_4 rfl 5 rfl ?_
  refine v_aload_n X dX1_readDrop_5 0 rfl rfl 6 rfl ?_
  obtain ⟨o2, ho2, hf⟩ := bnd hf
  refine v_callVi X (ci := 3) (T := TX1) (C := RX1) (As := []) (rest := []) (ws' := (wX1 ad c9 o2.2.1 o2.2.2.1 o2.2.2.2.1 o2.2.2.2.2.1 o2.2.2.2.2.2.1 o2.2.2.2.2.2.2 p_t_count p_t_cells p_d_time p_d_tolerance p_d_seed p_d_madeTickets p_d_cheesesOfText p_d_R_rows p_d_R_cells p_d_U_rows p_d_U_cells p_d_S_rows p_d_S_cells p_d_T_rows p_d_T_cells p_d_E_rows p_d_E_cells)) (c_X1_knownTicket l hG D c9 ad o1.2.1 o1.2.2.1 o1.2.2.2.1 o1.2.2.2.2 p_error p_errorAt p_t_count p_t_cells p_d_time p_d_tolerance p_d_seed p_d_madeTickets p_d_cheesesOfText p_d_R_rows p_d_R_cells p_d_U_rows p_d_U_cells p_d_S_rows p_d_S_cells p_d_T_rows p_d_T_cells p_d_E_rows p_d_E_cells ho2) 0 (gV wc_371 wc_372 wc_373 wc_336 wc_374) rfl rfl rfl ⟨rfl, pd_X1_knownTicket⟩ ⟨Nat.le_of_ble_eq_true rfl, Nat.le_of_ble_eq_true rfl⟩ 0 rfl rfl rfl rfl (Nat.le_of_ble_eq_true rfl) ⟨Nat.zero_le _, Nat.zero_le _⟩ [0, 1, 2, 3, 4, 5, 6, 7, 8, 9, 10, 11, 12, 13] [] [0, 1, 2, 3, 4, 5, 6, 7, 8, 9, 10, 11, 12, 13] rfl rfl rfl rfl dX1_readDrop_6 9 rfl ?_
  refine v_istore_n X (lv' := [(1, .int o2.1), (0, .ref (ad 0))]) dX1_readDrop_9 rfl (by decide) rfl 10 rfl ?_
  refine v_aload_n X dX1_readDrop_10 1 rfl rfl 11 rfl ?_
  refine v_iconst X dX1_readDrop_11 ic_1 12 rfl ?_
  obtain ⟨o3, ho3, hf⟩ := bnd hf
  refine v_callVi X (ci := 3) (T := TX1) (C := RX1) (As := [.int 1]) (rest := []) (ws' := (wX1 ad c9 o3.2.1 o3.2.2.1 o3.2.2.2.1 o3.2.2.2.2.1 o3.2.2.2.2.2.1 o3.2.2.2.2.2.2 p_t_count p_t_cells p_d_time p_d_tolerance p_d_seed p_d_madeTickets p_d_cheesesOfText p_d_R_rows p_d_R_cells p_d_U_rows p_d_U_cells p_d_S_rows p_d_S_cells p_d_T_rows p_d_T_cells p_d_E_rows p_d_E_cells)) (c_X1_semicolon l hG D c9 ad o2.2.1 o2.2.2.1 o2.2.2.2.1 o2.2.2.2.2.1 o2.2.2.2.2.2.1 o2.2.2.2.2.2.2 p_t_count p_t_cells p_d_time p_d_tolerance p_d_seed p_d_madeTickets p_d_cheesesOfText p_d_R_rows p_d_R_cells p_d_U_rows p_d_U_cells p_d_S_rows p_d_S_cells p_d_T_rows p_d_T_cells p_d_E_rows p_d_E_cells 1 ho3) 1 (gV wc_350 wc_351 wc_352 wc_336 wc_353) rfl rfl rfl ⟨rfl, pd_X1_semicolon⟩ ⟨Nat.le_of_ble_eq_true rfl, Nat.le_of_ble_eq_true rfl⟩ 0 rfl rfl rfl rfl (Nat.le_of_ble_eq_true rfl) ⟨Nat.zero_le _, Nat.zero_le _⟩ [0, 1, 2, 3, 4, 5, 6, 7, 8, 9, 10, 11, 12, 13] [] [0, 1, 2, 3, 4, 5, 6, 7, 8, 9, 10, 11, 12, 13] rfl rfl rfl rfl dX1_readDrop_12 15 rfl ?_
  refine v_if_eq X (tgt := 29) dX1_readDrop_15 rfl 18 rfl hf (fun hf => ?_) (fun hf => ?_)
  · obtain rfl := Option.some.inj hf
    exact v_vret X (Nat.zero_le _) (Nat.zero_le _) dX1_readDrop_29
  · refine v_aload_n X dX1_readDrop_18 1 rfl rfl 19 rfl ?_
    refine v_get X (C := RX1) (T := TX1) (N := 8) (ci := 3) (v := _) dX1_readDrop_19 (lay_of layc_X1) 0 rfl rfl 1 (by decide) (mw wc_354) rfl rfl 22 rfl ?_
    refine v_getN X (C := RX5) (T := TX5) (N := 10) (ci := 7) (v := _) dX1_readDrop_22 (lay_of layc_X5) 3 rfl rfl 3 (by decide) nest_RX1_225 rfl rfl 25 rfl ?_
    refine v_iload_n X dX1_readDrop_25 0 rfl rfl 26 rfl ?_
    obtain ⟨o4, ho4, hf⟩ := bnd hf
    refine v_callUv X (ci := 8) (T := TX7) (C := RX7) (owner := "TicketGate$Table") (As := [.int o2.1]) (rest := []) (ws' := (wX1 ad c9 o3.2.1 o3.2.2.1 o3.2.2.2.1 o3.2.2.2.2.1 o3.2.2.2.2.2.1 o3.2.2.2.2.2.2 p_t_count p_t_cells p_d_time p_d_tolerance p_d_seed p_d_madeTickets p_d_cheesesOfText p_d_R_rows p_d_R_cells p_d_U_rows p_d_U_cells p_d_S_rows p_d_S_cells o4.1 o4.2 p_d_E_rows p_d_E_cells)) (c_X6_removeRow l hG D c9 (fun k => ad ([10, 11].getD k 0)) 240 8 RX7 rfl layc_X7 24 10 p_d_T_rows p_d_T_cells o2.1 ho4) 1 (gU wc_375 wc_94 wc_95 wc_96 wc_34 wc_97) rfl rfl rfl rfl pd_X6_removeRow_UX1_readDrop_229 ⟨Nat.le_of_ble_eq_true rfl, Nat.le_of_ble_eq_true rfl⟩ 10 rfl rfl rfl rfl (Nat.le_of_ble_eq_true rfl) ⟨Nat.zero_le _, Nat.zero_le _⟩ [10, 11] [0, 1, 2, 3, 4, 5, 6, 7, 8, 9, 12, 13] [0, 1, 2, 3, 4, 5, 6, 7, 8, 9, 12, 13, 10, 11] rfl rfl rfl rfl dX1_readDrop_26 29 rfl ?_
    obtain rfl := Option.some.inj hf
    exact v_vret X (Nat.zero_le _) (Nat.zero_le _) dX1_readDrop_29
theorem pd_X1_readDrop : yX1_readDrop.cls ≠ "java/lang/invoke/MethodHandle" ∧ yX1_readDrop.cls ≠ "java/lang/invoke/VarHandle" ∧ (parseMethodDescriptor yX1_readDrop.desc).map (fun d => d.parameters.length) = some 0 := by decide +kernel
