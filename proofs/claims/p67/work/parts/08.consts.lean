theorem ic_m1 : Int32.ofInt (-1) = (-1) := by decide
theorem ic_0 : Int32.ofInt 0 = 0 := by decide
theorem ic_1 : Int32.ofInt 1 = 1 := by decide
theorem ic_2 : Int32.ofInt 2 = 2 := by decide
theorem ic_3 : Int32.ofInt 3 = 3 := by decide
theorem ic_4 : Int32.ofInt 4 = 4 := by decide
theorem ic_5 : Int32.ofInt 5 = 5 := by decide
theorem ic_20 : Int32.ofInt 20 = 20 := by decide
theorem bp_m128 : (Int8.ofInt (-128)).toInt32 = (-128) := by decide
theorem bp_m100 : (Int8.ofInt (-100)).toInt32 = (-100) := by decide
theorem bp_m10 : (Int8.ofInt (-10)).toInt32 = (-10) := by decide
theorem bp_m9 : (Int8.ofInt (-9)).toInt32 = (-9) := by decide
theorem bp_m8 : (Int8.ofInt (-8)).toInt32 = (-8) := by decide
theorem bp_6 : (Int8.ofInt 6).toInt32 = 6 := by decide
theorem bp_7 : (Int8.ofInt 7).toInt32 = 7 := by decide
theorem bp_8 : (Int8.ofInt 8).toInt32 = 8 := by decide
theorem bp_9 : (Int8.ofInt 9).toInt32 = 9 := by decide
theorem bp_10 : (Int8.ofInt 10).toInt32 = 10 := by decide
theorem bp_16 : (Int8.ofInt 16).toInt32 = 16 := by decide
theorem bp_20 : (Int8.ofInt 20).toInt32 = 20 := by decide
theorem bp_21 : (Int8.ofInt 21).toInt32 = 21 := by decide
theorem bp_24 : (Int8.ofInt 24).toInt32 = 24 := by decide
theorem bp_25 : (Int8.ofInt 25).toInt32 = 25 := by decide
theorem bp_30 : (Int8.ofInt 30).toInt32 = 30 := by decide
theorem bp_32 : (Int8.ofInt 32).toInt32 = 32 := by decide
theorem bp_40 : (Int8.ofInt 40).toInt32 = 40 := by decide
theorem bp_45 : (Int8.ofInt 45).toInt32 = 45 := by decide
theorem bp_46 : (Int8.ofInt 46).toInt32 = 46 := by decide
theorem bp_48 : (Int8.ofInt 48).toInt32 = 48 := by decide
theorem bp_57 : (Int8.ofInt 57).toInt32 = 57 := by decide
theorem bp_59 : (Int8.ofInt 59).toInt32 = 59 := by decide
theorem bp_60 : (Int8.ofInt 60).toInt32 = 60 := by decide
theorem bp_64 : (Int8.ofInt 64).toInt32 = 64 := by decide
theorem bp_97 : (Int8.ofInt 97).toInt32 = 97 := by decide
theorem bp_99 : (Int8.ofInt 99).toInt32 = 99 := by decide
theorem bp_100 : (Int8.ofInt 100).toInt32 = 100 := by decide
theorem bp_108 : (Int8.ofInt 108).toInt32 = 108 := by decide
theorem bp_109 : (Int8.ofInt 109).toInt32 = 109 := by decide
theorem bp_110 : (Int8.ofInt 110).toInt32 = 110 := by decide
theorem bp_117 : (Int8.ofInt 117).toInt32 = 117 := by decide
theorem bp_122 : (Int8.ofInt 122).toInt32 = 122 := by decide
theorem sp_128 : (Int16.ofInt 128).toInt32 = 128 := by decide
theorem sp_200 : (Int16.ofInt 200).toInt32 = 200 := by decide
theorem sp_255 : (Int16.ofInt 255).toInt32 = 255 := by decide
theorem sp_512 : (Int16.ofInt 512).toInt32 = 512 := by decide
theorem sp_600 : (Int16.ofInt 600).toInt32 = 600 := by decide
theorem sp_999 : (Int16.ofInt 999).toInt32 = 999 := by decide
theorem sp_1000 : (Int16.ofInt 1000).toInt32 = 1000 := by decide
theorem sp_1023 : (Int16.ofInt 1023).toInt32 = 1023 := by decide
theorem sp_1024 : (Int16.ofInt 1024).toInt32 = 1024 := by decide
theorem sp_9999 : (Int16.ofInt 9999).toInt32 = 9999 := by decide
theorem sp_16384 : (Int16.ofInt 16384).toInt32 = 16384 := by decide
theorem an_2 : Int32.ofNat 2 = 2 := by decide
theorem an_3 : Int32.ofNat 3 = 3 := by decide
theorem an_5 : Int32.ofNat 5 = 5 := by decide
theorem an_8 : Int32.ofNat 8 = 8 := by decide
theorem an_10 : Int32.ofNat 10 = 10 := by decide
theorem an_18 : Int32.ofNat 18 = 18 := by decide
theorem an_20 : Int32.ofNat 20 = 20 := by decide
theorem an_24 : Int32.ofNat 24 = 24 := by decide
theorem an_25 : Int32.ofNat 25 = 25 := by decide
theorem an_30 : Int32.ofNat 30 = 30 := by decide
theorem an_64 : Int32.ofNat 64 = 64 := by decide
theorem an_120 : Int32.ofNat 120 = 120 := by decide
theorem an_240 : Int32.ofNat 240 = 240 := by decide
theorem an_600 : Int32.ofNat 600 = 600 := by decide
theorem nz0 : narrow .boolean (.int 0) = .int 0 := rfl
theorem nz1 : narrow .boolean (.int 1) = .int 1 := rfl
abbrev wX0 (bn : Nat) (ad : Nat → Nat) (c9 : Nat → ClassId) (b_count : Int32) (b_cells : Nat → Int32) : va_W := [(ad 0, .inr (2, [.ref (ad 1), .int b_count])), (ad 1, .inl (c9 0, bn, .inl b_cells))]
abbrev wX6 (ci : Nat) (tn : Nat) (ad : Nat → Nat) (c9 : Nat → ClassId) (t_limit : Int32) (t_width : Int32) (t_rows : Int32) (t_cells : Nat → Int32) : va_W := [(ad 0, .inr (ci, [.int t_limit, .int t_width, .ref (ad 1), .int t_rows])), (ad 1, .inl (c9 0, tn, .inl t_cells))]
abbrev wX2 (ad : Nat → Nat) (c9 : Nat → ClassId) (t_rows : Int32) (t_cells : Nat → Int32) : va_W := [(ad 0, .inr (4, [.int 5, .int 5, .ref (ad 1), .int t_rows])), (ad 1, .inl (c9 0, 25, .inl t_cells))]
abbrev wX3 (ad : Nat → Nat) (c9 : Nat → ClassId) (t_rows : Int32) (t_cells : Nat → Int32) : va_W := [(ad 0, .inr (5, [.int 6, .int 3, .ref (ad 1), .int t_rows])), (ad 1, .inl (c9 0, 18, .inl t_cells))]
abbrev wX7 (ad : Nat → Nat) (c9 : Nat → ClassId) (t_rows : Int32) (t_cells : Nat → Int32) : va_W := [(ad 0, .inr (8, [.int 24, .int 10, .ref (ad 1), .int t_rows])), (ad 1, .inl (c9 0, 240, .inl t_cells))]
abbrev wX8 (ad : Nat → Nat) (c9 : Nat → ClassId) (t_rows : Int32) (t_cells : Nat → Int32) : va_W := [(ad 0, .inr (9, [.int 6, .int 5, .ref (ad 1), .int t_rows])), (ad 1, .inl (c9 0, 30, .inl t_cells))]
abbrev wX9 (ad : Nat → Nat) (c9 : Nat → ClassId) (t_rows : Int32) (t_cells : Nat → Int32) : va_W := [(ad 0, .inr (10, [.int 30, .int 4, .ref (ad 1), .int t_rows])), (ad 1, .inl (c9 0, 120, .inl t_cells))]
abbrev wX10 (ad : Nat → Nat) (c9 : Nat → ClassId) (t_rows : Int32) (t_cells : Nat → Int32) : va_W := [(ad 0, .inr (11, [.int 5, .int 5, .ref (ad 1), .int t_rows])), (ad 1, .inl (c9 0, 25, .inl t_cells))]
abbrev wX5 (ad : Nat → Nat) (c9 : Nat → ClassId) (s_time : Int32) (s_tolerance : Int32) (s_seed : Int32) (s_madeTickets : Int32) (s_cheesesOfText : Int32) (s_R_rows : Int32) (s_R_cells : Nat → Int32) (s_U_rows : Int32) (s_U_cells : Nat → Int32) (s_S_rows : Int32) (s_S_cells : Nat → Int32) (s_T_rows : Int32) (s_T_cells : Nat → Int32) (s_E_rows : Int32) (s_E_cells : Nat → Int32) : va_W := [(ad 0, .inr (7, [.ref (ad 1), .ref (ad 3), .ref (ad 5), .ref (ad 7), .ref (ad 9), .int s_time, .int s_tolerance, .int s_seed, .int s_madeTickets, .int s_cheesesOfText])), (ad 1, .inr (4, [.int 5, .int 5, .ref (ad 2), .int s_R_rows])), (ad 2, .inl (c9 0, 25, .inl s_R_cells)), (ad 3, .inr (9, [.int 6, .int 5, .ref (ad 4), .int s_U_rows])), (ad 4, .inl (c9 0, 30, .inl s_U_cells)), (ad 5, .inr (5, [.int 6, .int 3, .ref (ad 6), .int s_S_rows])), (ad 6, .inl (c9 0, 18, .inl s_S_cells)), (ad 7, .inr (8, [.int 24, .int 10, .ref (ad 8), .int s_T_rows])), (ad 8, .inl (c9 0, 240, .inl s_T_cells)), (ad 9, .inr (10, [.int 30, .int 4, .ref (ad 10), .int s_E_rows])), (ad 10, .inl (c9 0, 120, .inl s_E_cells))]
abbrev wX1 (ad : Nat → Nat) (c9 : Nat → ClassId) (p_start : Int32) (p_end : Int32) (p_kind : Int32) (p_value : Int32) (p_error : Int32) (p_errorAt : Int32) (p_t_count : Int32) (p_t_cells : Nat → Int32) (p_d_time : Int32) (p_d_tolerance : Int32) (p_d_seed : Int32) (p_d_madeTickets : Int32) (p_d_cheesesOfText : Int32) (p_d_R_rows : Int32) (p_d_R_cells : Nat → Int32) (p_d_U_rows : Int32) (p_d_U_cells : Nat → Int32) (p_d_S_rows : Int32) (p_d_S_cells : Nat → Int32) (p_d_T_rows : Int32) (p_d_T_cells : Nat → Int32) (p_d_E_rows : Int32) (p_d_E_cells : Nat → Int32) : va_W := [(ad 0, .inr (3, [.ref (ad 1), .ref (ad 3), .int p_start, .int p_end, .int p_kind, .int p_value, .int p_error, .int p_errorAt])), (ad 1, .inr (2, [.ref (ad 2), .int p_t_count])), (ad 2, .inl (c9 0, 600, .inl p_t_cells)), (ad 3, .inr (7, [.ref (ad 4), .ref (ad 6), .ref (ad 8), .ref (ad 10), .ref (ad 12), .int p_d_time, .int p_d_tolerance, .int p_d_seed, .int p_d_madeTickets, .int p_d_cheesesOfText])), (ad 4, .inr (4, [.int 5, .int 5, .ref (ad 5), .int p_d_R_rows])), (ad 5, .inl (c9 0, 25, .inl p_d_R_cells)), (ad 6, .inr (9, [.int 6, .int 5, .ref (ad 7), .int p_d_U_rows])), (ad 7, .inl (c9 0, 30, .inl p_d_U_cells)), (ad 8, .inr (5, [.int 6, .int 3, .ref (ad 9), .int p_d_S_rows])), (ad 9, .inl (c9 0, 18, .inl p_d_S_cells)), (ad 10, .inr (8, [.int 24, .int 10, .ref (ad 11), .int p_d_T_rows])), (ad 11, .inl (c9 0, 240, .inl p_d_T_cells)), (ad 12, .inr (10, [.int 30, .int 4, .ref (ad 13), .int p_d_E_rows])), (ad 13, .inl (c9 0, 120, .inl p_d_E_cells))]
