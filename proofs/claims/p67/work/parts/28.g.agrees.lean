/-! The Hand agrees. -/
set_option maxRecDepth 100000 in
set_option maxHeartbeats 1000000 in
theorem g_turn {p : Program} {l : Launch} {e : Env} {s : State} {m : MethodId} {args : Array Value} {below : List Frame} {meth : Method} {c : Code} {A : Nat → Prop} {Q : State → Prop} {G : (Nat → Prop) → State → Heap → Prop} (hG : vG G) (D : va_G) (c9 : Nat → ClassId) {sk sv : Nat → Nat} (hGU : ∀ (A : Nat → Prop) (U : State) (H : Heap), G A U H → vU sk sv A U H) (hGV : ∀ (A : Nat → Prop) (U : State) (H : Heap), G A U H → vV A U H) (hl0 : l.stackTraces = false) (X : vX p s m args meth c cX12_agrees 5 (some .boolean) RX12 (wq yX12_agrees cX12_agrees 5 (some .boolean)) D (tyA c9) G A) {ha : Nat → Nat} {ta ua : Nat} {h : FH} {R S : List (Nat × Row)} {ad : Nat → Nat} {x : FX} {asl apa : Nat → Nat → Nat} {F0 : va_W} {k a1 cells slots : Nat} {g : Row} (hl : R.length ≤ 24) (hk : k < R.length) (hRi : R[k]? = some (a1, g)) (hT : agT x (FH.time h) k g) (hcc : cells + 11 ≤ 290) (hss : slots + 66 ≤ 1700) (K : vW p l e { frames := 8, cells := 300, slots := 1800, locals := 133 } s m args below meth c 5 D A (wHF c9 R S ((wC ad c9 x asl apa) ++ F0)) (cells + 11) (slots + 66) Q [((ha 0), .inr (13, [.int (FH.tol h), .ref (ha 1), .ref (ha 2), .ref (ha 3), .ref (ha 4), .ref (ha 5), .ref (ha 6), .ref (ha 7), .ref (ha 8), .ref ta, .ref ua, .int (FH.seed h), .int (FH.time h), .int (FH.next h)])), ((ha 1), .inl (c9 0, 3, .inl (FH.life h))), ((ha 2), .inl (c9 0, 3, .inl (FH.again h))), ((ha 3), .inl (c9 0, 3, .inl (FH.fast h))), ((ha 4), .inl (c9 0, 3, .inl (FH.home h))), ((ha 5), .inl (c9 0, 3, .inl (FH.own h))), ((ha 6), .inl (c9 0, 3, .inl (FH.had h))), ((ha 7), .inl (c9 0, 2, .inl (FH.place h))), ((ha 8), .inl (c9 0, 2, .inl (FH.left h))), (ta, .inl (c9 4, R.length, .inr (.inr (.inr (.inr (outF R)))))), (ua, .inl (c9 4, S.length, .inr (.inr (.inr (.inr (outF S))))))] 61 [(2, .int (nI (k + 1))), (1, .ref (ad 0)), (0, .ref (ha 0))] []) : vW p l e { frames := 8, cells := 300, slots := 1800, locals := 133 } s m args below meth c 5 D A (wHF c9 R S ((wC ad c9 x asl apa) ++ F0)) cells slots Q [((ha 0), .inr (13, [.int (FH.tol h), .ref (ha 1), .ref (ha 2), .ref (ha 3), .ref (ha 4), .ref (ha 5), .ref (ha 6), .ref (ha 7), .ref (ha 8), .ref ta, .ref ua, .int (FH.seed h), .int (FH.time h), .int (FH.next h)])), ((ha 1), .inl (c9 0, 3, .inl (FH.life h))), ((ha 2), .inl (c9 0, 3, .inl (FH.again h))), ((ha 3), .inl (c9 0, 3, .inl (FH.fast h))), ((ha 4), .inl (c9 0, 3, .inl (FH.home h))), ((ha 5), .inl (c9 0, 3, .inl (FH.own h))), ((ha 6), .inl (c9 0, 3, .inl (FH.had h))), ((ha 7), .inl (c9 0, 2, .inl (FH.place h))), ((ha 8), .inl (c9 0, 2, .inl (FH.left h))), (ta, .inl (c9 4, R.length, .inr (.inr (.inr (.inr (outF R)))))), (ua, .inl (c9 4, S.length, .inr (.inr (.inr (.inr (outF S))))))] 61 [(2, .int (nI k)), (1, .ref (ad 0)), (0, .ref (ha 0))] [] := by
  refine v_iload_n X dX12_agrees_61 0 rfl rfl 62 rfl ?_
  refine v_aload_n X dX12_agrees_62 2 rfl rfl 63 rfl ?_
  refine v_get X (C := RX12) (T := TX12) (N := 14) (ci := 13) (v := _) dX12_agrees_63 (lay_of layhv_X12) 0 rfl rfl 9 (by decide) (mw whv_0) rfl rfl 66 rfl ?_
  refine v_alen X dX12_agrees_66 9 4 rfl rfl rfl 67 rfl ?_
  refine v_icmp_ge X (tgt := 248) dX12_agrees_67 rfl 70 rfl (a := none) (b := some ()) (o := ()) (if_neg (nI_ge hk (by omega))) (fun h => nomatch h) (fun _ => ?_)
  refine v_aload_n X dX12_agrees_70 2 rfl rfl 71 rfl ?_
  refine v_get X (C := RX12) (T := TX12) (N := 14) (ci := 13) (v := _) dX12_agrees_71 (lay_of layhv_X12) 0 rfl rfl 9 (by decide) (mw whv_0) rfl rfl 74 rfl ?_
  refine v_iload_n X dX12_agrees_74 0 rfl rfl 75 rfl ?_
  refine v_aald X dX12_agrees_75 9 4 rfl rfl (vp_in_nI (show k < R.length by omega) (by omega)) 76 rfl ?_
  rw [nI_clamp (show k < 2 ^ 31 by omega), out_some hRi]
  refine v_eq (st2 := [.ref a1]) rfl rfl rfl rfl ?_
  refine v_astore_n X (lv' := [(3, .ref a1), (2, .int (nI k)), (1, .ref (ad 0)), (0, .ref (ha 0))]) dX12_agrees_76 rfl (by decide) rfl 77 rfl ?_
  refine v_aload_n X dX12_agrees_77 0 rfl rfl 78 rfl ?_
  refine v_iconst X dX12_agrees_78 ic_0 79 rfl ?_
  refine v_ildF X dX12_agrees_79 (11 + k) 0 (row_at (ws := [_, _, _, _, _, _, _, _, _, _, _]) hRi) rfl (rd_nI9 (f := g) (k := 0) (show 0 < 10 by decide) (by decide)) 80 rfl ?_
  refine v_istore X (lv' := [(4, .int (g 0)), (3, .ref a1), (2, .int (nI k)), (1, .ref (ad 0)), (0, .ref (ha 0))]) dX12_agrees_80 (by decide) rfl 82 rfl ?_
  refine v_aload_n X dX12_agrees_82 3 rfl rfl 83 rfl ?_
  refine v_iload_n X dX12_agrees_83 2 rfl rfl 84 rfl ?_
  refine q_ticketAt_84 hG D c9 hGU hGV hl0 X (val := (g 0)) hT.1 (Nat.le_of_ble_eq_true rfl) (by first | exact Nat.le_of_ble_eq_true rfl | omega | (dsimp only; omega)) (by first | exact Nat.le_of_ble_eq_true rfl | omega | (dsimp only; omega)) ?_
  refine v_iload X dX12_agrees_87 0 rfl 89 rfl ?_
  refine v_icmp_ne X (tgt := 140) dX12_agrees_89 rfl 92 rfl (a := none) (b := some ()) (o := ()) (if_pos rfl) (fun h => nomatch h) (fun _ => ?_)
  refine v_aload_n X dX12_agrees_92 3 rfl rfl 93 rfl ?_
  refine v_iload X dX12_agrees_93 0 rfl 95 rfl ?_
  refine q_kindOf_95 hG D c9 hGU hGV hl0 X (val := (g 1)) hT.2.1 (Nat.le_of_ble_eq_true rfl) (by first | exact Nat.le_of_ble_eq_true rfl | omega | (dsimp only; omega)) (by first | exact Nat.le_of_ble_eq_true rfl | omega | (dsimp only; omega)) ?_
  refine v_aload_n X dX12_agrees_98 1 rfl rfl 99 rfl ?_
  refine v_iconst X dX12_agrees_99 ic_1 100 rfl ?_
  refine v_ildF X dX12_agrees_100 (11 + k) 0 (row_at (ws := [_, _, _, _, _, _, _, _, _, _, _]) hRi) rfl (rd_nI9 (f := g) (k := 1) (show 1 < 10 by decide) (by decide)) 101 rfl ?_
  refine v_icmp_ne X (tgt := 140) dX12_agrees_101 rfl 104 rfl (a := none) (b := some ()) (o := ()) (if_pos rfl) (fun h => nomatch h) (fun _ => ?_)
  refine v_aload_n X dX12_agrees_104 3 rfl rfl 105 rfl ?_
  refine v_iload X dX12_agrees_105 0 rfl 107 rfl ?_
  refine q_ownerOf_107 hG D c9 hGU hGV hl0 X (val := (g 2)) hT.2.2.1 (Nat.le_of_ble_eq_true rfl) (by first | exact Nat.le_of_ble_eq_true rfl | omega | (dsimp only; omega)) (by first | exact Nat.le_of_ble_eq_true rfl | omega | (dsimp only; omega)) ?_
  refine v_aload_n X dX12_agrees_110 1 rfl rfl 111 rfl ?_
  refine v_iconst X dX12_agrees_111 ic_2 112 rfl ?_
  refine v_ildF X dX12_agrees_112 (11 + k) 0 (row_at (ws := [_, _, _, _, _, _, _, _, _, _, _]) hRi) rfl (rd_nI9 (f := g) (k := 2) (show 2 < 10 by decide) (by decide)) 113 rfl ?_
  refine v_icmp_ne X (tgt := 140) dX12_agrees_113 rfl 116 rfl (a := none) (b := some ()) (o := ()) (if_pos rfl) (fun h => nomatch h) (fun _ => ?_)
  refine v_aload_n X dX12_agrees_116 3 rfl rfl 117 rfl ?_
  refine v_iload X dX12_agrees_117 0 rfl 119 rfl ?_
  refine q_realmOf_119 hG D c9 hGU hGV hl0 X (val := (g 3)) hT.2.2.2.1 (Nat.le_of_ble_eq_true rfl) (by first | exact Nat.le_of_ble_eq_true rfl | omega | (dsimp only; omega)) (by first | exact Nat.le_of_ble_eq_true rfl | omega | (dsimp only; omega)) ?_
  refine v_aload_n X dX12_agrees_122 1 rfl rfl 123 rfl ?_
  refine v_iconst X dX12_agrees_123 ic_3 124 rfl ?_
  refine v_ildF X dX12_agrees_124 (11 + k) 0 (row_at (ws := [_, _, _, _, _, _, _, _, _, _, _]) hRi) rfl (rd_nI9 (f := g) (k := 3) (show 3 < 10 by decide) (by decide)) 125 rfl ?_
  refine v_icmp_ne X (tgt := 140) dX12_agrees_125 rfl 128 rfl (a := none) (b := some ()) (o := ()) (if_pos rfl) (fun h => nomatch h) (fun _ => ?_)
  refine v_aload_n X dX12_agrees_128 3 rfl rfl 129 rfl ?_
  refine v_iload X dX12_agrees_129 0 rfl 131 rfl ?_
  refine q_serviceOf_131 hG D c9 hGU hGV hl0 X (val := (g 4)) hT.2.2.2.2.1 (Nat.le_of_ble_eq_true rfl) (by first | exact Nat.le_of_ble_eq_true rfl | omega | (dsimp only; omega)) (by first | exact Nat.le_of_ble_eq_true rfl | omega | (dsimp only; omega)) ?_
  refine v_aload_n X dX12_agrees_134 1 rfl rfl 135 rfl ?_
  refine v_iconst X dX12_agrees_135 ic_4 136 rfl ?_
  refine v_ildF X dX12_agrees_136 (11 + k) 0 (row_at (ws := [_, _, _, _, _, _, _, _, _, _, _]) hRi) rfl (rd_nI9 (f := g) (k := 4) (show 4 < 10 by decide) (by decide)) 137 rfl ?_
  refine v_icmp_eq X (tgt := 142) dX12_agrees_137 rfl 140 rfl (a := some ()) (b := none) (o := ()) (if_pos rfl) (fun _ => ?_) (fun h => nomatch h)
  refine v_aload_n X dX12_agrees_142 3 rfl rfl 143 rfl ?_
  refine v_iload X dX12_agrees_143 0 rfl 145 rfl ?_
  refine q_startOf_145 hG D c9 hGU hGV hl0 X (val := (g 5)) hT.2.2.2.2.2.1 (Nat.le_of_ble_eq_true rfl) (by first | exact Nat.le_of_ble_eq_true rfl | omega | (dsimp only; omega)) (by first | exact Nat.le_of_ble_eq_true rfl | omega | (dsimp only; omega)) ?_
  refine v_aload_n X dX12_agrees_148 1 rfl rfl 149 rfl ?_
  refine v_iconst X dX12_agrees_149 ic_5 150 rfl ?_
  refine v_ildF X dX12_agrees_150 (11 + k) 0 (row_at (ws := [_, _, _, _, _, _, _, _, _, _, _]) hRi) rfl (rd_nI9 (f := g) (k := 5) (show 5 < 10 by decide) (by decide)) 151 rfl ?_
  refine v_icmp_ne X (tgt := 240) dX12_agrees_151 rfl 154 rfl (a := none) (b := some ()) (o := ()) (if_pos rfl) (fun h => nomatch h) (fun _ => ?_)
  refine v_aload_n X dX12_agrees_154 3 rfl rfl 155 rfl ?_
  refine v_iload X dX12_agrees_155 0 rfl 157 rfl ?_
  refine q_endOf_157 hG D c9 hGU hGV hl0 X (val := (g 6)) hT.2.2.2.2.2.2.1 (Nat.le_of_ble_eq_true rfl) (by first | exact Nat.le_of_ble_eq_true rfl | omega | (dsimp only; omega)) (by first | exact Nat.le_of_ble_eq_true rfl | omega | (dsimp only; omega)) ?_
  refine v_aload_n X dX12_agrees_160 1 rfl rfl 161 rfl ?_
  refine v_bipush X dX12_agrees_161 bp_6 163 rfl ?_
  refine v_ildF X dX12_agrees_163 (11 + k) 0 (row_at (ws := [_, _, _, _, _, _, _, _, _, _, _]) hRi) rfl (rd_nI9 (f := g) (k := 6) (show 6 < 10 by decide) (by decide)) 164 rfl ?_
  refine v_icmp_ne X (tgt := 240) dX12_agrees_164 rfl 167 rfl (a := none) (b := some ()) (o := ()) (if_pos rfl) (fun h => nomatch h) (fun _ => ?_)
  refine v_aload_n X dX12_agrees_167 3 rfl rfl 168 rfl ?_
  refine v_iload X dX12_agrees_168 0 rfl 170 rfl ?_
  refine q_lastEndOf_170 hG D c9 hGU hGV hl0 X (val := (g 7)) hT.2.2.2.2.2.2.2.1 (Nat.le_of_ble_eq_true rfl) (by first | exact Nat.le_of_ble_eq_true rfl | omega | (dsimp only; omega)) (by first | exact Nat.le_of_ble_eq_true rfl | omega | (dsimp only; omega)) ?_
  refine v_aload_n X dX12_agrees_173 1 rfl rfl 174 rfl ?_
  refine v_bipush X dX12_agrees_174 bp_7 176 rfl ?_
  refine v_ildF X dX12_agrees_176 (11 + k) 0 (row_at (ws := [_, _, _, _, _, _, _, _, _, _, _]) hRi) rfl (rd_nI9 (f := g) (k := 7) (show 7 < 10 by decide) (by decide)) 177 rfl ?_
  refine v_icmp_ne X (tgt := 240) dX12_agrees_177 rfl 180 rfl (a := none) (b := some ()) (o := ()) (if_pos rfl) (fun h => nomatch h) (fun _ => ?_)
  refine v_aload_n X dX12_agrees_180 3 rfl rfl 181 rfl ?_
  refine v_iload X dX12_agrees_181 0 rfl 183 rfl ?_
  refine q_keyOf_183 hG D c9 hGU hGV hl0 X (val := (g 8)) hT.2.2.2.2.2.2.2.2.1 (Nat.le_of_ble_eq_true rfl) (by first | exact Nat.le_of_ble_eq_true rfl | omega | (dsimp only; omega)) (by first | exact Nat.le_of_ble_eq_true rfl | omega | (dsimp only; omega)) ?_
  refine v_aload_n X dX12_agrees_186 1 rfl rfl 187 rfl ?_
  refine v_bipush X dX12_agrees_187 bp_8 189 rfl ?_
  refine v_ildF X dX12_agrees_189 (11 + k) 0 (row_at (ws := [_, _, _, _, _, _, _, _, _, _, _]) hRi) rfl (rd_nI9 (f := g) (k := 8) (show 8 < 10 by decide) (by decide)) 190 rfl ?_
  refine v_icmp_ne X (tgt := 240) dX12_agrees_190 rfl 193 rfl (a := none) (b := some ()) (o := ()) (if_pos rfl) (fun h => nomatch h) (fun _ => ?_)
  refine v_aload_n X dX12_agrees_193 3 rfl rfl 194 rfl ?_
  refine v_iload X dX12_agrees_194 0 rfl 196 rfl ?_
  refine q_isRenewable_196 hG D c9 hGU hGV hl0 X (val := (if g 9 = 1 then 1 else 0)) hT.2.2.2.2.2.2.2.2.2.1 (Nat.le_of_ble_eq_true rfl) (by first | exact Nat.le_of_ble_eq_true rfl | omega | (dsimp only; omega)) (by first | exact Nat.le_of_ble_eq_true rfl | omega | (dsimp only; omega)) ?_
  refine v_aload_n X dX12_agrees_199 1 rfl rfl 200 rfl ?_
  refine v_bipush X dX12_agrees_200 bp_9 202 rfl ?_
  refine v_ildF X dX12_agrees_202 (11 + k) 0 (row_at (ws := [_, _, _, _, _, _, _, _, _, _, _]) hRi) rfl (rd_nI9 (f := g) (k := 9) (show 9 < 10 by decide) (by decide)) 203 rfl ?_
  refine v_iconst X dX12_agrees_203 ic_1 204 rfl ?_
  by_cases h9 : g 9 = 1
  · refine v_icmp_ne X (tgt := 211) dX12_agrees_204 rfl 207 rfl (a := none) (b := some ()) (o := ()) (if_pos h9) (fun h => nomatch h) (fun _ => ?_)
    refine v_iconst X dX12_agrees_207 ic_1 208 rfl ?_
    refine v_goto X (tgt := 212) dX12_agrees_208 rfl ?_
    refine v_icmp_ne X (tgt := 240) dX12_agrees_212 rfl 215 rfl (a := none) (b := some ()) (o := ()) (if_pos (by rw [if_pos h9])) (fun h => nomatch h) (fun _ => ?_)
    refine v_aload_n X dX12_agrees_215 3 rfl rfl 216 rfl ?_
    refine v_iload X dX12_agrees_216 0 rfl 218 rfl ?_
    refine q_isValid_218 hG D c9 hGU hGV hl0 X (val := (if FH.time h < g 6 then 1 else 0)) hT.2.2.2.2.2.2.2.2.2.2 (Nat.le_of_ble_eq_true rfl) (by first | exact Nat.le_of_ble_eq_true rfl | omega | (dsimp only; omega)) (by first | exact Nat.le_of_ble_eq_true rfl | omega | (dsimp only; omega)) ?_
    refine v_aload_n X dX12_agrees_221 4 rfl rfl 222 rfl ?_
    refine v_get X (C := RX12) (T := TX12) (N := 14) (ci := 13) (v := _) dX12_agrees_222 (lay_of layhv_X12) 0 rfl rfl 12 (by decide) (mw whv_61) rfl rfl 225 rfl ?_
    refine v_aload_n X dX12_agrees_225 1 rfl rfl 226 rfl ?_
    refine v_bipush X dX12_agrees_226 bp_6 228 rfl ?_
    refine v_ildF X dX12_agrees_228 (11 + k) 0 (row_at (ws := [_, _, _, _, _, _, _, _, _, _, _]) hRi) rfl (rd_nI9 (f := g) (k := 6) (show 6 < 10 by decide) (by decide)) 229 rfl ?_
    by_cases h6 : FH.time h < g 6
    · refine v_icmp_ge X (tgt := 236) dX12_agrees_229 rfl 232 rfl (a := none) (b := some ()) (o := ()) (if_neg (Int32.not_le.mpr h6)) (fun h => nomatch h) (fun _ => ?_)
      refine v_iconst X dX12_agrees_232 ic_1 233 rfl ?_
      refine v_goto X (tgt := 237) dX12_agrees_233 rfl ?_
      refine v_icmp_eq X (tgt := 242) dX12_agrees_237 rfl 240 rfl (a := some ()) (b := none) (o := ()) (if_pos (by rw [if_pos h6])) (fun _ => ?_) (fun h => nomatch h)
      refine v_iinc X (lv' := [(2, .int ((nI k) + 1)), (4, .int (g 0)), (3, .ref a1), (1, .ref (ad 0)), (0, .ref (ha 0))]) dX12_agrees_242 2 rfl ic_1 (by decide) rfl 245 rfl ?_
      refine v_goto X (tgt := 61) dX12_agrees_245 rfl ?_
      refine v_sub (lv' := [(2, .int ((nI k) + 1)), (1, .ref (ad 0)), (0, .ref (ha 0))]) [0, 3, 4] rfl ?_
      refine v_eq (lv2 := [(2, .int (nI (k + 1))), (1, .ref (ad 0)), (0, .ref (ha 0))]) rfl rfl (by rw [nI_1 k]) rfl ?_
      exact v_widen (by omega) (by omega) K
    · refine v_icmp_ge X (tgt := 236) dX12_agrees_229 rfl 232 rfl (a := some ()) (b := none) (o := ()) (if_pos (Int32.not_lt.mp h6)) (fun _ => ?_) (fun h => nomatch h)
      refine v_iconst X dX12_agrees_236 ic_0 237 rfl ?_
      refine v_icmp_eq X (tgt := 242) dX12_agrees_237 rfl 240 rfl (a := some ()) (b := none) (o := ()) (if_pos (by rw [if_neg h6])) (fun _ => ?_) (fun h => nomatch h)
      refine v_iinc X (lv' := [(2, .int ((nI k) + 1)), (4, .int (g 0)), (3, .ref a1), (1, .ref (ad 0)), (0, .ref (ha 0))]) dX12_agrees_242 2 rfl ic_1 (by decide) rfl 245 rfl ?_
      refine v_goto X (tgt := 61) dX12_agrees_245 rfl ?_
      refine v_sub (lv' := [(2, .int ((nI k) + 1)), (1, .ref (ad 0)), (0, .ref (ha 0))]) [0, 3, 4] rfl ?_
      refine v_eq (lv2 := [(2, .int (nI (k + 1))), (1, .ref (ad 0)), (0, .ref (ha 0))]) rfl rfl (by rw [nI_1 k]) rfl ?_
      exact v_widen (by omega) (by omega) K
  · refine v_icmp_ne X (tgt := 211) dX12_agrees_204 rfl 207 rfl (a := some ()) (b := none) (o := ()) (if_neg h9) (fun _ => ?_) (fun h => nomatch h)
    refine v_iconst X dX12_agrees_211 ic_0 212 rfl ?_
    refine v_icmp_ne X (tgt := 240) dX12_agrees_212 rfl 215 rfl (a := none) (b := some ()) (o := ()) (if_pos (by rw [if_neg h9])) (fun h => nomatch h) (fun _ => ?_)
    refine v_aload_n X dX12_agrees_215 3 rfl rfl 216 rfl ?_
    refine v_iload X dX12_agrees_216 0 rfl 218 rfl ?_
    refine q_isValid_218 hG D c9 hGU hGV hl0 X (val := (if FH.time h < g 6 then 1 else 0)) hT.2.2.2.2.2.2.2.2.2.2 (Nat.le_of_ble_eq_true rfl) (by first | exact Nat.le_of_ble_eq_true rfl | omega | (dsimp only; omega)) (by first | exact Nat.le_of_ble_eq_true rfl | omega | (dsimp only; omega)) ?_
    refine v_aload_n X dX12_agrees_221 4 rfl rfl 222 rfl ?_
    refine v_get X (C := RX12) (T := TX12) (N := 14) (ci := 13) (v := _) dX12_agrees_222 (lay_of layhv_X12) 0 rfl rfl 12 (by decide) (mw whv_61) rfl rfl 225 rfl ?_
    refine v_aload_n X dX12_agrees_225 1 rfl rfl 226 rfl ?_
    refine v_bipush X dX12_agrees_226 bp_6 228 rfl ?_
    refine v_ildF X dX12_agrees_228 (11 + k) 0 (row_at (ws := [_, _, _, _, _, _, _, _, _, _, _]) hRi) rfl (rd_nI9 (f := g) (k := 6) (show 6 < 10 by decide) (by decide)) 229 rfl ?_
    by_cases h6 : FH.time h < g 6
    · refine v_icmp_ge X (tgt := 236) dX12_agrees_229 rfl 232 rfl (a := none) (b := some ()) (o := ()) (if_neg (Int32.not_le.mpr h6)) (fun h => nomatch h) (fun _ => ?_)
      refine v_iconst X dX12_agrees_232 ic_1 233 rfl ?_
      refine v_goto X (tgt := 237) dX12_agrees_233 rfl ?_
      refine v_icmp_eq X (tgt := 242) dX12_agrees_237 rfl 240 rfl (a := some ()) (b := none) (o := ()) (if_pos (by rw [if_pos h6])) (fun _ => ?_) (fun h => nomatch h)
      refine v_iinc X (lv' := [(2, .int ((nI k) + 1)), (4, .int (g 0)), (3, .ref a1), (1, .ref (ad 0)), (0, .ref (ha 0))]) dX12_agrees_242 2 rfl ic_1 (by decide) rfl 245 rfl ?_
      refine v_goto X (tgt := 61) dX12_agrees_245 rfl ?_
      refine v_sub (lv' := [(2, .int ((nI k) + 1)), (1, .ref (ad 0)), (0, .ref (ha 0))]) [0, 3, 4] rfl ?_
      refine v_eq (lv2 := [(2, .int (nI (k + 1))), (1, .ref (ad 0)), (0, .ref (ha 0))]) rfl rfl (by rw [nI_1 k]) rfl ?_
      exact v_widen (by omega) (by omega) K
    · refine v_icmp_ge X (tgt := 236) dX12_agrees_229 rfl 232 rfl (a := some ()) (b := none) (o := ()) (if_pos (Int32.not_lt.mp h6)) (fun _ => ?_) (fun h => nomatch h)
      refine v_iconst X dX12_agrees_236 ic_0 237 rfl ?_
      refine v_icmp_eq X (tgt := 242) dX12_agrees_237 rfl 240 rfl (a := some ()) (b := none) (o := ()) (if_pos (by rw [if_neg h6])) (fun _ => ?_) (fun h => nomatch h)
      refine v_iinc X (lv' := [(2, .int ((nI k) + 1)), (4, .int (g 0)), (3, .ref a1), (1, .ref (ad 0)), (0, .ref (ha 0))]) dX12_agrees_242 2 rfl ic_1 (by decide) rfl 245 rfl ?_
      refine v_goto X (tgt := 61) dX12_agrees_245 rfl ?_
      refine v_sub (lv' := [(2, .int ((nI k) + 1)), (1, .ref (ad 0)), (0, .ref (ha 0))]) [0, 3, 4] rfl ?_
      refine v_eq (lv2 := [(2, .int (nI (k + 1))), (1, .ref (ad 0)), (0, .ref (ha 0))]) rfl rfl (by rw [nI_1 k]) rfl ?_
      exact v_widen (by omega) (by omega) K
