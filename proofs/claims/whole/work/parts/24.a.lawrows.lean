/-! The law's helpers: a call of the face that may throw, its answer kept or its code given. -/
abbrev wqh (y : MethodName) (c : ByteArray) (n : Nat) (hh : List (Nat × Nat × Nat × Nat)) : List Cond := Cond.codeWith y c n (some .int) hh :: Wg
abbrev wout (c9 : Nat → ClassId) (ao : Nat) (fo : Nat → Int64) : Nat × va_E := (ao, .inl (c9 4, 1, .inr (.inl fo)))
abbrev wLF (c9 : Nat → ClassId) (sl : Nat → Option SV) (asl : Nat → Nat → Nat) (pa : Nat → Option SV) (apa : Nat → Nat → Nat) (ao : Nat) (fo : Nat → Int64) (F0 : va_W) : va_W := optA c9 (List.range 8) pa apa ++ (optA c9 (List.range 2) sl asl ++ (wout c9 ao fo :: F0))
def hcd (cs : List Nat) (ex : Nat) : Int32 := if ex = 0 then 0 else Int32.ofNat (cs.idxOf ex + 1)
def hout (ex : Nat) (fo : Nat → Int64) (x : Int64) : Nat → Int64 := if ex = 0 then vp_updL fo 0 x else fo
def lb (r : Int32) : Int64 := if r = 0 then 0 else 1
theorem cst_S : Cond.castable "java/lang/IllegalStateException" "java/lang/IllegalStateException" ∈ nestW := List.mem_of_getElem? (i := 20) rfl
theorem cst_A : Cond.castable "java/lang/IllegalArgumentException" "java/lang/IllegalArgumentException" ∈ nestW := List.mem_of_getElem? (i := 21) rfl
theorem cst_I : Cond.castable "java/lang/IndexOutOfBoundsException" "java/lang/IndexOutOfBoundsException" ∈ nestW := List.mem_of_getElem? (i := 22) rfl
theorem cst_N : Cond.castable "java/util/NoSuchElementException" "java/util/NoSuchElementException" ∈ nestW := List.mem_of_getElem? (i := 23) rfl
theorem perm_out {a b c d : va_W} {x : Nat × va_E} : (a ++ (b ++ (c ++ (x :: d)))).Perm ([x] ++ (a ++ (b ++ (c ++ d)))) := by
  rw [← List.append_assoc, ← List.append_assoc, ← List.append_assoc a b, ← List.append_assoc (a ++ b) c d]
  exact List.perm_middle
section VO
variable {p : Program} {l : Launch} {e : Env} {R : Room} {s : State} {m : MethodId} {args : Array Value} {below : List Frame} {meth : Method} {c : Code} {cc : ByteArray} {nL : Nat} {ret : Option FieldType} {own : String} {Ts : List Cond} {D : va_G} {tys : List (ClassId × FieldType)} {G : (Nat → Prop) → State → Heap → Prop} {A : Nat → Prop} {F : va_W} {cells slots : Nat} {Q : State → Prop} {ws : va_W} {pc : Nat} {lv : List (Nat × Value)} {st : List Value}
theorem v_outst {c9 : Nat → ClassId} (X : vX p s m args meth c cc nL ret own Ts D (tyA c9) G A) {ao : Nat} {fo : Nat → Int64} {x : Int64} {b c' d9 : va_W} (d : decode cc pc = .ok (.lastore, 1)) (q : Nat) (hq : pc + 1 = q) (K : vW p l e R s m args below meth c nL D A (b ++ (c' ++ (wout c9 ao (vp_updL fo 0 x) :: d9))) cells slots Q ws q lv st) : vW p l e R s m args below meth c nL D A (b ++ (c' ++ (wout c9 ao fo :: d9))) cells slots Q ws pc lv (.long x :: .int 0 :: .ref ao :: st) := by
  refine v_perm perm_out ?_
  refine v_last X (a := ao) (n := 1) (cA := c9 4) (f := fo) (i := 0) (x := x) (ws' := [wout c9 ao (vp_updL fo 0 x)]) d 0 4 rfl rfl (show ¬ ((0 : Int32) < 0 ∨ 1 ≤ (0 : Int32).toNatClampNeg) from by decide) rfl q hq ?_
  exact v_perm perm_out.symm K
theorem v_outld {c9 : Nat → ClassId} (X : vX p s m args meth c cc nL ret own Ts D (tyA c9) G A) {ao : Nat} {fo : Nat → Int64} {b c' d9 : va_W} (d : decode cc pc = .ok (.laload, 1)) (q : Nat) (hq : pc + 1 = q) (K : vW p l e R s m args below meth c nL D A (b ++ (c' ++ (wout c9 ao fo :: d9))) cells slots Q ws q lv (.long (fo 0) :: st)) : vW p l e R s m args below meth c nL D A (b ++ (c' ++ (wout c9 ao fo :: d9))) cells slots Q ws pc lv (.int 0 :: .ref ao :: st) := by
  refine v_perm perm_out ?_
  refine v_lald X (a := ao) (n := 1) (cA := c9 4) (f := fo) (i := 0) d 0 4 rfl rfl (show ¬ ((0 : Int32) < 0 ∨ 1 ≤ (0 : Int32).toNatClampNeg) from by decide) q hq ?_
  exact v_perm perm_out.symm K
end VO
theorem wlh_0 : Cond.methodLink RL 7 yX11_appendInput ∈ Wg := t4_in (List.mem_of_getElem? (i := 201) rfl) rfl
theorem wlh_1 : Cond.instanceMethod yX11_appendInput ∈ Wg := t4_in (List.mem_of_getElem? (i := 202) rfl) rfl
theorem wlh_2 : Cond.selects RX11 yX11_appendInput yX11_appendInput ∈ Wg := t4_in (List.mem_of_getElem? (i := 203) rfl) rfl
theorem wlh_3 : Cond.initialized RX11 ∈ Wg := t1_in (List.mem_of_getElem? (i := 1) rfl) rfl
theorem wlh_4 : Cond.code yX11_appendInput cX11_appendInput 6 (some .int) ∈ Wg := t4_in (List.mem_of_getElem? (i := 204) rfl) rfl
theorem wlh_5 : Cond.classLink RL 13 "java/lang/IllegalStateException" ∈ Wg := t4_in (List.mem_of_getElem? (i := 200) rfl) rfl
theorem wlh_6 : Cond.methodLink RL 15 yX11_truncateInput ∈ Wg := t5_in (List.mem_of_getElem? (i := 41) rfl) rfl
theorem wlh_7 : Cond.instanceMethod yX11_truncateInput ∈ Wg := t5_in (List.mem_of_getElem? (i := 42) rfl) rfl
theorem wlh_8 : Cond.selects RX11 yX11_truncateInput yX11_truncateInput ∈ Wg := t5_in (List.mem_of_getElem? (i := 43) rfl) rfl
theorem wlh_9 : Cond.code yX11_truncateInput cX11_truncateInput 2 (some .int) ∈ Wg := t5_in (List.mem_of_getElem? (i := 44) rfl) rfl
theorem wlh_10 : Cond.classLink RL 19 "java/lang/IllegalArgumentException" ∈ Wg := t5_in (List.mem_of_getElem? (i := 40) rfl) rfl
theorem wlh_11 : Cond.methodLink RL 21 yX11_load ∈ Wg := t5_in (List.mem_of_getElem? (i := 64) rfl) rfl
theorem wlh_12 : Cond.instanceMethod yX11_load ∈ Wg := t5_in (List.mem_of_getElem? (i := 65) rfl) rfl
theorem wlh_13 : Cond.selects RX11 yX11_load yX11_load ∈ Wg := t5_in (List.mem_of_getElem? (i := 66) rfl) rfl
theorem wlh_14 : Cond.code yX11_load cX11_load 2 (some .int) ∈ Wg := t5_in (List.mem_of_getElem? (i := 67) rfl) rfl
theorem wlh_15 : Cond.methodLink RL 25 yX11_lifetimeOf ∈ Wg := t5_in (List.mem_of_getElem? (i := 73) rfl) rfl
theorem wlh_16 : Cond.instanceMethod yX11_lifetimeOf ∈ Wg := t5_in (List.mem_of_getElem? (i := 74) rfl) rfl
theorem wlh_17 : Cond.selects RX11 yX11_lifetimeOf yX11_lifetimeOf ∈ Wg := t5_in (List.mem_of_getElem? (i := 75) rfl) rfl
theorem wlh_18 : Cond.code yX11_lifetimeOf cX11_lifetimeOf 2 (some .int) ∈ Wg := t5_in (List.mem_of_getElem? (i := 76) rfl) rfl
theorem wlh_19 : Cond.classLink RL 28 "java/lang/IndexOutOfBoundsException" ∈ Wg := t5_in (List.mem_of_getElem? (i := 72) rfl) rfl
theorem wlh_20 : Cond.methodLink RL 30 yX11_clockOf ∈ Wg := t5_in (List.mem_of_getElem? (i := 107) rfl) rfl
theorem wlh_21 : Cond.instanceMethod yX11_clockOf ∈ Wg := t5_in (List.mem_of_getElem? (i := 108) rfl) rfl
theorem wlh_22 : Cond.selects RX11 yX11_clockOf yX11_clockOf ∈ Wg := t5_in (List.mem_of_getElem? (i := 109) rfl) rfl
theorem wlh_23 : Cond.code yX11_clockOf cX11_clockOf 2 (some .int) ∈ Wg := t5_in (List.mem_of_getElem? (i := 110) rfl) rfl
theorem wlh_24 : Cond.methodLink RL 33 yX11_trusts ∈ Wg := t5_in (List.mem_of_getElem? (i := 114) rfl) rfl
theorem wlh_25 : Cond.instanceMethod yX11_trusts ∈ Wg := t5_in (List.mem_of_getElem? (i := 115) rfl) rfl
theorem wlh_26 : Cond.selects RX11 yX11_trusts yX11_trusts ∈ Wg := t5_in (List.mem_of_getElem? (i := 116) rfl) rfl
theorem wlh_27 : Cond.code yX11_trusts cX11_trusts 3 (some .boolean) ∈ Wg := t5_in (List.mem_of_getElem? (i := 117) rfl) rfl
theorem wlh_28 : Cond.methodLink RL 37 yX11_distance ∈ Wg := t5_in (List.mem_of_getElem? (i := 122) rfl) rfl
theorem wlh_29 : Cond.instanceMethod yX11_distance ∈ Wg := t5_in (List.mem_of_getElem? (i := 123) rfl) rfl
theorem wlh_30 : Cond.selects RX11 yX11_distance yX11_distance ∈ Wg := t5_in (List.mem_of_getElem? (i := 124) rfl) rfl
theorem wlh_31 : Cond.code yX11_distance cX11_distance 3 (some .int) ∈ Wg := t5_in (List.mem_of_getElem? (i := 125) rfl) rfl
theorem wlh_32 : Cond.methodLink RL 41 yX11_nextRealm ∈ Wg := t5_in (List.mem_of_getElem? (i := 130) rfl) rfl
theorem wlh_33 : Cond.instanceMethod yX11_nextRealm ∈ Wg := t5_in (List.mem_of_getElem? (i := 131) rfl) rfl
theorem wlh_34 : Cond.selects RX11 yX11_nextRealm yX11_nextRealm ∈ Wg := t5_in (List.mem_of_getElem? (i := 132) rfl) rfl
theorem wlh_35 : Cond.code yX11_nextRealm cX11_nextRealm 3 (some .int) ∈ Wg := t5_in (List.mem_of_getElem? (i := 133) rfl) rfl
theorem wlh_36 : Cond.methodLink RL 44 yX11_homeOf ∈ Wg := t5_in (List.mem_of_getElem? (i := 142) rfl) rfl
theorem wlh_37 : Cond.instanceMethod yX11_homeOf ∈ Wg := t5_in (List.mem_of_getElem? (i := 143) rfl) rfl
theorem wlh_38 : Cond.selects RX11 yX11_homeOf yX11_homeOf ∈ Wg := t5_in (List.mem_of_getElem? (i := 144) rfl) rfl
theorem wlh_39 : Cond.code yX11_homeOf cX11_homeOf 2 (some .int) ∈ Wg := t5_in (List.mem_of_getElem? (i := 145) rfl) rfl
theorem wlh_40 : Cond.methodLink RL 47 yX11_cheesesOf ∈ Wg := t5_in (List.mem_of_getElem? (i := 158) rfl) rfl
theorem wlh_41 : Cond.instanceMethod yX11_cheesesOf ∈ Wg := t5_in (List.mem_of_getElem? (i := 159) rfl) rfl
theorem wlh_42 : Cond.selects RX11 yX11_cheesesOf yX11_cheesesOf ∈ Wg := t5_in (List.mem_of_getElem? (i := 160) rfl) rfl
theorem wlh_43 : Cond.code yX11_cheesesOf cX11_cheesesOf 2 (some .int) ∈ Wg := t5_in (List.mem_of_getElem? (i := 161) rfl) rfl
theorem wlh_44 : Cond.methodLink RL 50 yX11_skew ∈ Wg := t5_in (List.mem_of_getElem? (i := 165) rfl) rfl
theorem wlh_45 : Cond.instanceMethod yX11_skew ∈ Wg := t5_in (List.mem_of_getElem? (i := 166) rfl) rfl
theorem wlh_46 : Cond.selects RX11 yX11_skew yX11_skew ∈ Wg := t5_in (List.mem_of_getElem? (i := 167) rfl) rfl
theorem wlh_47 : Cond.code yX11_skew cX11_skew 3 (some .int) ∈ Wg := t5_in (List.mem_of_getElem? (i := 168) rfl) rfl
theorem wlh_48 : Cond.methodLink RL 53 yX11_realmOfService ∈ Wg := t5_in (List.mem_of_getElem? (i := 173) rfl) rfl
theorem wlh_49 : Cond.instanceMethod yX11_realmOfService ∈ Wg := t5_in (List.mem_of_getElem? (i := 174) rfl) rfl
theorem wlh_50 : Cond.selects RX11 yX11_realmOfService yX11_realmOfService ∈ Wg := t5_in (List.mem_of_getElem? (i := 175) rfl) rfl
theorem wlh_51 : Cond.code yX11_realmOfService cX11_realmOfService 2 (some .int) ∈ Wg := t5_in (List.mem_of_getElem? (i := 176) rfl) rfl
theorem wlh_52 : Cond.methodLink RL 56 yX11_cheesesLeft ∈ Wg := t5_in (List.mem_of_getElem? (i := 189) rfl) rfl
theorem wlh_53 : Cond.instanceMethod yX11_cheesesLeft ∈ Wg := t5_in (List.mem_of_getElem? (i := 190) rfl) rfl
theorem wlh_54 : Cond.selects RX11 yX11_cheesesLeft yX11_cheesesLeft ∈ Wg := t5_in (List.mem_of_getElem? (i := 191) rfl) rfl
theorem wlh_55 : Cond.code yX11_cheesesLeft cX11_cheesesLeft 2 (some .int) ∈ Wg := t5_in (List.mem_of_getElem? (i := 192) rfl) rfl
theorem wlh_56 : Cond.methodLink RL 59 yX11_ticketAt ∈ Wg := t5_in (List.mem_of_getElem? (i := 196) rfl) rfl
theorem wlh_57 : Cond.instanceMethod yX11_ticketAt ∈ Wg := t5_in (List.mem_of_getElem? (i := 197) rfl) rfl
theorem wlh_58 : Cond.selects RX11 yX11_ticketAt yX11_ticketAt ∈ Wg := t5_in (List.mem_of_getElem? (i := 198) rfl) rfl
theorem wlh_59 : Cond.code yX11_ticketAt cX11_ticketAt 2 (some .int) ∈ Wg := t5_in (List.mem_of_getElem? (i := 199) rfl) rfl
theorem wlh_60 : Cond.methodLink RL 62 yX11_kindOf ∈ Wg := t5_in (List.mem_of_getElem? (i := 209) rfl) rfl
theorem wlh_61 : Cond.instanceMethod yX11_kindOf ∈ Wg := t5_in (List.mem_of_getElem? (i := 210) rfl) rfl
theorem wlh_62 : Cond.selects RX11 yX11_kindOf yX11_kindOf ∈ Wg := t5_in (List.mem_of_getElem? (i := 211) rfl) rfl
theorem wlh_63 : Cond.code yX11_kindOf cX11_kindOf 2 (some .int) ∈ Wg := t5_in (List.mem_of_getElem? (i := 212) rfl) rfl
theorem wlh_64 : Cond.classLink RL 65 "java/util/NoSuchElementException" ∈ Wg := t5_in (List.mem_of_getElem? (i := 208) rfl) rfl
theorem wlh_65 : Cond.methodLink RL 67 yX11_ownerOf ∈ Wg := t5_in (List.mem_of_getElem? (i := 237) rfl) rfl
theorem wlh_66 : Cond.instanceMethod yX11_ownerOf ∈ Wg := t5_in (List.mem_of_getElem? (i := 238) rfl) rfl
theorem wlh_67 : Cond.selects RX11 yX11_ownerOf yX11_ownerOf ∈ Wg := t5_in (List.mem_of_getElem? (i := 239) rfl) rfl
theorem wlh_68 : Cond.code yX11_ownerOf cX11_ownerOf 2 (some .int) ∈ Wg := t6_in (List.mem_of_getElem? (i := 0) rfl) rfl
theorem wlh_69 : Cond.methodLink RL 70 yX11_realmOf ∈ Wg := t6_in (List.mem_of_getElem? (i := 4) rfl) rfl
theorem wlh_70 : Cond.instanceMethod yX11_realmOf ∈ Wg := t6_in (List.mem_of_getElem? (i := 5) rfl) rfl
theorem wlh_71 : Cond.selects RX11 yX11_realmOf yX11_realmOf ∈ Wg := t6_in (List.mem_of_getElem? (i := 6) rfl) rfl
theorem wlh_72 : Cond.code yX11_realmOf cX11_realmOf 2 (some .int) ∈ Wg := t6_in (List.mem_of_getElem? (i := 7) rfl) rfl
theorem wlh_73 : Cond.methodLink RL 73 yX11_serviceOf ∈ Wg := t6_in (List.mem_of_getElem? (i := 11) rfl) rfl
theorem wlh_74 : Cond.instanceMethod yX11_serviceOf ∈ Wg := t6_in (List.mem_of_getElem? (i := 12) rfl) rfl
theorem wlh_75 : Cond.selects RX11 yX11_serviceOf yX11_serviceOf ∈ Wg := t6_in (List.mem_of_getElem? (i := 13) rfl) rfl
theorem wlh_76 : Cond.code yX11_serviceOf cX11_serviceOf 2 (some .int) ∈ Wg := t6_in (List.mem_of_getElem? (i := 14) rfl) rfl
theorem wlh_77 : Cond.methodLink RL 76 yX11_startOf ∈ Wg := t6_in (List.mem_of_getElem? (i := 18) rfl) rfl
theorem wlh_78 : Cond.instanceMethod yX11_startOf ∈ Wg := t6_in (List.mem_of_getElem? (i := 19) rfl) rfl
theorem wlh_79 : Cond.selects RX11 yX11_startOf yX11_startOf ∈ Wg := t6_in (List.mem_of_getElem? (i := 20) rfl) rfl
theorem wlh_80 : Cond.code yX11_startOf cX11_startOf 2 (some .int) ∈ Wg := t6_in (List.mem_of_getElem? (i := 21) rfl) rfl
theorem wlh_81 : Cond.methodLink RL 79 yX11_endOf ∈ Wg := t6_in (List.mem_of_getElem? (i := 25) rfl) rfl
theorem wlh_82 : Cond.instanceMethod yX11_endOf ∈ Wg := t6_in (List.mem_of_getElem? (i := 26) rfl) rfl
theorem wlh_83 : Cond.selects RX11 yX11_endOf yX11_endOf ∈ Wg := t6_in (List.mem_of_getElem? (i := 27) rfl) rfl
theorem wlh_84 : Cond.code yX11_endOf cX11_endOf 2 (some .int) ∈ Wg := t6_in (List.mem_of_getElem? (i := 28) rfl) rfl
theorem wlh_85 : Cond.methodLink RL 82 yX11_lastEndOf ∈ Wg := t6_in (List.mem_of_getElem? (i := 32) rfl) rfl
theorem wlh_86 : Cond.instanceMethod yX11_lastEndOf ∈ Wg := t6_in (List.mem_of_getElem? (i := 33) rfl) rfl
theorem wlh_87 : Cond.selects RX11 yX11_lastEndOf yX11_lastEndOf ∈ Wg := t6_in (List.mem_of_getElem? (i := 34) rfl) rfl
theorem wlh_88 : Cond.code yX11_lastEndOf cX11_lastEndOf 2 (some .int) ∈ Wg := t6_in (List.mem_of_getElem? (i := 35) rfl) rfl
theorem wlh_89 : Cond.methodLink RL 85 yX11_keyOf ∈ Wg := t6_in (List.mem_of_getElem? (i := 39) rfl) rfl
theorem wlh_90 : Cond.instanceMethod yX11_keyOf ∈ Wg := t6_in (List.mem_of_getElem? (i := 40) rfl) rfl
theorem wlh_91 : Cond.selects RX11 yX11_keyOf yX11_keyOf ∈ Wg := t6_in (List.mem_of_getElem? (i := 41) rfl) rfl
theorem wlh_92 : Cond.code yX11_keyOf cX11_keyOf 2 (some .int) ∈ Wg := t6_in (List.mem_of_getElem? (i := 42) rfl) rfl
theorem wlh_93 : Cond.methodLink RL 88 yX11_isRenewable ∈ Wg := t6_in (List.mem_of_getElem? (i := 46) rfl) rfl
theorem wlh_94 : Cond.instanceMethod yX11_isRenewable ∈ Wg := t6_in (List.mem_of_getElem? (i := 47) rfl) rfl
theorem wlh_95 : Cond.selects RX11 yX11_isRenewable yX11_isRenewable ∈ Wg := t6_in (List.mem_of_getElem? (i := 48) rfl) rfl
theorem wlh_96 : Cond.code yX11_isRenewable cX11_isRenewable 2 (some .boolean) ∈ Wg := t6_in (List.mem_of_getElem? (i := 49) rfl) rfl
theorem wlh_97 : Cond.methodLink RL 92 yX11_isValid ∈ Wg := t6_in (List.mem_of_getElem? (i := 54) rfl) rfl
theorem wlh_98 : Cond.instanceMethod yX11_isValid ∈ Wg := t6_in (List.mem_of_getElem? (i := 55) rfl) rfl
theorem wlh_99 : Cond.selects RX11 yX11_isValid yX11_isValid ∈ Wg := t6_in (List.mem_of_getElem? (i := 56) rfl) rfl
theorem wlh_100 : Cond.code yX11_isValid cX11_isValid 2 (some .boolean) ∈ Wg := t6_in (List.mem_of_getElem? (i := 57) rfl) rfl
theorem wlh_101 : Cond.methodLink RL 95 yX11_minutesLeft ∈ Wg := t6_in (List.mem_of_getElem? (i := 62) rfl) rfl
theorem wlh_102 : Cond.instanceMethod yX11_minutesLeft ∈ Wg := t6_in (List.mem_of_getElem? (i := 63) rfl) rfl
theorem wlh_103 : Cond.selects RX11 yX11_minutesLeft yX11_minutesLeft ∈ Wg := t6_in (List.mem_of_getElem? (i := 64) rfl) rfl
theorem wlh_104 : Cond.code yX11_minutesLeft cX11_minutesLeft 2 (some .int) ∈ Wg := t6_in (List.mem_of_getElem? (i := 65) rfl) rfl
theorem wlh_105 : Cond.methodLink RL 98 yX11_loginRefusal ∈ Wg := t6_in (List.mem_of_getElem? (i := 70) rfl) rfl
theorem wlh_106 : Cond.instanceMethod yX11_loginRefusal ∈ Wg := t6_in (List.mem_of_getElem? (i := 71) rfl) rfl
theorem wlh_107 : Cond.selects RX11 yX11_loginRefusal yX11_loginRefusal ∈ Wg := t6_in (List.mem_of_getElem? (i := 72) rfl) rfl
theorem wlh_108 : Cond.code yX11_loginRefusal cX11_loginRefusal 3 (some .int) ∈ Wg := t6_in (List.mem_of_getElem? (i := 73) rfl) rfl
theorem wlh_109 : Cond.methodLink RL 101 yX11_referRefusal ∈ Wg := t6_in (List.mem_of_getElem? (i := 83) rfl) rfl
theorem wlh_110 : Cond.instanceMethod yX11_referRefusal ∈ Wg := t6_in (List.mem_of_getElem? (i := 84) rfl) rfl
theorem wlh_111 : Cond.selects RX11 yX11_referRefusal yX11_referRefusal ∈ Wg := t6_in (List.mem_of_getElem? (i := 85) rfl) rfl
theorem wlh_112 : Cond.code yX11_referRefusal cX11_referRefusal 4 (some .int) ∈ Wg := t6_in (List.mem_of_getElem? (i := 86) rfl) rfl
theorem wlh_113 : Cond.methodLink RL 104 yX11_requestRefusal ∈ Wg := t6_in (List.mem_of_getElem? (i := 91) rfl) rfl
theorem wlh_114 : Cond.instanceMethod yX11_requestRefusal ∈ Wg := t6_in (List.mem_of_getElem? (i := 92) rfl) rfl
theorem wlh_115 : Cond.selects RX11 yX11_requestRefusal yX11_requestRefusal ∈ Wg := t6_in (List.mem_of_getElem? (i := 93) rfl) rfl
theorem wlh_116 : Cond.code yX11_requestRefusal cX11_requestRefusal 4 (some .int) ∈ Wg := t6_in (List.mem_of_getElem? (i := 94) rfl) rfl
theorem wlh_117 : Cond.methodLink RL 107 yX11_renewRefusal ∈ Wg := t6_in (List.mem_of_getElem? (i := 99) rfl) rfl
theorem wlh_118 : Cond.instanceMethod yX11_renewRefusal ∈ Wg := t6_in (List.mem_of_getElem? (i := 100) rfl) rfl
theorem wlh_119 : Cond.selects RX11 yX11_renewRefusal yX11_renewRefusal ∈ Wg := t6_in (List.mem_of_getElem? (i := 101) rfl) rfl
theorem wlh_120 : Cond.code yX11_renewRefusal cX11_renewRefusal 2 (some .int) ∈ Wg := t6_in (List.mem_of_getElem? (i := 102) rfl) rfl
theorem wlh_121 : Cond.methodLink RL 110 yX11_cheeseRefusal ∈ Wg := t6_in (List.mem_of_getElem? (i := 107) rfl) rfl
theorem wlh_122 : Cond.instanceMethod yX11_cheeseRefusal ∈ Wg := t6_in (List.mem_of_getElem? (i := 108) rfl) rfl
theorem wlh_123 : Cond.selects RX11 yX11_cheeseRefusal yX11_cheeseRefusal ∈ Wg := t6_in (List.mem_of_getElem? (i := 109) rfl) rfl
theorem wlh_124 : Cond.code yX11_cheeseRefusal cX11_cheeseRefusal 2 (some .int) ∈ Wg := t6_in (List.mem_of_getElem? (i := 110) rfl) rfl
theorem wlh_125 : Cond.methodLink RL 113 yX11_validAfter ∈ Wg := t6_in (List.mem_of_getElem? (i := 115) rfl) rfl
theorem wlh_126 : Cond.instanceMethod yX11_validAfter ∈ Wg := t6_in (List.mem_of_getElem? (i := 116) rfl) rfl
theorem wlh_127 : Cond.selects RX11 yX11_validAfter yX11_validAfter ∈ Wg := t6_in (List.mem_of_getElem? (i := 117) rfl) rfl
theorem wlh_128 : Cond.code yX11_validAfter cX11_validAfter 2 (some .int) ∈ Wg := t6_in (List.mem_of_getElem? (i := 118) rfl) rfl
theorem wlh_129 : Cond.methodLink RL 116 yX11_minutesUntilCheese ∈ Wg := t6_in (List.mem_of_getElem? (i := 123) rfl) rfl
theorem wlh_130 : Cond.instanceMethod yX11_minutesUntilCheese ∈ Wg := t6_in (List.mem_of_getElem? (i := 124) rfl) rfl
theorem wlh_131 : Cond.selects RX11 yX11_minutesUntilCheese yX11_minutesUntilCheese ∈ Wg := t6_in (List.mem_of_getElem? (i := 125) rfl) rfl
theorem wlh_132 : Cond.code yX11_minutesUntilCheese cX11_minutesUntilCheese 4 (some .int) ∈ Wg := t6_in (List.mem_of_getElem? (i := 126) rfl) rfl
theorem wlh_133 : Cond.methodLink RL 119 yX11_bestTicket ∈ Wg := t6_in (List.mem_of_getElem? (i := 130) rfl) rfl
theorem wlh_134 : Cond.instanceMethod yX11_bestTicket ∈ Wg := t6_in (List.mem_of_getElem? (i := 131) rfl) rfl
theorem wlh_135 : Cond.selects RX11 yX11_bestTicket yX11_bestTicket ∈ Wg := t6_in (List.mem_of_getElem? (i := 132) rfl) rfl
theorem wlh_136 : Cond.code yX11_bestTicket cX11_bestTicket 4 (some .int) ∈ Wg := t6_in (List.mem_of_getElem? (i := 133) rfl) rfl
theorem wlh_137 : Cond.methodLink RL 122 yX11_login ∈ Wg := t6_in (List.mem_of_getElem? (i := 141) rfl) rfl
theorem wlh_138 : Cond.instanceMethod yX11_login ∈ Wg := t6_in (List.mem_of_getElem? (i := 142) rfl) rfl
theorem wlh_139 : Cond.selects RX11 yX11_login yX11_login ∈ Wg := t6_in (List.mem_of_getElem? (i := 143) rfl) rfl
theorem wlh_140 : Cond.code yX11_login cX11_login 4 (some .int) ∈ Wg := t6_in (List.mem_of_getElem? (i := 144) rfl) rfl
theorem wlh_141 : Cond.methodLink RL 126 yX11_refer ∈ Wg := t6_in (List.mem_of_getElem? (i := 154) rfl) rfl
theorem wlh_142 : Cond.instanceMethod yX11_refer ∈ Wg := t6_in (List.mem_of_getElem? (i := 155) rfl) rfl
theorem wlh_143 : Cond.selects RX11 yX11_refer yX11_refer ∈ Wg := t6_in (List.mem_of_getElem? (i := 156) rfl) rfl
theorem wlh_144 : Cond.code yX11_refer cX11_refer 4 (some .int) ∈ Wg := t6_in (List.mem_of_getElem? (i := 157) rfl) rfl
theorem wlh_145 : Cond.methodLink RL 129 yX11_request ∈ Wg := t6_in (List.mem_of_getElem? (i := 162) rfl) rfl
theorem wlh_146 : Cond.instanceMethod yX11_request ∈ Wg := t6_in (List.mem_of_getElem? (i := 163) rfl) rfl
theorem wlh_147 : Cond.selects RX11 yX11_request yX11_request ∈ Wg := t6_in (List.mem_of_getElem? (i := 164) rfl) rfl
theorem wlh_148 : Cond.code yX11_request cX11_request 4 (some .int) ∈ Wg := t6_in (List.mem_of_getElem? (i := 165) rfl) rfl
theorem wlh_149 : Cond.methodLink RL 132 yX11_renew ∈ Wg := t6_in (List.mem_of_getElem? (i := 170) rfl) rfl
theorem wlh_150 : Cond.instanceMethod yX11_renew ∈ Wg := t6_in (List.mem_of_getElem? (i := 171) rfl) rfl
theorem wlh_151 : Cond.selects RX11 yX11_renew yX11_renew ∈ Wg := t6_in (List.mem_of_getElem? (i := 172) rfl) rfl
theorem wlh_152 : Cond.code yX11_renew cX11_renew 3 (some .int) ∈ Wg := t6_in (List.mem_of_getElem? (i := 173) rfl) rfl
theorem wlh_153 : Cond.methodLink RL 135 yX11_cheese ∈ Wg := t6_in (List.mem_of_getElem? (i := 178) rfl) rfl
theorem wlh_154 : Cond.instanceMethod yX11_cheese ∈ Wg := t6_in (List.mem_of_getElem? (i := 179) rfl) rfl
theorem wlh_155 : Cond.selects RX11 yX11_cheese yX11_cheese ∈ Wg := t6_in (List.mem_of_getElem? (i := 180) rfl) rfl
theorem wlh_156 : Cond.code yX11_cheese cX11_cheese 3 (some .int) ∈ Wg := t6_in (List.mem_of_getElem? (i := 181) rfl) rfl
theorem wlh_157 : Cond.methodLink RL 138 yX11_drop ∈ Wg := t6_in (List.mem_of_getElem? (i := 186) rfl) rfl
theorem wlh_158 : Cond.instanceMethod yX11_drop ∈ Wg := t6_in (List.mem_of_getElem? (i := 187) rfl) rfl
theorem wlh_159 : Cond.selects RX11 yX11_drop yX11_drop ∈ Wg := t6_in (List.mem_of_getElem? (i := 188) rfl) rfl
theorem wlh_160 : Cond.code yX11_drop cX11_drop 3 (some .int) ∈ Wg := t6_in (List.mem_of_getElem? (i := 189) rfl) rfl
theorem wlh_161 : Cond.methodLink RL 141 yX11_setPassword ∈ Wg := t6_in (List.mem_of_getElem? (i := 194) rfl) rfl
theorem wlh_162 : Cond.instanceMethod yX11_setPassword ∈ Wg := t6_in (List.mem_of_getElem? (i := 195) rfl) rfl
theorem wlh_163 : Cond.selects RX11 yX11_setPassword yX11_setPassword ∈ Wg := t6_in (List.mem_of_getElem? (i := 196) rfl) rfl
theorem wlh_164 : Cond.code yX11_setPassword cX11_setPassword 4 (some .int) ∈ Wg := t6_in (List.mem_of_getElem? (i := 197) rfl) rfl
theorem wlh_165 : Cond.methodLink RL 144 yX11_setClock ∈ Wg := t6_in (List.mem_of_getElem? (i := 202) rfl) rfl
theorem wlh_166 : Cond.instanceMethod yX11_setClock ∈ Wg := t6_in (List.mem_of_getElem? (i := 203) rfl) rfl
theorem wlh_167 : Cond.selects RX11 yX11_setClock yX11_setClock ∈ Wg := t6_in (List.mem_of_getElem? (i := 204) rfl) rfl
theorem wlh_168 : Cond.code yX11_setClock cX11_setClock 4 (some .int) ∈ Wg := t6_in (List.mem_of_getElem? (i := 205) rfl) rfl
theorem wlh_169 : Cond.methodLink RL 147 yX11_pass ∈ Wg := t6_in (List.mem_of_getElem? (i := 210) rfl) rfl
theorem wlh_170 : Cond.instanceMethod yX11_pass ∈ Wg := t6_in (List.mem_of_getElem? (i := 211) rfl) rfl
theorem wlh_171 : Cond.selects RX11 yX11_pass yX11_pass ∈ Wg := t6_in (List.mem_of_getElem? (i := 212) rfl) rfl
theorem wlh_172 : Cond.code yX11_pass cX11_pass 3 (some .int) ∈ Wg := t6_in (List.mem_of_getElem? (i := 213) rfl) rfl
theorem wlh_173 : Cond.methodLink RL 150 yX11_writeTicket ∈ Wg := t6_in (List.mem_of_getElem? (i := 218) rfl) rfl
theorem wlh_174 : Cond.instanceMethod yX11_writeTicket ∈ Wg := t6_in (List.mem_of_getElem? (i := 219) rfl) rfl
theorem wlh_175 : Cond.selects RX11 yX11_writeTicket yX11_writeTicket ∈ Wg := t6_in (List.mem_of_getElem? (i := 220) rfl) rfl
theorem wlh_176 : Cond.code yX11_writeTicket cX11_writeTicket 4 (some .int) ∈ Wg := t6_in (List.mem_of_getElem? (i := 221) rfl) rfl
theorem wlh_177 : Cond.methodLink RL 153 yX11_outputByte ∈ Wg := t6_in (List.mem_of_getElem? (i := 235) rfl) rfl
theorem wlh_178 : Cond.instanceMethod yX11_outputByte ∈ Wg := t6_in (List.mem_of_getElem? (i := 236) rfl) rfl
theorem wlh_179 : Cond.selects RX11 yX11_outputByte yX11_outputByte ∈ Wg := t6_in (List.mem_of_getElem? (i := 237) rfl) rfl
theorem wlh_180 : Cond.code yX11_outputByte cX11_outputByte 2 (some .int) ∈ Wg := t6_in (List.mem_of_getElem? (i := 238) rfl) rfl
theorem wlh_181 : Cond.methodLink RL 156 yX11_save ∈ Wg := t7_in (List.mem_of_getElem? (i := 4) rfl) rfl
theorem wlh_182 : Cond.instanceMethod yX11_save ∈ Wg := t7_in (List.mem_of_getElem? (i := 5) rfl) rfl
theorem wlh_183 : Cond.selects RX11 yX11_save yX11_save ∈ Wg := t7_in (List.mem_of_getElem? (i := 6) rfl) rfl
theorem wlh_184 : Cond.code yX11_save cX11_save 2 (some .int) ∈ Wg := t7_in (List.mem_of_getElem? (i := 7) rfl) rfl
theorem wlh_185 : Cond.methodLink RL 159 yX11_restore ∈ Wg := t7_in (List.mem_of_getElem? (i := 16) rfl) rfl
theorem wlh_186 : Cond.instanceMethod yX11_restore ∈ Wg := t7_in (List.mem_of_getElem? (i := 17) rfl) rfl
theorem wlh_187 : Cond.selects RX11 yX11_restore yX11_restore ∈ Wg := t7_in (List.mem_of_getElem? (i := 18) rfl) rfl
theorem wlh_188 : Cond.code yX11_restore cX11_restore 2 (some .int) ∈ Wg := t7_in (List.mem_of_getElem? (i := 19) rfl) rfl
theorem wlh_189 : Cond.methodLink RL 162 yX11_undo ∈ Wg := t7_in (List.mem_of_getElem? (i := 32) rfl) rfl
theorem wlh_190 : Cond.instanceMethod yX11_undo ∈ Wg := t7_in (List.mem_of_getElem? (i := 33) rfl) rfl
theorem wlh_191 : Cond.selects RX11 yX11_undo yX11_undo ∈ Wg := t7_in (List.mem_of_getElem? (i := 34) rfl) rfl
theorem wlh_192 : Cond.code yX11_undo cX11_undo 1 (some .int) ∈ Wg := t7_in (List.mem_of_getElem? (i := 35) rfl) rfl

theorem dL_appendInput_0 : decode cL_appendInput 0 = .ok (.aload 6, 2) := by decide +kernel
theorem dL_appendInput_2 : decode cL_appendInput 2 = .ok (.iconst 0, 1) := by decide +kernel
theorem dL_appendInput_3 : decode cL_appendInput 3 = .ok (.aload_n 0, 1) := by decide +kernel
theorem dL_appendInput_4 : decode cL_appendInput 4 = .ok (.iload_n 1, 1) := by decide +kernel
theorem dL_appendInput_5 : decode cL_appendInput 5 = .ok (.iload_n 2, 1) := by decide +kernel
theorem dL_appendInput_6 : decode cL_appendInput 6 = .ok (.iload_n 3, 1) := by decide +kernel
theorem dL_appendInput_7 : decode cL_appendInput 7 = .ok (.iload 4, 2) := by decide +kernel
theorem dL_appendInput_9 : decode cL_appendInput 9 = .ok (.iload 5, 2) := by decide +kernel
theorem dL_appendInput_11 : decode cL_appendInput 11 = .ok (.invokevirtual 7, 3) := by decide +kernel
theorem dL_appendInput_14 : decode cL_appendInput 14 = .ok (.i2l, 1) := by decide +kernel
theorem dL_appendInput_15 : decode cL_appendInput 15 = .ok (.lastore, 1) := by decide +kernel
theorem dL_appendInput_16 : decode cL_appendInput 16 = .ok (.goto 7, 3) := by decide +kernel
theorem dL_appendInput_19 : decode cL_appendInput 19 = .ok (.astore 7, 2) := by decide +kernel
theorem dL_appendInput_21 : decode cL_appendInput 21 = .ok (.iconst 1, 1) := by decide +kernel
theorem dL_appendInput_22 : decode cL_appendInput 22 = .ok (.ireturn, 1) := by decide +kernel
theorem dL_appendInput_23 : decode cL_appendInput 23 = .ok (.iconst 0, 1) := by decide +kernel
theorem dL_appendInput_24 : decode cL_appendInput 24 = .ok (.ireturn, 1) := by decide +kernel
theorem dL_truncateInput_0 : decode cL_truncateInput 0 = .ok (.aload_n 2, 1) := by decide +kernel
theorem dL_truncateInput_1 : decode cL_truncateInput 1 = .ok (.iconst 0, 1) := by decide +kernel
theorem dL_truncateInput_2 : decode cL_truncateInput 2 = .ok (.aload_n 0, 1) := by decide +kernel
theorem dL_truncateInput_3 : decode cL_truncateInput 3 = .ok (.iload_n 1, 1) := by decide +kernel
theorem dL_truncateInput_4 : decode cL_truncateInput 4 = .ok (.invokevirtual 15, 3) := by decide +kernel
theorem dL_truncateInput_7 : decode cL_truncateInput 7 = .ok (.i2l, 1) := by decide +kernel
theorem dL_truncateInput_8 : decode cL_truncateInput 8 = .ok (.lastore, 1) := by decide +kernel
theorem dL_truncateInput_9 : decode cL_truncateInput 9 = .ok (.goto 6, 3) := by decide +kernel
theorem dL_truncateInput_12 : decode cL_truncateInput 12 = .ok (.astore_n 3, 1) := by decide +kernel
theorem dL_truncateInput_13 : decode cL_truncateInput 13 = .ok (.iconst 1, 1) := by decide +kernel
theorem dL_truncateInput_14 : decode cL_truncateInput 14 = .ok (.ireturn, 1) := by decide +kernel
theorem dL_truncateInput_15 : decode cL_truncateInput 15 = .ok (.iconst 0, 1) := by decide +kernel
theorem dL_truncateInput_16 : decode cL_truncateInput 16 = .ok (.ireturn, 1) := by decide +kernel
theorem dL_load_0 : decode cL_load 0 = .ok (.aload_n 1, 1) := by decide +kernel
theorem dL_load_1 : decode cL_load 1 = .ok (.iconst 0, 1) := by decide +kernel
theorem dL_load_2 : decode cL_load 2 = .ok (.aload_n 0, 1) := by decide +kernel
theorem dL_load_3 : decode cL_load 3 = .ok (.invokevirtual 21, 3) := by decide +kernel
theorem dL_load_6 : decode cL_load 6 = .ok (.i2l, 1) := by decide +kernel
theorem dL_load_7 : decode cL_load 7 = .ok (.lastore, 1) := by decide +kernel
theorem dL_load_8 : decode cL_load 8 = .ok (.goto 6, 3) := by decide +kernel
theorem dL_load_11 : decode cL_load 11 = .ok (.astore_n 2, 1) := by decide +kernel
theorem dL_load_12 : decode cL_load 12 = .ok (.iconst 1, 1) := by decide +kernel
theorem dL_load_13 : decode cL_load 13 = .ok (.ireturn, 1) := by decide +kernel
theorem dL_load_14 : decode cL_load 14 = .ok (.iconst 0, 1) := by decide +kernel
theorem dL_load_15 : decode cL_load 15 = .ok (.ireturn, 1) := by decide +kernel
theorem dL_lifetimeOf_0 : decode cL_lifetimeOf 0 = .ok (.aload_n 2, 1) := by decide +kernel
theorem dL_lifetimeOf_1 : decode cL_lifetimeOf 1 = .ok (.iconst 0, 1) := by decide +kernel
theorem dL_lifetimeOf_2 : decode cL_lifetimeOf 2 = .ok (.aload_n 0, 1) := by decide +kernel
theorem dL_lifetimeOf_3 : decode cL_lifetimeOf 3 = .ok (.iload_n 1, 1) := by decide +kernel
theorem dL_lifetimeOf_4 : decode cL_lifetimeOf 4 = .ok (.invokevirtual 25, 3) := by decide +kernel
theorem dL_lifetimeOf_7 : decode cL_lifetimeOf 7 = .ok (.i2l, 1) := by decide +kernel
theorem dL_lifetimeOf_8 : decode cL_lifetimeOf 8 = .ok (.lastore, 1) := by decide +kernel
theorem dL_lifetimeOf_9 : decode cL_lifetimeOf 9 = .ok (.goto 6, 3) := by decide +kernel
theorem dL_lifetimeOf_12 : decode cL_lifetimeOf 12 = .ok (.astore_n 3, 1) := by decide +kernel
theorem dL_lifetimeOf_13 : decode cL_lifetimeOf 13 = .ok (.iconst 1, 1) := by decide +kernel
theorem dL_lifetimeOf_14 : decode cL_lifetimeOf 14 = .ok (.ireturn, 1) := by decide +kernel
theorem dL_lifetimeOf_15 : decode cL_lifetimeOf 15 = .ok (.iconst 0, 1) := by decide +kernel
theorem dL_lifetimeOf_16 : decode cL_lifetimeOf 16 = .ok (.ireturn, 1) := by decide +kernel
theorem dL_clockOf_0 : decode cL_clockOf 0 = .ok (.aload_n 2, 1) := by decide +kernel
theorem dL_clockOf_1 : decode cL_clockOf 1 = .ok (.iconst 0, 1) := by decide +kernel
theorem dL_clockOf_2 : decode cL_clockOf 2 = .ok (.aload_n 0, 1) := by decide +kernel
theorem dL_clockOf_3 : decode cL_clockOf 3 = .ok (.iload_n 1, 1) := by decide +kernel
theorem dL_clockOf_4 : decode cL_clockOf 4 = .ok (.invokevirtual 30, 3) := by decide +kernel
theorem dL_clockOf_7 : decode cL_clockOf 7 = .ok (.i2l, 1) := by decide +kernel
theorem dL_clockOf_8 : decode cL_clockOf 8 = .ok (.lastore, 1) := by decide +kernel
theorem dL_clockOf_9 : decode cL_clockOf 9 = .ok (.goto 6, 3) := by decide +kernel
theorem dL_clockOf_12 : decode cL_clockOf 12 = .ok (.astore_n 3, 1) := by decide +kernel
theorem dL_clockOf_13 : decode cL_clockOf 13 = .ok (.iconst 1, 1) := by decide +kernel
theorem dL_clockOf_14 : decode cL_clockOf 14 = .ok (.ireturn, 1) := by decide +kernel
theorem dL_clockOf_15 : decode cL_clockOf 15 = .ok (.iconst 0, 1) := by decide +kernel
theorem dL_clockOf_16 : decode cL_clockOf 16 = .ok (.ireturn, 1) := by decide +kernel
theorem dL_trusts_0 : decode cL_trusts 0 = .ok (.aload_n 3, 1) := by decide +kernel
theorem dL_trusts_1 : decode cL_trusts 1 = .ok (.iconst 0, 1) := by decide +kernel
theorem dL_trusts_2 : decode cL_trusts 2 = .ok (.aload_n 0, 1) := by decide +kernel
theorem dL_trusts_3 : decode cL_trusts 3 = .ok (.iload_n 1, 1) := by decide +kernel
theorem dL_trusts_4 : decode cL_trusts 4 = .ok (.iload_n 2, 1) := by decide +kernel
theorem dL_trusts_5 : decode cL_trusts 5 = .ok (.invokevirtual 33, 3) := by decide +kernel
theorem dL_trusts_8 : decode cL_trusts 8 = .ok (.ifCond .eq 7, 3) := by decide +kernel
theorem dL_trusts_11 : decode cL_trusts 11 = .ok (.lconst 1, 1) := by decide +kernel
theorem dL_trusts_12 : decode cL_trusts 12 = .ok (.goto 4, 3) := by decide +kernel
theorem dL_trusts_15 : decode cL_trusts 15 = .ok (.lconst 0, 1) := by decide +kernel
theorem dL_trusts_16 : decode cL_trusts 16 = .ok (.lastore, 1) := by decide +kernel
theorem dL_trusts_17 : decode cL_trusts 17 = .ok (.goto 7, 3) := by decide +kernel
theorem dL_trusts_20 : decode cL_trusts 20 = .ok (.astore 4, 2) := by decide +kernel
theorem dL_trusts_22 : decode cL_trusts 22 = .ok (.iconst 1, 1) := by decide +kernel
theorem dL_trusts_23 : decode cL_trusts 23 = .ok (.ireturn, 1) := by decide +kernel
theorem dL_trusts_24 : decode cL_trusts 24 = .ok (.iconst 0, 1) := by decide +kernel
theorem dL_trusts_25 : decode cL_trusts 25 = .ok (.ireturn, 1) := by decide +kernel
theorem dL_distance_0 : decode cL_distance 0 = .ok (.aload_n 3, 1) := by decide +kernel
theorem dL_distance_1 : decode cL_distance 1 = .ok (.iconst 0, 1) := by decide +kernel
theorem dL_distance_2 : decode cL_distance 2 = .ok (.aload_n 0, 1) := by decide +kernel
theorem dL_distance_3 : decode cL_distance 3 = .ok (.iload_n 1, 1) := by decide +kernel
theorem dL_distance_4 : decode cL_distance 4 = .ok (.iload_n 2, 1) := by decide +kernel
theorem dL_distance_5 : decode cL_distance 5 = .ok (.invokevirtual 37, 3) := by decide +kernel
theorem dL_distance_8 : decode cL_distance 8 = .ok (.i2l, 1) := by decide +kernel
theorem dL_distance_9 : decode cL_distance 9 = .ok (.lastore, 1) := by decide +kernel
theorem dL_distance_10 : decode cL_distance 10 = .ok (.goto 7, 3) := by decide +kernel
theorem dL_distance_13 : decode cL_distance 13 = .ok (.astore 4, 2) := by decide +kernel
theorem dL_distance_15 : decode cL_distance 15 = .ok (.iconst 1, 1) := by decide +kernel
theorem dL_distance_16 : decode cL_distance 16 = .ok (.ireturn, 1) := by decide +kernel
theorem dL_distance_17 : decode cL_distance 17 = .ok (.iconst 0, 1) := by decide +kernel
theorem dL_distance_18 : decode cL_distance 18 = .ok (.ireturn, 1) := by decide +kernel
theorem dL_nextRealm_0 : decode cL_nextRealm 0 = .ok (.aload_n 3, 1) := by decide +kernel
theorem dL_nextRealm_1 : decode cL_nextRealm 1 = .ok (.iconst 0, 1) := by decide +kernel
theorem dL_nextRealm_2 : decode cL_nextRealm 2 = .ok (.aload_n 0, 1) := by decide +kernel
theorem dL_nextRealm_3 : decode cL_nextRealm 3 = .ok (.iload_n 1, 1) := by decide +kernel
theorem dL_nextRealm_4 : decode cL_nextRealm 4 = .ok (.iload_n 2, 1) := by decide +kernel
theorem dL_nextRealm_5 : decode cL_nextRealm 5 = .ok (.invokevirtual 41, 3) := by decide +kernel
theorem dL_nextRealm_8 : decode cL_nextRealm 8 = .ok (.i2l, 1) := by decide +kernel
theorem dL_nextRealm_9 : decode cL_nextRealm 9 = .ok (.lastore, 1) := by decide +kernel
theorem dL_nextRealm_10 : decode cL_nextRealm 10 = .ok (.goto 7, 3) := by decide +kernel
theorem dL_nextRealm_13 : decode cL_nextRealm 13 = .ok (.astore 4, 2) := by decide +kernel
theorem dL_nextRealm_15 : decode cL_nextRealm 15 = .ok (.iconst 1, 1) := by decide +kernel
theorem dL_nextRealm_16 : decode cL_nextRealm 16 = .ok (.ireturn, 1) := by decide +kernel
theorem dL_nextRealm_17 : decode cL_nextRealm 17 = .ok (.iconst 0, 1) := by decide +kernel
theorem dL_nextRealm_18 : decode cL_nextRealm 18 = .ok (.ireturn, 1) := by decide +kernel
theorem dL_homeOf_0 : decode cL_homeOf 0 = .ok (.aload_n 2, 1) := by decide +kernel
theorem dL_homeOf_1 : decode cL_homeOf 1 = .ok (.iconst 0, 1) := by decide +kernel
theorem dL_homeOf_2 : decode cL_homeOf 2 = .ok (.aload_n 0, 1) := by decide +kernel
theorem dL_homeOf_3 : decode cL_homeOf 3 = .ok (.iload_n 1, 1) := by decide +kernel
theorem dL_homeOf_4 : decode cL_homeOf 4 = .ok (.invokevirtual 44, 3) := by decide +kernel
theorem dL_homeOf_7 : decode cL_homeOf 7 = .ok (.i2l, 1) := by decide +kernel
theorem dL_homeOf_8 : decode cL_homeOf 8 = .ok (.lastore, 1) := by decide +kernel
theorem dL_homeOf_9 : decode cL_homeOf 9 = .ok (.goto 6, 3) := by decide +kernel
theorem dL_homeOf_12 : decode cL_homeOf 12 = .ok (.astore_n 3, 1) := by decide +kernel
theorem dL_homeOf_13 : decode cL_homeOf 13 = .ok (.iconst 1, 1) := by decide +kernel
theorem dL_homeOf_14 : decode cL_homeOf 14 = .ok (.ireturn, 1) := by decide +kernel
theorem dL_homeOf_15 : decode cL_homeOf 15 = .ok (.iconst 0, 1) := by decide +kernel
theorem dL_homeOf_16 : decode cL_homeOf 16 = .ok (.ireturn, 1) := by decide +kernel
theorem dL_cheesesOf_0 : decode cL_cheesesOf 0 = .ok (.aload_n 2, 1) := by decide +kernel
theorem dL_cheesesOf_1 : decode cL_cheesesOf 1 = .ok (.iconst 0, 1) := by decide +kernel
theorem dL_cheesesOf_2 : decode cL_cheesesOf 2 = .ok (.aload_n 0, 1) := by decide +kernel
theorem dL_cheesesOf_3 : decode cL_cheesesOf 3 = .ok (.iload_n 1, 1) := by decide +kernel
theorem dL_cheesesOf_4 : decode cL_cheesesOf 4 = .ok (.invokevirtual 47, 3) := by decide +kernel
theorem dL_cheesesOf_7 : decode cL_cheesesOf 7 = .ok (.i2l, 1) := by decide +kernel
theorem dL_cheesesOf_8 : decode cL_cheesesOf 8 = .ok (.lastore, 1) := by decide +kernel
theorem dL_cheesesOf_9 : decode cL_cheesesOf 9 = .ok (.goto 6, 3) := by decide +kernel
theorem dL_cheesesOf_12 : decode cL_cheesesOf 12 = .ok (.astore_n 3, 1) := by decide +kernel
theorem dL_cheesesOf_13 : decode cL_cheesesOf 13 = .ok (.iconst 1, 1) := by decide +kernel
theorem dL_cheesesOf_14 : decode cL_cheesesOf 14 = .ok (.ireturn, 1) := by decide +kernel
theorem dL_cheesesOf_15 : decode cL_cheesesOf 15 = .ok (.iconst 0, 1) := by decide +kernel
theorem dL_cheesesOf_16 : decode cL_cheesesOf 16 = .ok (.ireturn, 1) := by decide +kernel
theorem dL_skew_0 : decode cL_skew 0 = .ok (.aload_n 3, 1) := by decide +kernel
theorem dL_skew_1 : decode cL_skew 1 = .ok (.iconst 0, 1) := by decide +kernel
theorem dL_skew_2 : decode cL_skew 2 = .ok (.aload_n 0, 1) := by decide +kernel
theorem dL_skew_3 : decode cL_skew 3 = .ok (.iload_n 1, 1) := by decide +kernel
theorem dL_skew_4 : decode cL_skew 4 = .ok (.iload_n 2, 1) := by decide +kernel
theorem dL_skew_5 : decode cL_skew 5 = .ok (.invokevirtual 50, 3) := by decide +kernel
theorem dL_skew_8 : decode cL_skew 8 = .ok (.i2l, 1) := by decide +kernel
theorem dL_skew_9 : decode cL_skew 9 = .ok (.lastore, 1) := by decide +kernel
theorem dL_skew_10 : decode cL_skew 10 = .ok (.goto 7, 3) := by decide +kernel
theorem dL_skew_13 : decode cL_skew 13 = .ok (.astore 4, 2) := by decide +kernel
theorem dL_skew_15 : decode cL_skew 15 = .ok (.iconst 1, 1) := by decide +kernel
theorem dL_skew_16 : decode cL_skew 16 = .ok (.ireturn, 1) := by decide +kernel
theorem dL_skew_17 : decode cL_skew 17 = .ok (.iconst 0, 1) := by decide +kernel
theorem dL_skew_18 : decode cL_skew 18 = .ok (.ireturn, 1) := by decide +kernel
theorem dL_realmOfService_0 : decode cL_realmOfService 0 = .ok (.aload_n 2, 1) := by decide +kernel
theorem dL_realmOfService_1 : decode cL_realmOfService 1 = .ok (.iconst 0, 1) := by decide +kernel
theorem dL_realmOfService_2 : decode cL_realmOfService 2 = .ok (.aload_n 0, 1) := by decide +kernel
theorem dL_realmOfService_3 : decode cL_realmOfService 3 = .ok (.iload_n 1, 1) := by decide +kernel
theorem dL_realmOfService_4 : decode cL_realmOfService 4 = .ok (.invokevirtual 53, 3) := by decide +kernel
theorem dL_realmOfService_7 : decode cL_realmOfService 7 = .ok (.i2l, 1) := by decide +kernel
theorem dL_realmOfService_8 : decode cL_realmOfService 8 = .ok (.lastore, 1) := by decide +kernel
theorem dL_realmOfService_9 : decode cL_realmOfService 9 = .ok (.goto 6, 3) := by decide +kernel
theorem dL_realmOfService_12 : decode cL_realmOfService 12 = .ok (.astore_n 3, 1) := by decide +kernel
theorem dL_realmOfService_13 : decode cL_realmOfService 13 = .ok (.iconst 1, 1) := by decide +kernel
theorem dL_realmOfService_14 : decode cL_realmOfService 14 = .ok (.ireturn, 1) := by decide +kernel
theorem dL_realmOfService_15 : decode cL_realmOfService 15 = .ok (.iconst 0, 1) := by decide +kernel
theorem dL_realmOfService_16 : decode cL_realmOfService 16 = .ok (.ireturn, 1) := by decide +kernel
theorem dL_cheesesLeft_0 : decode cL_cheesesLeft 0 = .ok (.aload_n 2, 1) := by decide +kernel
theorem dL_cheesesLeft_1 : decode cL_cheesesLeft 1 = .ok (.iconst 0, 1) := by decide +kernel
theorem dL_cheesesLeft_2 : decode cL_cheesesLeft 2 = .ok (.aload_n 0, 1) := by decide +kernel
theorem dL_cheesesLeft_3 : decode cL_cheesesLeft 3 = .ok (.iload_n 1, 1) := by decide +kernel
theorem dL_cheesesLeft_4 : decode cL_cheesesLeft 4 = .ok (.invokevirtual 56, 3) := by decide +kernel
theorem dL_cheesesLeft_7 : decode cL_cheesesLeft 7 = .ok (.i2l, 1) := by decide +kernel
theorem dL_cheesesLeft_8 : decode cL_cheesesLeft 8 = .ok (.lastore, 1) := by decide +kernel
theorem dL_cheesesLeft_9 : decode cL_cheesesLeft 9 = .ok (.goto 6, 3) := by decide +kernel
theorem dL_cheesesLeft_12 : decode cL_cheesesLeft 12 = .ok (.astore_n 3, 1) := by decide +kernel
theorem dL_cheesesLeft_13 : decode cL_cheesesLeft 13 = .ok (.iconst 1, 1) := by decide +kernel
theorem dL_cheesesLeft_14 : decode cL_cheesesLeft 14 = .ok (.ireturn, 1) := by decide +kernel
theorem dL_cheesesLeft_15 : decode cL_cheesesLeft 15 = .ok (.iconst 0, 1) := by decide +kernel
theorem dL_cheesesLeft_16 : decode cL_cheesesLeft 16 = .ok (.ireturn, 1) := by decide +kernel
theorem dL_ticketAt_0 : decode cL_ticketAt 0 = .ok (.aload_n 2, 1) := by decide +kernel
theorem dL_ticketAt_1 : decode cL_ticketAt 1 = .ok (.iconst 0, 1) := by decide +kernel
theorem dL_ticketAt_2 : decode cL_ticketAt 2 = .ok (.aload_n 0, 1) := by decide +kernel
theorem dL_ticketAt_3 : decode cL_ticketAt 3 = .ok (.iload_n 1, 1) := by decide +kernel
theorem dL_ticketAt_4 : decode cL_ticketAt 4 = .ok (.invokevirtual 59, 3) := by decide +kernel
theorem dL_ticketAt_7 : decode cL_ticketAt 7 = .ok (.i2l, 1) := by decide +kernel
theorem dL_ticketAt_8 : decode cL_ticketAt 8 = .ok (.lastore, 1) := by decide +kernel
theorem dL_ticketAt_9 : decode cL_ticketAt 9 = .ok (.goto 6, 3) := by decide +kernel
theorem dL_ticketAt_12 : decode cL_ticketAt 12 = .ok (.astore_n 3, 1) := by decide +kernel
theorem dL_ticketAt_13 : decode cL_ticketAt 13 = .ok (.iconst 1, 1) := by decide +kernel
theorem dL_ticketAt_14 : decode cL_ticketAt 14 = .ok (.ireturn, 1) := by decide +kernel
theorem dL_ticketAt_15 : decode cL_ticketAt 15 = .ok (.iconst 0, 1) := by decide +kernel
theorem dL_ticketAt_16 : decode cL_ticketAt 16 = .ok (.ireturn, 1) := by decide +kernel
theorem dL_kindOf_0 : decode cL_kindOf 0 = .ok (.aload_n 2, 1) := by decide +kernel
theorem dL_kindOf_1 : decode cL_kindOf 1 = .ok (.iconst 0, 1) := by decide +kernel
theorem dL_kindOf_2 : decode cL_kindOf 2 = .ok (.aload_n 0, 1) := by decide +kernel
theorem dL_kindOf_3 : decode cL_kindOf 3 = .ok (.iload_n 1, 1) := by decide +kernel
theorem dL_kindOf_4 : decode cL_kindOf 4 = .ok (.invokevirtual 62, 3) := by decide +kernel
theorem dL_kindOf_7 : decode cL_kindOf 7 = .ok (.i2l, 1) := by decide +kernel
theorem dL_kindOf_8 : decode cL_kindOf 8 = .ok (.lastore, 1) := by decide +kernel
theorem dL_kindOf_9 : decode cL_kindOf 9 = .ok (.goto 6, 3) := by decide +kernel
theorem dL_kindOf_12 : decode cL_kindOf 12 = .ok (.astore_n 3, 1) := by decide +kernel
theorem dL_kindOf_13 : decode cL_kindOf 13 = .ok (.iconst 1, 1) := by decide +kernel
theorem dL_kindOf_14 : decode cL_kindOf 14 = .ok (.ireturn, 1) := by decide +kernel
theorem dL_kindOf_15 : decode cL_kindOf 15 = .ok (.iconst 0, 1) := by decide +kernel
theorem dL_kindOf_16 : decode cL_kindOf 16 = .ok (.ireturn, 1) := by decide +kernel
theorem dL_ownerOf_0 : decode cL_ownerOf 0 = .ok (.aload_n 2, 1) := by decide +kernel
theorem dL_ownerOf_1 : decode cL_ownerOf 1 = .ok (.iconst 0, 1) := by decide +kernel
theorem dL_ownerOf_2 : decode cL_ownerOf 2 = .ok (.aload_n 0, 1) := by decide +kernel
theorem dL_ownerOf_3 : decode cL_ownerOf 3 = .ok (.iload_n 1, 1) := by decide +kernel
theorem dL_ownerOf_4 : decode cL_ownerOf 4 = .ok (.invokevirtual 67, 3) := by decide +kernel
theorem dL_ownerOf_7 : decode cL_ownerOf 7 = .ok (.i2l, 1) := by decide +kernel
theorem dL_ownerOf_8 : decode cL_ownerOf 8 = .ok (.lastore, 1) := by decide +kernel
theorem dL_ownerOf_9 : decode cL_ownerOf 9 = .ok (.goto 6, 3) := by decide +kernel
theorem dL_ownerOf_12 : decode cL_ownerOf 12 = .ok (.astore_n 3, 1) := by decide +kernel
theorem dL_ownerOf_13 : decode cL_ownerOf 13 = .ok (.iconst 1, 1) := by decide +kernel
theorem dL_ownerOf_14 : decode cL_ownerOf 14 = .ok (.ireturn, 1) := by decide +kernel
theorem dL_ownerOf_15 : decode cL_ownerOf 15 = .ok (.iconst 0, 1) := by decide +kernel
theorem dL_ownerOf_16 : decode cL_ownerOf 16 = .ok (.ireturn, 1) := by decide +kernel
theorem dL_realmOf_0 : decode cL_realmOf 0 = .ok (.aload_n 2, 1) := by decide +kernel
theorem dL_realmOf_1 : decode cL_realmOf 1 = .ok (.iconst 0, 1) := by decide +kernel
theorem dL_realmOf_2 : decode cL_realmOf 2 = .ok (.aload_n 0, 1) := by decide +kernel
theorem dL_realmOf_3 : decode cL_realmOf 3 = .ok (.iload_n 1, 1) := by decide +kernel
theorem dL_realmOf_4 : decode cL_realmOf 4 = .ok (.invokevirtual 70, 3) := by decide +kernel
theorem dL_realmOf_7 : decode cL_realmOf 7 = .ok (.i2l, 1) := by decide +kernel
theorem dL_realmOf_8 : decode cL_realmOf 8 = .ok (.lastore, 1) := by decide +kernel
theorem dL_realmOf_9 : decode cL_realmOf 9 = .ok (.goto 6, 3) := by decide +kernel
theorem dL_realmOf_12 : decode cL_realmOf 12 = .ok (.astore_n 3, 1) := by decide +kernel
theorem dL_realmOf_13 : decode cL_realmOf 13 = .ok (.iconst 1, 1) := by decide +kernel
theorem dL_realmOf_14 : decode cL_realmOf 14 = .ok (.ireturn, 1) := by decide +kernel
theorem dL_realmOf_15 : decode cL_realmOf 15 = .ok (.iconst 0, 1) := by decide +kernel
theorem dL_realmOf_16 : decode cL_realmOf 16 = .ok (.ireturn, 1) := by decide +kernel
theorem dL_serviceOf_0 : decode cL_serviceOf 0 = .ok (.aload_n 2, 1) := by decide +kernel
theorem dL_serviceOf_1 : decode cL_serviceOf 1 = .ok (.iconst 0, 1) := by decide +kernel
theorem dL_serviceOf_2 : decode cL_serviceOf 2 = .ok (.aload_n 0, 1) := by decide +kernel
theorem dL_serviceOf_3 : decode cL_serviceOf 3 = .ok (.iload_n 1, 1) := by decide +kernel
theorem dL_serviceOf_4 : decode cL_serviceOf 4 = .ok (.invokevirtual 73, 3) := by decide +kernel
theorem dL_serviceOf_7 : decode cL_serviceOf 7 = .ok (.i2l, 1) := by decide +kernel
theorem dL_serviceOf_8 : decode cL_serviceOf 8 = .ok (.lastore, 1) := by decide +kernel
theorem dL_serviceOf_9 : decode cL_serviceOf 9 = .ok (.goto 6, 3) := by decide +kernel
theorem dL_serviceOf_12 : decode cL_serviceOf 12 = .ok (.astore_n 3, 1) := by decide +kernel
theorem dL_serviceOf_13 : decode cL_serviceOf 13 = .ok (.iconst 1, 1) := by decide +kernel
theorem dL_serviceOf_14 : decode cL_serviceOf 14 = .ok (.ireturn, 1) := by decide +kernel
theorem dL_serviceOf_15 : decode cL_serviceOf 15 = .ok (.iconst 0, 1) := by decide +kernel
theorem dL_serviceOf_16 : decode cL_serviceOf 16 = .ok (.ireturn, 1) := by decide +kernel
theorem dL_startOf_0 : decode cL_startOf 0 = .ok (.aload_n 2, 1) := by decide +kernel
theorem dL_startOf_1 : decode cL_startOf 1 = .ok (.iconst 0, 1) := by decide +kernel
theorem dL_startOf_2 : decode cL_startOf 2 = .ok (.aload_n 0, 1) := by decide +kernel
theorem dL_startOf_3 : decode cL_startOf 3 = .ok (.iload_n 1, 1) := by decide +kernel
theorem dL_startOf_4 : decode cL_startOf 4 = .ok (.invokevirtual 76, 3) := by decide +kernel
theorem dL_startOf_7 : decode cL_startOf 7 = .ok (.i2l, 1) := by decide +kernel
theorem dL_startOf_8 : decode cL_startOf 8 = .ok (.lastore, 1) := by decide +kernel
theorem dL_startOf_9 : decode cL_startOf 9 = .ok (.goto 6, 3) := by decide +kernel
theorem dL_startOf_12 : decode cL_startOf 12 = .ok (.astore_n 3, 1) := by decide +kernel
theorem dL_startOf_13 : decode cL_startOf 13 = .ok (.iconst 1, 1) := by decide +kernel
theorem dL_startOf_14 : decode cL_startOf 14 = .ok (.ireturn, 1) := by decide +kernel
theorem dL_startOf_15 : decode cL_startOf 15 = .ok (.iconst 0, 1) := by decide +kernel
theorem dL_startOf_16 : decode cL_startOf 16 = .ok (.ireturn, 1) := by decide +kernel
theorem dL_endOf_0 : decode cL_endOf 0 = .ok (.aload_n 2, 1) := by decide +kernel
theorem dL_endOf_1 : decode cL_endOf 1 = .ok (.iconst 0, 1) := by decide +kernel
theorem dL_endOf_2 : decode cL_endOf 2 = .ok (.aload_n 0, 1) := by decide +kernel
theorem dL_endOf_3 : decode cL_endOf 3 = .ok (.iload_n 1, 1) := by decide +kernel
theorem dL_endOf_4 : decode cL_endOf 4 = .ok (.invokevirtual 79, 3) := by decide +kernel
theorem dL_endOf_7 : decode cL_endOf 7 = .ok (.i2l, 1) := by decide +kernel
theorem dL_endOf_8 : decode cL_endOf 8 = .ok (.lastore, 1) := by decide +kernel
theorem dL_endOf_9 : decode cL_endOf 9 = .ok (.goto 6, 3) := by decide +kernel
theorem dL_endOf_12 : decode cL_endOf 12 = .ok (.astore_n 3, 1) := by decide +kernel
theorem dL_endOf_13 : decode cL_endOf 13 = .ok (.iconst 1, 1) := by decide +kernel
theorem dL_endOf_14 : decode cL_endOf 14 = .ok (.ireturn, 1) := by decide +kernel
theorem dL_endOf_15 : decode cL_endOf 15 = .ok (.iconst 0, 1) := by decide +kernel
theorem dL_endOf_16 : decode cL_endOf 16 = .ok (.ireturn, 1) := by decide +kernel
theorem dL_lastEndOf_0 : decode cL_lastEndOf 0 = .ok (.aload_n 2, 1) := by decide +kernel
theorem dL_lastEndOf_1 : decode cL_lastEndOf 1 = .ok (.iconst 0, 1) := by decide +kernel
theorem dL_lastEndOf_2 : decode cL_lastEndOf 2 = .ok (.aload_n 0, 1) := by decide +kernel
theorem dL_lastEndOf_3 : decode cL_lastEndOf 3 = .ok (.iload_n 1, 1) := by decide +kernel
theorem dL_lastEndOf_4 : decode cL_lastEndOf 4 = .ok (.invokevirtual 82, 3) := by decide +kernel
theorem dL_lastEndOf_7 : decode cL_lastEndOf 7 = .ok (.i2l, 1) := by decide +kernel
theorem dL_lastEndOf_8 : decode cL_lastEndOf 8 = .ok (.lastore, 1) := by decide +kernel
theorem dL_lastEndOf_9 : decode cL_lastEndOf 9 = .ok (.goto 6, 3) := by decide +kernel
theorem dL_lastEndOf_12 : decode cL_lastEndOf 12 = .ok (.astore_n 3, 1) := by decide +kernel
theorem dL_lastEndOf_13 : decode cL_lastEndOf 13 = .ok (.iconst 1, 1) := by decide +kernel
theorem dL_lastEndOf_14 : decode cL_lastEndOf 14 = .ok (.ireturn, 1) := by decide +kernel
theorem dL_lastEndOf_15 : decode cL_lastEndOf 15 = .ok (.iconst 0, 1) := by decide +kernel
theorem dL_lastEndOf_16 : decode cL_lastEndOf 16 = .ok (.ireturn, 1) := by decide +kernel
theorem dL_keyOf_0 : decode cL_keyOf 0 = .ok (.aload_n 2, 1) := by decide +kernel
theorem dL_keyOf_1 : decode cL_keyOf 1 = .ok (.iconst 0, 1) := by decide +kernel
theorem dL_keyOf_2 : decode cL_keyOf 2 = .ok (.aload_n 0, 1) := by decide +kernel
theorem dL_keyOf_3 : decode cL_keyOf 3 = .ok (.iload_n 1, 1) := by decide +kernel
theorem dL_keyOf_4 : decode cL_keyOf 4 = .ok (.invokevirtual 85, 3) := by decide +kernel
theorem dL_keyOf_7 : decode cL_keyOf 7 = .ok (.i2l, 1) := by decide +kernel
theorem dL_keyOf_8 : decode cL_keyOf 8 = .ok (.lastore, 1) := by decide +kernel
theorem dL_keyOf_9 : decode cL_keyOf 9 = .ok (.goto 6, 3) := by decide +kernel
theorem dL_keyOf_12 : decode cL_keyOf 12 = .ok (.astore_n 3, 1) := by decide +kernel
theorem dL_keyOf_13 : decode cL_keyOf 13 = .ok (.iconst 1, 1) := by decide +kernel
theorem dL_keyOf_14 : decode cL_keyOf 14 = .ok (.ireturn, 1) := by decide +kernel
theorem dL_keyOf_15 : decode cL_keyOf 15 = .ok (.iconst 0, 1) := by decide +kernel
theorem dL_keyOf_16 : decode cL_keyOf 16 = .ok (.ireturn, 1) := by decide +kernel
theorem dL_isRenewable_0 : decode cL_isRenewable 0 = .ok (.aload_n 2, 1) := by decide +kernel
theorem dL_isRenewable_1 : decode cL_isRenewable 1 = .ok (.iconst 0, 1) := by decide +kernel
theorem dL_isRenewable_2 : decode cL_isRenewable 2 = .ok (.aload_n 0, 1) := by decide +kernel
theorem dL_isRenewable_3 : decode cL_isRenewable 3 = .ok (.iload_n 1, 1) := by decide +kernel
theorem dL_isRenewable_4 : decode cL_isRenewable 4 = .ok (.invokevirtual 88, 3) := by decide +kernel
theorem dL_isRenewable_7 : decode cL_isRenewable 7 = .ok (.ifCond .eq 7, 3) := by decide +kernel
theorem dL_isRenewable_10 : decode cL_isRenewable 10 = .ok (.lconst 1, 1) := by decide +kernel
theorem dL_isRenewable_11 : decode cL_isRenewable 11 = .ok (.goto 4, 3) := by decide +kernel
theorem dL_isRenewable_14 : decode cL_isRenewable 14 = .ok (.lconst 0, 1) := by decide +kernel
theorem dL_isRenewable_15 : decode cL_isRenewable 15 = .ok (.lastore, 1) := by decide +kernel
theorem dL_isRenewable_16 : decode cL_isRenewable 16 = .ok (.goto 6, 3) := by decide +kernel
theorem dL_isRenewable_19 : decode cL_isRenewable 19 = .ok (.astore_n 3, 1) := by decide +kernel
theorem dL_isRenewable_20 : decode cL_isRenewable 20 = .ok (.iconst 1, 1) := by decide +kernel
theorem dL_isRenewable_21 : decode cL_isRenewable 21 = .ok (.ireturn, 1) := by decide +kernel
theorem dL_isRenewable_22 : decode cL_isRenewable 22 = .ok (.iconst 0, 1) := by decide +kernel
theorem dL_isRenewable_23 : decode cL_isRenewable 23 = .ok (.ireturn, 1) := by decide +kernel
theorem dL_isValid_0 : decode cL_isValid 0 = .ok (.aload_n 2, 1) := by decide +kernel
theorem dL_isValid_1 : decode cL_isValid 1 = .ok (.iconst 0, 1) := by decide +kernel
theorem dL_isValid_2 : decode cL_isValid 2 = .ok (.aload_n 0, 1) := by decide +kernel
theorem dL_isValid_3 : decode cL_isValid 3 = .ok (.iload_n 1, 1) := by decide +kernel
theorem dL_isValid_4 : decode cL_isValid 4 = .ok (.invokevirtual 92, 3) := by decide +kernel
theorem dL_isValid_7 : decode cL_isValid 7 = .ok (.ifCond .eq 7, 3) := by decide +kernel
theorem dL_isValid_10 : decode cL_isValid 10 = .ok (.lconst 1, 1) := by decide +kernel
theorem dL_isValid_11 : decode cL_isValid 11 = .ok (.goto 4, 3) := by decide +kernel
theorem dL_isValid_14 : decode cL_isValid 14 = .ok (.lconst 0, 1) := by decide +kernel
theorem dL_isValid_15 : decode cL_isValid 15 = .ok (.lastore, 1) := by decide +kernel
theorem dL_isValid_16 : decode cL_isValid 16 = .ok (.goto 6, 3) := by decide +kernel
theorem dL_isValid_19 : decode cL_isValid 19 = .ok (.astore_n 3, 1) := by decide +kernel
theorem dL_isValid_20 : decode cL_isValid 20 = .ok (.iconst 1, 1) := by decide +kernel
theorem dL_isValid_21 : decode cL_isValid 21 = .ok (.ireturn, 1) := by decide +kernel
theorem dL_isValid_22 : decode cL_isValid 22 = .ok (.iconst 0, 1) := by decide +kernel
theorem dL_isValid_23 : decode cL_isValid 23 = .ok (.ireturn, 1) := by decide +kernel
theorem dL_minutesLeft_0 : decode cL_minutesLeft 0 = .ok (.aload_n 2, 1) := by decide +kernel
theorem dL_minutesLeft_1 : decode cL_minutesLeft 1 = .ok (.iconst 0, 1) := by decide +kernel
theorem dL_minutesLeft_2 : decode cL_minutesLeft 2 = .ok (.aload_n 0, 1) := by decide +kernel
theorem dL_minutesLeft_3 : decode cL_minutesLeft 3 = .ok (.iload_n 1, 1) := by decide +kernel
theorem dL_minutesLeft_4 : decode cL_minutesLeft 4 = .ok (.invokevirtual 95, 3) := by decide +kernel
theorem dL_minutesLeft_7 : decode cL_minutesLeft 7 = .ok (.i2l, 1) := by decide +kernel
theorem dL_minutesLeft_8 : decode cL_minutesLeft 8 = .ok (.lastore, 1) := by decide +kernel
theorem dL_minutesLeft_9 : decode cL_minutesLeft 9 = .ok (.goto 6, 3) := by decide +kernel
theorem dL_minutesLeft_12 : decode cL_minutesLeft 12 = .ok (.astore_n 3, 1) := by decide +kernel
theorem dL_minutesLeft_13 : decode cL_minutesLeft 13 = .ok (.iconst 1, 1) := by decide +kernel
theorem dL_minutesLeft_14 : decode cL_minutesLeft 14 = .ok (.ireturn, 1) := by decide +kernel
theorem dL_minutesLeft_15 : decode cL_minutesLeft 15 = .ok (.iconst 0, 1) := by decide +kernel
theorem dL_minutesLeft_16 : decode cL_minutesLeft 16 = .ok (.ireturn, 1) := by decide +kernel
theorem dL_loginRefusal_0 : decode cL_loginRefusal 0 = .ok (.aload_n 3, 1) := by decide +kernel
theorem dL_loginRefusal_1 : decode cL_loginRefusal 1 = .ok (.iconst 0, 1) := by decide +kernel
theorem dL_loginRefusal_2 : decode cL_loginRefusal 2 = .ok (.aload_n 0, 1) := by decide +kernel
theorem dL_loginRefusal_3 : decode cL_loginRefusal 3 = .ok (.iload_n 1, 1) := by decide +kernel
theorem dL_loginRefusal_4 : decode cL_loginRefusal 4 = .ok (.iload_n 2, 1) := by decide +kernel
theorem dL_loginRefusal_5 : decode cL_loginRefusal 5 = .ok (.invokevirtual 98, 3) := by decide +kernel
theorem dL_loginRefusal_8 : decode cL_loginRefusal 8 = .ok (.i2l, 1) := by decide +kernel
theorem dL_loginRefusal_9 : decode cL_loginRefusal 9 = .ok (.lastore, 1) := by decide +kernel
theorem dL_loginRefusal_10 : decode cL_loginRefusal 10 = .ok (.goto 11, 3) := by decide +kernel
theorem dL_loginRefusal_13 : decode cL_loginRefusal 13 = .ok (.astore 4, 2) := by decide +kernel
theorem dL_loginRefusal_15 : decode cL_loginRefusal 15 = .ok (.iconst 1, 1) := by decide +kernel
theorem dL_loginRefusal_16 : decode cL_loginRefusal 16 = .ok (.ireturn, 1) := by decide +kernel
theorem dL_loginRefusal_17 : decode cL_loginRefusal 17 = .ok (.astore 4, 2) := by decide +kernel
theorem dL_loginRefusal_19 : decode cL_loginRefusal 19 = .ok (.iconst 2, 1) := by decide +kernel
theorem dL_loginRefusal_20 : decode cL_loginRefusal 20 = .ok (.ireturn, 1) := by decide +kernel
theorem dL_loginRefusal_21 : decode cL_loginRefusal 21 = .ok (.iconst 0, 1) := by decide +kernel
theorem dL_loginRefusal_22 : decode cL_loginRefusal 22 = .ok (.ireturn, 1) := by decide +kernel
theorem dL_referRefusal_0 : decode cL_referRefusal 0 = .ok (.aload_n 3, 1) := by decide +kernel
theorem dL_referRefusal_1 : decode cL_referRefusal 1 = .ok (.iconst 0, 1) := by decide +kernel
theorem dL_referRefusal_2 : decode cL_referRefusal 2 = .ok (.aload_n 0, 1) := by decide +kernel
theorem dL_referRefusal_3 : decode cL_referRefusal 3 = .ok (.iload_n 1, 1) := by decide +kernel
theorem dL_referRefusal_4 : decode cL_referRefusal 4 = .ok (.iload_n 2, 1) := by decide +kernel
theorem dL_referRefusal_5 : decode cL_referRefusal 5 = .ok (.invokevirtual 101, 3) := by decide +kernel
theorem dL_referRefusal_8 : decode cL_referRefusal 8 = .ok (.i2l, 1) := by decide +kernel
theorem dL_referRefusal_9 : decode cL_referRefusal 9 = .ok (.lastore, 1) := by decide +kernel
theorem dL_referRefusal_10 : decode cL_referRefusal 10 = .ok (.goto 11, 3) := by decide +kernel
theorem dL_referRefusal_13 : decode cL_referRefusal 13 = .ok (.astore 4, 2) := by decide +kernel
theorem dL_referRefusal_15 : decode cL_referRefusal 15 = .ok (.iconst 1, 1) := by decide +kernel
theorem dL_referRefusal_16 : decode cL_referRefusal 16 = .ok (.ireturn, 1) := by decide +kernel
theorem dL_referRefusal_17 : decode cL_referRefusal 17 = .ok (.astore 4, 2) := by decide +kernel
theorem dL_referRefusal_19 : decode cL_referRefusal 19 = .ok (.iconst 2, 1) := by decide +kernel
theorem dL_referRefusal_20 : decode cL_referRefusal 20 = .ok (.ireturn, 1) := by decide +kernel
theorem dL_referRefusal_21 : decode cL_referRefusal 21 = .ok (.iconst 0, 1) := by decide +kernel
theorem dL_referRefusal_22 : decode cL_referRefusal 22 = .ok (.ireturn, 1) := by decide +kernel
theorem dL_requestRefusal_0 : decode cL_requestRefusal 0 = .ok (.aload_n 3, 1) := by decide +kernel
theorem dL_requestRefusal_1 : decode cL_requestRefusal 1 = .ok (.iconst 0, 1) := by decide +kernel
theorem dL_requestRefusal_2 : decode cL_requestRefusal 2 = .ok (.aload_n 0, 1) := by decide +kernel
theorem dL_requestRefusal_3 : decode cL_requestRefusal 3 = .ok (.iload_n 1, 1) := by decide +kernel
theorem dL_requestRefusal_4 : decode cL_requestRefusal 4 = .ok (.iload_n 2, 1) := by decide +kernel
theorem dL_requestRefusal_5 : decode cL_requestRefusal 5 = .ok (.invokevirtual 104, 3) := by decide +kernel
theorem dL_requestRefusal_8 : decode cL_requestRefusal 8 = .ok (.i2l, 1) := by decide +kernel
theorem dL_requestRefusal_9 : decode cL_requestRefusal 9 = .ok (.lastore, 1) := by decide +kernel
theorem dL_requestRefusal_10 : decode cL_requestRefusal 10 = .ok (.goto 11, 3) := by decide +kernel
theorem dL_requestRefusal_13 : decode cL_requestRefusal 13 = .ok (.astore 4, 2) := by decide +kernel
theorem dL_requestRefusal_15 : decode cL_requestRefusal 15 = .ok (.iconst 1, 1) := by decide +kernel
theorem dL_requestRefusal_16 : decode cL_requestRefusal 16 = .ok (.ireturn, 1) := by decide +kernel
theorem dL_requestRefusal_17 : decode cL_requestRefusal 17 = .ok (.astore 4, 2) := by decide +kernel
theorem dL_requestRefusal_19 : decode cL_requestRefusal 19 = .ok (.iconst 2, 1) := by decide +kernel
theorem dL_requestRefusal_20 : decode cL_requestRefusal 20 = .ok (.ireturn, 1) := by decide +kernel
theorem dL_requestRefusal_21 : decode cL_requestRefusal 21 = .ok (.iconst 0, 1) := by decide +kernel
theorem dL_requestRefusal_22 : decode cL_requestRefusal 22 = .ok (.ireturn, 1) := by decide +kernel
theorem dL_renewRefusal_0 : decode cL_renewRefusal 0 = .ok (.aload_n 2, 1) := by decide +kernel
theorem dL_renewRefusal_1 : decode cL_renewRefusal 1 = .ok (.iconst 0, 1) := by decide +kernel
theorem dL_renewRefusal_2 : decode cL_renewRefusal 2 = .ok (.aload_n 0, 1) := by decide +kernel
theorem dL_renewRefusal_3 : decode cL_renewRefusal 3 = .ok (.iload_n 1, 1) := by decide +kernel
theorem dL_renewRefusal_4 : decode cL_renewRefusal 4 = .ok (.invokevirtual 107, 3) := by decide +kernel
theorem dL_renewRefusal_7 : decode cL_renewRefusal 7 = .ok (.i2l, 1) := by decide +kernel
theorem dL_renewRefusal_8 : decode cL_renewRefusal 8 = .ok (.lastore, 1) := by decide +kernel
theorem dL_renewRefusal_9 : decode cL_renewRefusal 9 = .ok (.goto 6, 3) := by decide +kernel
theorem dL_renewRefusal_12 : decode cL_renewRefusal 12 = .ok (.astore_n 3, 1) := by decide +kernel
theorem dL_renewRefusal_13 : decode cL_renewRefusal 13 = .ok (.iconst 1, 1) := by decide +kernel
theorem dL_renewRefusal_14 : decode cL_renewRefusal 14 = .ok (.ireturn, 1) := by decide +kernel
theorem dL_renewRefusal_15 : decode cL_renewRefusal 15 = .ok (.iconst 0, 1) := by decide +kernel
theorem dL_renewRefusal_16 : decode cL_renewRefusal 16 = .ok (.ireturn, 1) := by decide +kernel
theorem dL_cheeseRefusal_0 : decode cL_cheeseRefusal 0 = .ok (.aload_n 2, 1) := by decide +kernel
theorem dL_cheeseRefusal_1 : decode cL_cheeseRefusal 1 = .ok (.iconst 0, 1) := by decide +kernel
theorem dL_cheeseRefusal_2 : decode cL_cheeseRefusal 2 = .ok (.aload_n 0, 1) := by decide +kernel
theorem dL_cheeseRefusal_3 : decode cL_cheeseRefusal 3 = .ok (.iload_n 1, 1) := by decide +kernel
theorem dL_cheeseRefusal_4 : decode cL_cheeseRefusal 4 = .ok (.invokevirtual 110, 3) := by decide +kernel
theorem dL_cheeseRefusal_7 : decode cL_cheeseRefusal 7 = .ok (.i2l, 1) := by decide +kernel
theorem dL_cheeseRefusal_8 : decode cL_cheeseRefusal 8 = .ok (.lastore, 1) := by decide +kernel
theorem dL_cheeseRefusal_9 : decode cL_cheeseRefusal 9 = .ok (.goto 6, 3) := by decide +kernel
theorem dL_cheeseRefusal_12 : decode cL_cheeseRefusal 12 = .ok (.astore_n 3, 1) := by decide +kernel
theorem dL_cheeseRefusal_13 : decode cL_cheeseRefusal 13 = .ok (.iconst 1, 1) := by decide +kernel
theorem dL_cheeseRefusal_14 : decode cL_cheeseRefusal 14 = .ok (.ireturn, 1) := by decide +kernel
theorem dL_cheeseRefusal_15 : decode cL_cheeseRefusal 15 = .ok (.iconst 0, 1) := by decide +kernel
theorem dL_cheeseRefusal_16 : decode cL_cheeseRefusal 16 = .ok (.ireturn, 1) := by decide +kernel
theorem dL_validAfter_0 : decode cL_validAfter 0 = .ok (.aload_n 2, 1) := by decide +kernel
theorem dL_validAfter_1 : decode cL_validAfter 1 = .ok (.iconst 0, 1) := by decide +kernel
theorem dL_validAfter_2 : decode cL_validAfter 2 = .ok (.aload_n 0, 1) := by decide +kernel
theorem dL_validAfter_3 : decode cL_validAfter 3 = .ok (.iload_n 1, 1) := by decide +kernel
theorem dL_validAfter_4 : decode cL_validAfter 4 = .ok (.invokevirtual 113, 3) := by decide +kernel
theorem dL_validAfter_7 : decode cL_validAfter 7 = .ok (.i2l, 1) := by decide +kernel
theorem dL_validAfter_8 : decode cL_validAfter 8 = .ok (.lastore, 1) := by decide +kernel
theorem dL_validAfter_9 : decode cL_validAfter 9 = .ok (.goto 6, 3) := by decide +kernel
theorem dL_validAfter_12 : decode cL_validAfter 12 = .ok (.astore_n 3, 1) := by decide +kernel
theorem dL_validAfter_13 : decode cL_validAfter 13 = .ok (.iconst 1, 1) := by decide +kernel
theorem dL_validAfter_14 : decode cL_validAfter 14 = .ok (.ireturn, 1) := by decide +kernel
theorem dL_validAfter_15 : decode cL_validAfter 15 = .ok (.iconst 0, 1) := by decide +kernel
theorem dL_validAfter_16 : decode cL_validAfter 16 = .ok (.ireturn, 1) := by decide +kernel
theorem dL_minutesUntilCheese_0 : decode cL_minutesUntilCheese 0 = .ok (.aload_n 2, 1) := by decide +kernel
theorem dL_minutesUntilCheese_1 : decode cL_minutesUntilCheese 1 = .ok (.iconst 0, 1) := by decide +kernel
theorem dL_minutesUntilCheese_2 : decode cL_minutesUntilCheese 2 = .ok (.aload_n 0, 1) := by decide +kernel
theorem dL_minutesUntilCheese_3 : decode cL_minutesUntilCheese 3 = .ok (.iload_n 1, 1) := by decide +kernel
theorem dL_minutesUntilCheese_4 : decode cL_minutesUntilCheese 4 = .ok (.invokevirtual 116, 3) := by decide +kernel
theorem dL_minutesUntilCheese_7 : decode cL_minutesUntilCheese 7 = .ok (.i2l, 1) := by decide +kernel
theorem dL_minutesUntilCheese_8 : decode cL_minutesUntilCheese 8 = .ok (.lastore, 1) := by decide +kernel
theorem dL_minutesUntilCheese_9 : decode cL_minutesUntilCheese 9 = .ok (.goto 6, 3) := by decide +kernel
theorem dL_minutesUntilCheese_12 : decode cL_minutesUntilCheese 12 = .ok (.astore_n 3, 1) := by decide +kernel
theorem dL_minutesUntilCheese_13 : decode cL_minutesUntilCheese 13 = .ok (.iconst 1, 1) := by decide +kernel
theorem dL_minutesUntilCheese_14 : decode cL_minutesUntilCheese 14 = .ok (.ireturn, 1) := by decide +kernel
theorem dL_minutesUntilCheese_15 : decode cL_minutesUntilCheese 15 = .ok (.iconst 0, 1) := by decide +kernel
theorem dL_minutesUntilCheese_16 : decode cL_minutesUntilCheese 16 = .ok (.ireturn, 1) := by decide +kernel
theorem dL_bestTicket_0 : decode cL_bestTicket 0 = .ok (.aload_n 3, 1) := by decide +kernel
theorem dL_bestTicket_1 : decode cL_bestTicket 1 = .ok (.iconst 0, 1) := by decide +kernel
theorem dL_bestTicket_2 : decode cL_bestTicket 2 = .ok (.aload_n 0, 1) := by decide +kernel
theorem dL_bestTicket_3 : decode cL_bestTicket 3 = .ok (.iload_n 1, 1) := by decide +kernel
theorem dL_bestTicket_4 : decode cL_bestTicket 4 = .ok (.iload_n 2, 1) := by decide +kernel
theorem dL_bestTicket_5 : decode cL_bestTicket 5 = .ok (.invokevirtual 119, 3) := by decide +kernel
theorem dL_bestTicket_8 : decode cL_bestTicket 8 = .ok (.i2l, 1) := by decide +kernel
theorem dL_bestTicket_9 : decode cL_bestTicket 9 = .ok (.lastore, 1) := by decide +kernel
theorem dL_bestTicket_10 : decode cL_bestTicket 10 = .ok (.goto 7, 3) := by decide +kernel
theorem dL_bestTicket_13 : decode cL_bestTicket 13 = .ok (.astore 4, 2) := by decide +kernel
theorem dL_bestTicket_15 : decode cL_bestTicket 15 = .ok (.iconst 1, 1) := by decide +kernel
theorem dL_bestTicket_16 : decode cL_bestTicket 16 = .ok (.ireturn, 1) := by decide +kernel
theorem dL_bestTicket_17 : decode cL_bestTicket 17 = .ok (.iconst 0, 1) := by decide +kernel
theorem dL_bestTicket_18 : decode cL_bestTicket 18 = .ok (.ireturn, 1) := by decide +kernel
theorem dL_login_0 : decode cL_login 0 = .ok (.aload 4, 2) := by decide +kernel
theorem dL_login_2 : decode cL_login 2 = .ok (.iconst 0, 1) := by decide +kernel
theorem dL_login_3 : decode cL_login 3 = .ok (.aload_n 0, 1) := by decide +kernel
theorem dL_login_4 : decode cL_login 4 = .ok (.iload_n 1, 1) := by decide +kernel
theorem dL_login_5 : decode cL_login 5 = .ok (.iload_n 2, 1) := by decide +kernel
theorem dL_login_6 : decode cL_login 6 = .ok (.iload_n 3, 1) := by decide +kernel
theorem dL_login_7 : decode cL_login 7 = .ok (.invokevirtual 122, 3) := by decide +kernel
theorem dL_login_10 : decode cL_login 10 = .ok (.i2l, 1) := by decide +kernel
theorem dL_login_11 : decode cL_login 11 = .ok (.lastore, 1) := by decide +kernel
theorem dL_login_12 : decode cL_login 12 = .ok (.goto 15, 3) := by decide +kernel
theorem dL_login_15 : decode cL_login 15 = .ok (.astore 5, 2) := by decide +kernel
theorem dL_login_17 : decode cL_login 17 = .ok (.iconst 1, 1) := by decide +kernel
theorem dL_login_18 : decode cL_login 18 = .ok (.ireturn, 1) := by decide +kernel
theorem dL_login_19 : decode cL_login 19 = .ok (.astore 5, 2) := by decide +kernel
theorem dL_login_21 : decode cL_login 21 = .ok (.iconst 2, 1) := by decide +kernel
theorem dL_login_22 : decode cL_login 22 = .ok (.ireturn, 1) := by decide +kernel
theorem dL_login_23 : decode cL_login 23 = .ok (.astore 5, 2) := by decide +kernel
theorem dL_login_25 : decode cL_login 25 = .ok (.iconst 3, 1) := by decide +kernel
theorem dL_login_26 : decode cL_login 26 = .ok (.ireturn, 1) := by decide +kernel
theorem dL_login_27 : decode cL_login 27 = .ok (.iconst 0, 1) := by decide +kernel
theorem dL_login_28 : decode cL_login 28 = .ok (.ireturn, 1) := by decide +kernel
theorem dL_refer_0 : decode cL_refer 0 = .ok (.aload_n 3, 1) := by decide +kernel
theorem dL_refer_1 : decode cL_refer 1 = .ok (.iconst 0, 1) := by decide +kernel
theorem dL_refer_2 : decode cL_refer 2 = .ok (.aload_n 0, 1) := by decide +kernel
theorem dL_refer_3 : decode cL_refer 3 = .ok (.iload_n 1, 1) := by decide +kernel
theorem dL_refer_4 : decode cL_refer 4 = .ok (.iload_n 2, 1) := by decide +kernel
theorem dL_refer_5 : decode cL_refer 5 = .ok (.invokevirtual 126, 3) := by decide +kernel
theorem dL_refer_8 : decode cL_refer 8 = .ok (.i2l, 1) := by decide +kernel
theorem dL_refer_9 : decode cL_refer 9 = .ok (.lastore, 1) := by decide +kernel
theorem dL_refer_10 : decode cL_refer 10 = .ok (.goto 15, 3) := by decide +kernel
theorem dL_refer_13 : decode cL_refer 13 = .ok (.astore 4, 2) := by decide +kernel
theorem dL_refer_15 : decode cL_refer 15 = .ok (.iconst 1, 1) := by decide +kernel
theorem dL_refer_16 : decode cL_refer 16 = .ok (.ireturn, 1) := by decide +kernel
theorem dL_refer_17 : decode cL_refer 17 = .ok (.astore 4, 2) := by decide +kernel
theorem dL_refer_19 : decode cL_refer 19 = .ok (.iconst 2, 1) := by decide +kernel
theorem dL_refer_20 : decode cL_refer 20 = .ok (.ireturn, 1) := by decide +kernel
theorem dL_refer_21 : decode cL_refer 21 = .ok (.astore 4, 2) := by decide +kernel
theorem dL_refer_23 : decode cL_refer 23 = .ok (.iconst 3, 1) := by decide +kernel
theorem dL_refer_24 : decode cL_refer 24 = .ok (.ireturn, 1) := by decide +kernel
theorem dL_refer_25 : decode cL_refer 25 = .ok (.iconst 0, 1) := by decide +kernel
theorem dL_refer_26 : decode cL_refer 26 = .ok (.ireturn, 1) := by decide +kernel
theorem dL_request_0 : decode cL_request 0 = .ok (.aload_n 3, 1) := by decide +kernel
theorem dL_request_1 : decode cL_request 1 = .ok (.iconst 0, 1) := by decide +kernel
theorem dL_request_2 : decode cL_request 2 = .ok (.aload_n 0, 1) := by decide +kernel
theorem dL_request_3 : decode cL_request 3 = .ok (.iload_n 1, 1) := by decide +kernel
theorem dL_request_4 : decode cL_request 4 = .ok (.iload_n 2, 1) := by decide +kernel
theorem dL_request_5 : decode cL_request 5 = .ok (.invokevirtual 129, 3) := by decide +kernel
theorem dL_request_8 : decode cL_request 8 = .ok (.i2l, 1) := by decide +kernel
theorem dL_request_9 : decode cL_request 9 = .ok (.lastore, 1) := by decide +kernel
theorem dL_request_10 : decode cL_request 10 = .ok (.goto 15, 3) := by decide +kernel
theorem dL_request_13 : decode cL_request 13 = .ok (.astore 4, 2) := by decide +kernel
theorem dL_request_15 : decode cL_request 15 = .ok (.iconst 1, 1) := by decide +kernel
theorem dL_request_16 : decode cL_request 16 = .ok (.ireturn, 1) := by decide +kernel
theorem dL_request_17 : decode cL_request 17 = .ok (.astore 4, 2) := by decide +kernel
theorem dL_request_19 : decode cL_request 19 = .ok (.iconst 2, 1) := by decide +kernel
theorem dL_request_20 : decode cL_request 20 = .ok (.ireturn, 1) := by decide +kernel
theorem dL_request_21 : decode cL_request 21 = .ok (.astore 4, 2) := by decide +kernel
theorem dL_request_23 : decode cL_request 23 = .ok (.iconst 3, 1) := by decide +kernel
theorem dL_request_24 : decode cL_request 24 = .ok (.ireturn, 1) := by decide +kernel
theorem dL_request_25 : decode cL_request 25 = .ok (.iconst 0, 1) := by decide +kernel
theorem dL_request_26 : decode cL_request 26 = .ok (.ireturn, 1) := by decide +kernel
theorem dL_renew_0 : decode cL_renew 0 = .ok (.aload_n 2, 1) := by decide +kernel
theorem dL_renew_1 : decode cL_renew 1 = .ok (.iconst 0, 1) := by decide +kernel
theorem dL_renew_2 : decode cL_renew 2 = .ok (.aload_n 0, 1) := by decide +kernel
theorem dL_renew_3 : decode cL_renew 3 = .ok (.iload_n 1, 1) := by decide +kernel
theorem dL_renew_4 : decode cL_renew 4 = .ok (.invokevirtual 132, 3) := by decide +kernel
theorem dL_renew_7 : decode cL_renew 7 = .ok (.i2l, 1) := by decide +kernel
theorem dL_renew_8 : decode cL_renew 8 = .ok (.lastore, 1) := by decide +kernel
theorem dL_renew_9 : decode cL_renew 9 = .ok (.goto 9, 3) := by decide +kernel
theorem dL_renew_12 : decode cL_renew 12 = .ok (.astore_n 3, 1) := by decide +kernel
theorem dL_renew_13 : decode cL_renew 13 = .ok (.iconst 1, 1) := by decide +kernel
theorem dL_renew_14 : decode cL_renew 14 = .ok (.ireturn, 1) := by decide +kernel
theorem dL_renew_15 : decode cL_renew 15 = .ok (.astore_n 3, 1) := by decide +kernel
theorem dL_renew_16 : decode cL_renew 16 = .ok (.iconst 2, 1) := by decide +kernel
theorem dL_renew_17 : decode cL_renew 17 = .ok (.ireturn, 1) := by decide +kernel
theorem dL_renew_18 : decode cL_renew 18 = .ok (.iconst 0, 1) := by decide +kernel
theorem dL_renew_19 : decode cL_renew 19 = .ok (.ireturn, 1) := by decide +kernel
theorem dL_cheese_0 : decode cL_cheese 0 = .ok (.aload_n 2, 1) := by decide +kernel
theorem dL_cheese_1 : decode cL_cheese 1 = .ok (.iconst 0, 1) := by decide +kernel
theorem dL_cheese_2 : decode cL_cheese 2 = .ok (.aload_n 0, 1) := by decide +kernel
theorem dL_cheese_3 : decode cL_cheese 3 = .ok (.iload_n 1, 1) := by decide +kernel
theorem dL_cheese_4 : decode cL_cheese 4 = .ok (.invokevirtual 135, 3) := by decide +kernel
theorem dL_cheese_7 : decode cL_cheese 7 = .ok (.i2l, 1) := by decide +kernel
theorem dL_cheese_8 : decode cL_cheese 8 = .ok (.lastore, 1) := by decide +kernel
theorem dL_cheese_9 : decode cL_cheese 9 = .ok (.goto 9, 3) := by decide +kernel
theorem dL_cheese_12 : decode cL_cheese 12 = .ok (.astore_n 3, 1) := by decide +kernel
theorem dL_cheese_13 : decode cL_cheese 13 = .ok (.iconst 1, 1) := by decide +kernel
theorem dL_cheese_14 : decode cL_cheese 14 = .ok (.ireturn, 1) := by decide +kernel
theorem dL_cheese_15 : decode cL_cheese 15 = .ok (.astore_n 3, 1) := by decide +kernel
theorem dL_cheese_16 : decode cL_cheese 16 = .ok (.iconst 2, 1) := by decide +kernel
theorem dL_cheese_17 : decode cL_cheese 17 = .ok (.ireturn, 1) := by decide +kernel
theorem dL_cheese_18 : decode cL_cheese 18 = .ok (.iconst 0, 1) := by decide +kernel
theorem dL_cheese_19 : decode cL_cheese 19 = .ok (.ireturn, 1) := by decide +kernel
theorem dL_drop_0 : decode cL_drop 0 = .ok (.aload_n 2, 1) := by decide +kernel
theorem dL_drop_1 : decode cL_drop 1 = .ok (.iconst 0, 1) := by decide +kernel
theorem dL_drop_2 : decode cL_drop 2 = .ok (.aload_n 0, 1) := by decide +kernel
theorem dL_drop_3 : decode cL_drop 3 = .ok (.iload_n 1, 1) := by decide +kernel
theorem dL_drop_4 : decode cL_drop 4 = .ok (.invokevirtual 138, 3) := by decide +kernel
theorem dL_drop_7 : decode cL_drop 7 = .ok (.i2l, 1) := by decide +kernel
theorem dL_drop_8 : decode cL_drop 8 = .ok (.lastore, 1) := by decide +kernel
theorem dL_drop_9 : decode cL_drop 9 = .ok (.goto 6, 3) := by decide +kernel
theorem dL_drop_12 : decode cL_drop 12 = .ok (.astore_n 3, 1) := by decide +kernel
theorem dL_drop_13 : decode cL_drop 13 = .ok (.iconst 1, 1) := by decide +kernel
theorem dL_drop_14 : decode cL_drop 14 = .ok (.ireturn, 1) := by decide +kernel
theorem dL_drop_15 : decode cL_drop 15 = .ok (.iconst 0, 1) := by decide +kernel
theorem dL_drop_16 : decode cL_drop 16 = .ok (.ireturn, 1) := by decide +kernel
theorem dL_setPassword_0 : decode cL_setPassword 0 = .ok (.aload_n 3, 1) := by decide +kernel
theorem dL_setPassword_1 : decode cL_setPassword 1 = .ok (.iconst 0, 1) := by decide +kernel
theorem dL_setPassword_2 : decode cL_setPassword 2 = .ok (.aload_n 0, 1) := by decide +kernel
theorem dL_setPassword_3 : decode cL_setPassword 3 = .ok (.iload_n 1, 1) := by decide +kernel
theorem dL_setPassword_4 : decode cL_setPassword 4 = .ok (.iload_n 2, 1) := by decide +kernel
theorem dL_setPassword_5 : decode cL_setPassword 5 = .ok (.invokevirtual 141, 3) := by decide +kernel
theorem dL_setPassword_8 : decode cL_setPassword 8 = .ok (.i2l, 1) := by decide +kernel
theorem dL_setPassword_9 : decode cL_setPassword 9 = .ok (.lastore, 1) := by decide +kernel
theorem dL_setPassword_10 : decode cL_setPassword 10 = .ok (.goto 11, 3) := by decide +kernel
theorem dL_setPassword_13 : decode cL_setPassword 13 = .ok (.astore 4, 2) := by decide +kernel
theorem dL_setPassword_15 : decode cL_setPassword 15 = .ok (.iconst 1, 1) := by decide +kernel
theorem dL_setPassword_16 : decode cL_setPassword 16 = .ok (.ireturn, 1) := by decide +kernel
theorem dL_setPassword_17 : decode cL_setPassword 17 = .ok (.astore 4, 2) := by decide +kernel
theorem dL_setPassword_19 : decode cL_setPassword 19 = .ok (.iconst 2, 1) := by decide +kernel
theorem dL_setPassword_20 : decode cL_setPassword 20 = .ok (.ireturn, 1) := by decide +kernel
theorem dL_setPassword_21 : decode cL_setPassword 21 = .ok (.iconst 0, 1) := by decide +kernel
theorem dL_setPassword_22 : decode cL_setPassword 22 = .ok (.ireturn, 1) := by decide +kernel
theorem dL_setClock_0 : decode cL_setClock 0 = .ok (.aload_n 3, 1) := by decide +kernel
theorem dL_setClock_1 : decode cL_setClock 1 = .ok (.iconst 0, 1) := by decide +kernel
theorem dL_setClock_2 : decode cL_setClock 2 = .ok (.aload_n 0, 1) := by decide +kernel
theorem dL_setClock_3 : decode cL_setClock 3 = .ok (.iload_n 1, 1) := by decide +kernel
theorem dL_setClock_4 : decode cL_setClock 4 = .ok (.iload_n 2, 1) := by decide +kernel
theorem dL_setClock_5 : decode cL_setClock 5 = .ok (.invokevirtual 144, 3) := by decide +kernel
theorem dL_setClock_8 : decode cL_setClock 8 = .ok (.i2l, 1) := by decide +kernel
theorem dL_setClock_9 : decode cL_setClock 9 = .ok (.lastore, 1) := by decide +kernel
theorem dL_setClock_10 : decode cL_setClock 10 = .ok (.goto 11, 3) := by decide +kernel
theorem dL_setClock_13 : decode cL_setClock 13 = .ok (.astore 4, 2) := by decide +kernel
theorem dL_setClock_15 : decode cL_setClock 15 = .ok (.iconst 1, 1) := by decide +kernel
theorem dL_setClock_16 : decode cL_setClock 16 = .ok (.ireturn, 1) := by decide +kernel
theorem dL_setClock_17 : decode cL_setClock 17 = .ok (.astore 4, 2) := by decide +kernel
theorem dL_setClock_19 : decode cL_setClock 19 = .ok (.iconst 2, 1) := by decide +kernel
theorem dL_setClock_20 : decode cL_setClock 20 = .ok (.ireturn, 1) := by decide +kernel
theorem dL_setClock_21 : decode cL_setClock 21 = .ok (.iconst 0, 1) := by decide +kernel
theorem dL_setClock_22 : decode cL_setClock 22 = .ok (.ireturn, 1) := by decide +kernel
theorem dL_pass_0 : decode cL_pass 0 = .ok (.aload_n 2, 1) := by decide +kernel
theorem dL_pass_1 : decode cL_pass 1 = .ok (.iconst 0, 1) := by decide +kernel
theorem dL_pass_2 : decode cL_pass 2 = .ok (.aload_n 0, 1) := by decide +kernel
theorem dL_pass_3 : decode cL_pass 3 = .ok (.iload_n 1, 1) := by decide +kernel
theorem dL_pass_4 : decode cL_pass 4 = .ok (.invokevirtual 147, 3) := by decide +kernel
theorem dL_pass_7 : decode cL_pass 7 = .ok (.i2l, 1) := by decide +kernel
theorem dL_pass_8 : decode cL_pass 8 = .ok (.lastore, 1) := by decide +kernel
theorem dL_pass_9 : decode cL_pass 9 = .ok (.goto 6, 3) := by decide +kernel
theorem dL_pass_12 : decode cL_pass 12 = .ok (.astore_n 3, 1) := by decide +kernel
theorem dL_pass_13 : decode cL_pass 13 = .ok (.iconst 1, 1) := by decide +kernel
theorem dL_pass_14 : decode cL_pass 14 = .ok (.ireturn, 1) := by decide +kernel
theorem dL_pass_15 : decode cL_pass 15 = .ok (.iconst 0, 1) := by decide +kernel
theorem dL_pass_16 : decode cL_pass 16 = .ok (.ireturn, 1) := by decide +kernel
theorem dL_writeTicket_0 : decode cL_writeTicket 0 = .ok (.aload_n 2, 1) := by decide +kernel
theorem dL_writeTicket_1 : decode cL_writeTicket 1 = .ok (.iconst 0, 1) := by decide +kernel
theorem dL_writeTicket_2 : decode cL_writeTicket 2 = .ok (.aload_n 0, 1) := by decide +kernel
theorem dL_writeTicket_3 : decode cL_writeTicket 3 = .ok (.iload_n 1, 1) := by decide +kernel
theorem dL_writeTicket_4 : decode cL_writeTicket 4 = .ok (.invokevirtual 150, 3) := by decide +kernel
theorem dL_writeTicket_7 : decode cL_writeTicket 7 = .ok (.i2l, 1) := by decide +kernel
theorem dL_writeTicket_8 : decode cL_writeTicket 8 = .ok (.lastore, 1) := by decide +kernel
theorem dL_writeTicket_9 : decode cL_writeTicket 9 = .ok (.goto 6, 3) := by decide +kernel
theorem dL_writeTicket_12 : decode cL_writeTicket 12 = .ok (.astore_n 3, 1) := by decide +kernel
theorem dL_writeTicket_13 : decode cL_writeTicket 13 = .ok (.iconst 1, 1) := by decide +kernel
theorem dL_writeTicket_14 : decode cL_writeTicket 14 = .ok (.ireturn, 1) := by decide +kernel
theorem dL_writeTicket_15 : decode cL_writeTicket 15 = .ok (.iconst 0, 1) := by decide +kernel
theorem dL_writeTicket_16 : decode cL_writeTicket 16 = .ok (.ireturn, 1) := by decide +kernel
theorem dL_outputByte_0 : decode cL_outputByte 0 = .ok (.aload_n 2, 1) := by decide +kernel
theorem dL_outputByte_1 : decode cL_outputByte 1 = .ok (.iconst 0, 1) := by decide +kernel
theorem dL_outputByte_2 : decode cL_outputByte 2 = .ok (.aload_n 0, 1) := by decide +kernel
theorem dL_outputByte_3 : decode cL_outputByte 3 = .ok (.iload_n 1, 1) := by decide +kernel
theorem dL_outputByte_4 : decode cL_outputByte 4 = .ok (.invokevirtual 153, 3) := by decide +kernel
theorem dL_outputByte_7 : decode cL_outputByte 7 = .ok (.i2l, 1) := by decide +kernel
theorem dL_outputByte_8 : decode cL_outputByte 8 = .ok (.lastore, 1) := by decide +kernel
theorem dL_outputByte_9 : decode cL_outputByte 9 = .ok (.goto 6, 3) := by decide +kernel
theorem dL_outputByte_12 : decode cL_outputByte 12 = .ok (.astore_n 3, 1) := by decide +kernel
theorem dL_outputByte_13 : decode cL_outputByte 13 = .ok (.iconst 1, 1) := by decide +kernel
theorem dL_outputByte_14 : decode cL_outputByte 14 = .ok (.ireturn, 1) := by decide +kernel
theorem dL_outputByte_15 : decode cL_outputByte 15 = .ok (.iconst 0, 1) := by decide +kernel
theorem dL_outputByte_16 : decode cL_outputByte 16 = .ok (.ireturn, 1) := by decide +kernel
theorem dL_save_0 : decode cL_save 0 = .ok (.aload_n 2, 1) := by decide +kernel
theorem dL_save_1 : decode cL_save 1 = .ok (.iconst 0, 1) := by decide +kernel
theorem dL_save_2 : decode cL_save 2 = .ok (.aload_n 0, 1) := by decide +kernel
theorem dL_save_3 : decode cL_save 3 = .ok (.iload_n 1, 1) := by decide +kernel
theorem dL_save_4 : decode cL_save 4 = .ok (.invokevirtual 156, 3) := by decide +kernel
theorem dL_save_7 : decode cL_save 7 = .ok (.i2l, 1) := by decide +kernel
theorem dL_save_8 : decode cL_save 8 = .ok (.lastore, 1) := by decide +kernel
theorem dL_save_9 : decode cL_save 9 = .ok (.goto 6, 3) := by decide +kernel
theorem dL_save_12 : decode cL_save 12 = .ok (.astore_n 3, 1) := by decide +kernel
theorem dL_save_13 : decode cL_save 13 = .ok (.iconst 1, 1) := by decide +kernel
theorem dL_save_14 : decode cL_save 14 = .ok (.ireturn, 1) := by decide +kernel
theorem dL_save_15 : decode cL_save 15 = .ok (.iconst 0, 1) := by decide +kernel
theorem dL_save_16 : decode cL_save 16 = .ok (.ireturn, 1) := by decide +kernel
theorem dL_restore_0 : decode cL_restore 0 = .ok (.aload_n 2, 1) := by decide +kernel
theorem dL_restore_1 : decode cL_restore 1 = .ok (.iconst 0, 1) := by decide +kernel
theorem dL_restore_2 : decode cL_restore 2 = .ok (.aload_n 0, 1) := by decide +kernel
theorem dL_restore_3 : decode cL_restore 3 = .ok (.iload_n 1, 1) := by decide +kernel
theorem dL_restore_4 : decode cL_restore 4 = .ok (.invokevirtual 159, 3) := by decide +kernel
theorem dL_restore_7 : decode cL_restore 7 = .ok (.i2l, 1) := by decide +kernel
theorem dL_restore_8 : decode cL_restore 8 = .ok (.lastore, 1) := by decide +kernel
theorem dL_restore_9 : decode cL_restore 9 = .ok (.goto 9, 3) := by decide +kernel
theorem dL_restore_12 : decode cL_restore 12 = .ok (.astore_n 3, 1) := by decide +kernel
theorem dL_restore_13 : decode cL_restore 13 = .ok (.iconst 1, 1) := by decide +kernel
theorem dL_restore_14 : decode cL_restore 14 = .ok (.ireturn, 1) := by decide +kernel
theorem dL_restore_15 : decode cL_restore 15 = .ok (.astore_n 3, 1) := by decide +kernel
theorem dL_restore_16 : decode cL_restore 16 = .ok (.iconst 2, 1) := by decide +kernel
theorem dL_restore_17 : decode cL_restore 17 = .ok (.ireturn, 1) := by decide +kernel
theorem dL_restore_18 : decode cL_restore 18 = .ok (.iconst 0, 1) := by decide +kernel
theorem dL_restore_19 : decode cL_restore 19 = .ok (.ireturn, 1) := by decide +kernel
theorem dL_undo_0 : decode cL_undo 0 = .ok (.aload_n 1, 1) := by decide +kernel
theorem dL_undo_1 : decode cL_undo 1 = .ok (.iconst 0, 1) := by decide +kernel
theorem dL_undo_2 : decode cL_undo 2 = .ok (.aload_n 0, 1) := by decide +kernel
theorem dL_undo_3 : decode cL_undo 3 = .ok (.invokevirtual 162, 3) := by decide +kernel
theorem dL_undo_6 : decode cL_undo 6 = .ok (.i2l, 1) := by decide +kernel
theorem dL_undo_7 : decode cL_undo 7 = .ok (.lastore, 1) := by decide +kernel
theorem dL_undo_8 : decode cL_undo 8 = .ok (.goto 6, 3) := by decide +kernel
theorem dL_undo_11 : decode cL_undo 11 = .ok (.astore_n 2, 1) := by decide +kernel
theorem dL_undo_12 : decode cL_undo 12 = .ok (.iconst 1, 1) := by decide +kernel
theorem dL_undo_13 : decode cL_undo 13 = .ok (.ireturn, 1) := by decide +kernel
theorem dL_undo_14 : decode cL_undo 14 = .ok (.iconst 0, 1) := by decide +kernel
theorem dL_undo_15 : decode cL_undo 15 = .ok (.ireturn, 1) := by decide +kernel
