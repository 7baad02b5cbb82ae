/-! Texts that are built: the JDK's own code of String, StringBuilder, Arrays, for texts of one byte a letter. -/
theorem wq_0 : Cond.methodLink RJ0 335 yJ0_coder_7d493 ∈ Wg := t1_in (List.mem_of_getElem? (i := 233) rfl) rfl
theorem wq_1 : Cond.instanceMethod yJ0_coder_7d493 ∈ Wg := t1_in (List.mem_of_getElem? (i := 234) rfl) rfl
theorem wq_2 : Cond.selects RJ0 yJ0_coder_7d493 yJ0_coder_7d493 ∈ Wg := t1_in (List.mem_of_getElem? (i := 235) rfl) rfl
theorem wq_3 : Cond.initialized RJ0 ∈ Wg := t1_in (List.mem_of_getElem? (i := 13) rfl) rfl
theorem wq_4 : Cond.code yJ0_coder_7d493 cJ0_coder_7d493 1 (some .byte) ∈ Wg := t1_in (List.mem_of_getElem? (i := 236) rfl) rfl
theorem wq_5 : Cond.fieldLink RJ0 9 "java/lang/String" "value" "[B" ∈ Wg := t7_in (List.mem_of_getElem? (i := 32) rfl) rfl
theorem wq_6 : Cond.methodLink RJ0 212 arraycopyName ∈ Wg := t6_in (List.mem_of_getElem? (i := 151) rfl) rfl
theorem wq_7 : Cond.native arraycopyName ∈ Wg := t3_in (List.mem_of_getElem? (i := 230) rfl) rfl
theorem wq_8 : Cond.static arraycopyName ∈ Wg := t3_in (List.mem_of_getElem? (i := 229) rfl) rfl
theorem wq_9 : Cond.initialized "java/lang/System" ∈ Wg := t1_in (List.mem_of_getElem? (i := 17) rfl) rfl
theorem wq_10 : Cond.fieldLink RJ5 18 "java/lang/String" "COMPACT_STRINGS" "Z" ∈ Wg := t6_in (List.mem_of_getElem? (i := 104) rfl) rfl
theorem wq_11 : Cond.fieldLink RJ5 22 "java/lang/AbstractStringBuilder" "coder" "B" ∈ Wg := t6_in (List.mem_of_getElem? (i := 154) rfl) rfl
theorem wq_12 : Cond.lays RJ4 "java/lang/AbstractStringBuilder" "value" "[B" ∈ Wg := t6_in (List.mem_of_getElem? (i := 157) rfl) rfl
theorem wq_13 : Cond.lays RJ4 "java/lang/AbstractStringBuilder" "coder" "B" ∈ Wg := t6_in (List.mem_of_getElem? (i := 159) rfl) rfl
theorem wq_14 : Cond.lays RJ4 "java/lang/AbstractStringBuilder" "maybeLatin1" "Z" ∈ Wg := t6_in (List.mem_of_getElem? (i := 161) rfl) rfl
theorem wq_15 : Cond.lays RJ4 "java/lang/AbstractStringBuilder" "count" "I" ∈ Wg := t6_in (List.mem_of_getElem? (i := 163) rfl) rfl
theorem wq_16 : Cond.methodLink RJ8 194 Lib.Math.max.name ∈ Wg := t6_in (List.mem_of_getElem? (i := 82) rfl) rfl
theorem wq_17 : Cond.static Lib.Math.max.name ∈ Wg := t1_in (List.mem_of_getElem? (i := 48) rfl) rfl
theorem wq_18 : Cond.initialized "java/lang/Math" ∈ Wg := t1_in (List.mem_of_getElem? (i := 3) rfl) rfl
theorem wq_19 : Cond.code Lib.Math.max.name Lib.Math.max.code 2 (some .int) ∈ Wg := t1_in (List.mem_of_getElem? (i := 49) rfl) rfl
theorem wq_20 : Cond.constant RJ8 200 2147483639 ∈ Wg := t6_in (List.mem_of_getElem? (i := 83) rfl) rfl
theorem wq_21 : Cond.fieldLink RJ5 15 "java/lang/AbstractStringBuilder" "value" "[B" ∈ Wg := t6_in (List.mem_of_getElem? (i := 153) rfl) rfl
theorem wq_22 : Cond.methodLink RJ5 114 yJ8_newLength_cabcc ∈ Wg := t6_in (List.mem_of_getElem? (i := 79) rfl) rfl
theorem wq_23 : Cond.static yJ8_newLength_cabcc ∈ Wg := t6_in (List.mem_of_getElem? (i := 80) rfl) rfl
theorem wq_24 : Cond.initialized RJ8 ∈ Wg := t1_in (List.mem_of_getElem? (i := 20) rfl) rfl
theorem wq_25 : Cond.code yJ8_newLength_cabcc cJ8_newLength_cabcc 4 (some .int) ∈ Wg := t6_in (List.mem_of_getElem? (i := 81) rfl) rfl
theorem wq_26 : Cond.constant RJ5 39 2147483647 ∈ Wg := t6_in (List.mem_of_getElem? (i := 45) rfl) rfl
theorem wq_27 : Cond.arrayClass .byte ∈ Wg := t4_in (List.mem_of_getElem? (i := 32) rfl) rfl
theorem wq_28 : Cond.methodLink RJ7 304 Lib.Math.min.name ∈ Wg := t6_in (List.mem_of_getElem? (i := 97) rfl) rfl
theorem wq_29 : Cond.static Lib.Math.min.name ∈ Wg := t2_in (List.mem_of_getElem? (i := 76) rfl) rfl
theorem wq_30 : Cond.code Lib.Math.min.name Lib.Math.min.code 2 (some .int) ∈ Wg := t2_in (List.mem_of_getElem? (i := 77) rfl) rfl
theorem wq_31 : Cond.methodLink RJ7 150 arraycopyName ∈ Wg := t6_in (List.mem_of_getElem? (i := 98) rfl) rfl
theorem wq_32 : Cond.methodLink RJ5 104 ⟨"java/lang/AbstractStringBuilder", "newCapacity", "(I)I"⟩ ∈ Wg := t6_in (List.mem_of_getElem? (i := 75) rfl) rfl
theorem wq_33 : Cond.sameMethod "java/lang/AbstractStringBuilder" "java/lang/AbstractStringBuilder" "newCapacity" "(I)I" ∈ Wg := t7_in (List.mem_of_getElem? (i := 130) rfl) rfl
theorem wq_34 : Cond.selects RJ4 ⟨"java/lang/AbstractStringBuilder", "newCapacity", "(I)I"⟩ yJ5_newCapacity_0f7a4 ∈ Wg := s0_in (y := ⟨"java/lang/AbstractStringBuilder", "newCapacity", "(I)I"⟩) (List.mem_of_getElem? (i := 1) rfl)
theorem wq_35 : Cond.instanceMethod yJ5_newCapacity_0f7a4 ∈ Wg := t6_in (List.mem_of_getElem? (i := 77) rfl) rfl
theorem wq_36 : Cond.initialized RJ5 ∈ Wg := t1_in (List.mem_of_getElem? (i := 18) rfl) rfl
theorem wq_37 : Cond.code yJ5_newCapacity_0f7a4 cJ5_newCapacity_0f7a4 6 (some .int) ∈ Wg := t6_in (List.mem_of_getElem? (i := 78) rfl) rfl
theorem wq_38 : Cond.methodLink RJ5 108 yJ7_copyOf_9075b ∈ Wg := t6_in (List.mem_of_getElem? (i := 87) rfl) rfl
theorem wq_39 : Cond.static yJ7_copyOf_9075b ∈ Wg := t6_in (List.mem_of_getElem? (i := 88) rfl) rfl
theorem wq_40 : Cond.initialized RJ7 ∈ Wg := t1_in (List.mem_of_getElem? (i := 21) rfl) rfl
theorem wq_41 : Cond.code yJ7_copyOf_9075b cJ7_copyOf_9075b 3 (some (.array .byte)) ∈ Wg := t6_in (List.mem_of_getElem? (i := 89) rfl) rfl
theorem wq_42 : Cond.methodLink RJ5 40 yJ0_coder_7d493 ∈ Wg := t6_in (List.mem_of_getElem? (i := 46) rfl) rfl
theorem wq_43 : Cond.methodLink RJ5 397 ⟨"java/lang/AbstractStringBuilder", "inflateIfNeededFor", "(Ljava/lang/String;)V"⟩ ∈ Wg := t6_in (List.mem_of_getElem? (i := 124) rfl) rfl
theorem wq_44 : Cond.sameMethod "java/lang/AbstractStringBuilder" "java/lang/AbstractStringBuilder" "inflateIfNeededFor" "(Ljava/lang/String;)V" ∈ Wg := t7_in (List.mem_of_getElem? (i := 132) rfl) rfl
theorem wq_45 : Cond.selects RJ4 ⟨"java/lang/AbstractStringBuilder", "inflateIfNeededFor", "(Ljava/lang/String;)V"⟩ yJ5_inflateIfNeededFor_a7421 ∈ Wg := s0_in (y := ⟨"java/lang/AbstractStringBuilder", "inflateIfNeededFor", "(Ljava/lang/String;)V"⟩) (List.mem_of_getElem? (i := 3) rfl)
theorem wq_46 : Cond.instanceMethod yJ5_inflateIfNeededFor_a7421 ∈ Wg := t6_in (List.mem_of_getElem? (i := 126) rfl) rfl
theorem wq_47 : Cond.code yJ5_inflateIfNeededFor_a7421 cJ5_inflateIfNeededFor_a7421 2 none ∈ Wg := t6_in (List.mem_of_getElem? (i := 127) rfl) rfl
theorem wq_48 : Cond.methodLink RJ5 399 yJ0_getBytes_840e7 ∈ Wg := t6_in (List.mem_of_getElem? (i := 147) rfl) rfl
theorem wq_49 : Cond.instanceMethod yJ0_getBytes_840e7 ∈ Wg := t6_in (List.mem_of_getElem? (i := 148) rfl) rfl
theorem wq_50 : Cond.selects RJ0 yJ0_getBytes_840e7 yJ0_getBytes_840e7 ∈ Wg := t6_in (List.mem_of_getElem? (i := 149) rfl) rfl
theorem wq_51 : Cond.code yJ0_getBytes_840e7 cJ0_getBytes_840e7 4 none ∈ Wg := t6_in (List.mem_of_getElem? (i := 150) rfl) rfl
theorem wq_52 : Cond.methodLink RJ5 32 yJ0_length_8abf5 ∈ Wg := t6_in (List.mem_of_getElem? (i := 43) rfl) rfl
theorem wq_53 : Cond.instanceMethod yJ0_length_8abf5 ∈ Wg := t1_in (List.mem_of_getElem? (i := 230) rfl) rfl
theorem wq_54 : Cond.selects RJ0 yJ0_length_8abf5 yJ0_length_8abf5 ∈ Wg := t1_in (List.mem_of_getElem? (i := 231) rfl) rfl
theorem wq_55 : Cond.code yJ0_length_8abf5 cJ0_length_8abf5 1 (some .int) ∈ Wg := t1_in (List.mem_of_getElem? (i := 232) rfl) rfl
theorem wq_56 : Cond.fieldLink RJ5 79 "java/lang/AbstractStringBuilder" "count" "I" ∈ Wg := t6_in (List.mem_of_getElem? (i := 156) rfl) rfl
theorem wq_57 : Cond.methodLink RJ5 100 ⟨"java/lang/AbstractStringBuilder", "ensureCapacityInternal", "(I)V"⟩ ∈ Wg := t6_in (List.mem_of_getElem? (i := 71) rfl) rfl
theorem wq_58 : Cond.sameMethod "java/lang/AbstractStringBuilder" "java/lang/AbstractStringBuilder" "ensureCapacityInternal" "(I)V" ∈ Wg := t7_in (List.mem_of_getElem? (i := 129) rfl) rfl
theorem wq_59 : Cond.selects RJ4 ⟨"java/lang/AbstractStringBuilder", "ensureCapacityInternal", "(I)V"⟩ yJ5_ensureCapacityInternal_d00df ∈ Wg := s0_in (y := ⟨"java/lang/AbstractStringBuilder", "ensureCapacityInternal", "(I)V"⟩) (List.mem_of_getElem? (i := 0) rfl)
theorem wq_60 : Cond.instanceMethod yJ5_ensureCapacityInternal_d00df ∈ Wg := t6_in (List.mem_of_getElem? (i := 73) rfl) rfl
theorem wq_61 : Cond.code yJ5_ensureCapacityInternal_d00df cJ5_ensureCapacityInternal_d00df 3 none ∈ Wg := t6_in (List.mem_of_getElem? (i := 74) rfl) rfl
theorem wq_62 : Cond.methodLink RJ5 208 ⟨"java/lang/AbstractStringBuilder", "putStringAt", "(ILjava/lang/String;)V"⟩ ∈ Wg := t6_in (List.mem_of_getElem? (i := 120) rfl) rfl
theorem wq_63 : Cond.sameMethod "java/lang/AbstractStringBuilder" "java/lang/AbstractStringBuilder" "putStringAt" "(ILjava/lang/String;)V" ∈ Wg := t7_in (List.mem_of_getElem? (i := 131) rfl) rfl
theorem wq_64 : Cond.selects RJ4 ⟨"java/lang/AbstractStringBuilder", "putStringAt", "(ILjava/lang/String;)V"⟩ yJ5_putStringAt_47b60 ∈ Wg := s0_in (y := ⟨"java/lang/AbstractStringBuilder", "putStringAt", "(ILjava/lang/String;)V"⟩) (List.mem_of_getElem? (i := 2) rfl)
theorem wq_65 : Cond.instanceMethod yJ5_putStringAt_47b60 ∈ Wg := t6_in (List.mem_of_getElem? (i := 122) rfl) rfl
theorem wq_66 : Cond.code yJ5_putStringAt_47b60 cJ5_putStringAt_47b60 3 none ∈ Wg := t6_in (List.mem_of_getElem? (i := 123) rfl) rfl
theorem wq_67 : Cond.methodLink RJ4 29 yJ5_append_cf1ce ∈ Wg := t6_in (List.mem_of_getElem? (i := 64) rfl) rfl
theorem wq_68 : Cond.sameMethod "java/lang/AbstractStringBuilder" "java/lang/AbstractStringBuilder" "append" "(Ljava/lang/String;)Ljava/lang/AbstractStringBuilder;" ∈ Wg := t6_in (List.mem_of_getElem? (i := 56) rfl) rfl
theorem wq_69 : Cond.superclass RJ4 RJ5 ∈ Wg := t6_in (List.mem_of_getElem? (i := 65) rfl) rfl
theorem wq_70 : Cond.instanceMethod yJ5_append_cf1ce ∈ Wg := t6_in (List.mem_of_getElem? (i := 55) rfl) rfl
theorem wq_71 : Cond.code yJ5_append_cf1ce cJ5_append_cf1ce 3 (some (.object "java/lang/AbstractStringBuilder")) ∈ Wg := t6_in (List.mem_of_getElem? (i := 66) rfl) rfl
theorem wq_72 : Cond.methodLink RJ4 23 yJ4_append_15ec4 ∈ Wg := t6_in (List.mem_of_getElem? (i := 60) rfl) rfl
theorem wq_73 : Cond.instanceMethod yJ4_append_15ec4 ∈ Wg := t6_in (List.mem_of_getElem? (i := 61) rfl) rfl
theorem wq_74 : Cond.selects RJ4 yJ4_append_15ec4 yJ4_append_15ec4 ∈ Wg := t6_in (List.mem_of_getElem? (i := 62) rfl) rfl
theorem wq_75 : Cond.initialized RJ4 ∈ Wg := t1_in (List.mem_of_getElem? (i := 19) rfl) rfl
theorem wq_76 : Cond.code yJ4_append_15ec4 cJ4_append_15ec4 2 (some (.object "java/lang/StringBuilder")) ∈ Wg := t6_in (List.mem_of_getElem? (i := 63) rfl) rfl
theorem wq_77 : Cond.methodLink RJ5 83 ⟨"java/lang/AbstractStringBuilder", "isLatin1", "()Z"⟩ ∈ Wg := t6_in (List.mem_of_getElem? (i := 99) rfl) rfl
theorem wq_78 : Cond.sameMethod "java/lang/AbstractStringBuilder" "java/lang/AbstractStringBuilder" "isLatin1" "()Z" ∈ Wg := t6_in (List.mem_of_getElem? (i := 101) rfl) rfl
theorem wq_79 : Cond.selects RJ4 ⟨"java/lang/AbstractStringBuilder", "isLatin1", "()Z"⟩ yJ5_isLatin1_aae02 ∈ Wg := t6_in (List.mem_of_getElem? (i := 102) rfl) rfl
theorem wq_80 : Cond.instanceMethod yJ5_isLatin1_aae02 ∈ Wg := t6_in (List.mem_of_getElem? (i := 100) rfl) rfl
theorem wq_81 : Cond.code yJ5_isLatin1_aae02 cJ5_isLatin1_aae02 1 (some .boolean) ∈ Wg := t6_in (List.mem_of_getElem? (i := 103) rfl) rfl
theorem wq_82 : Cond.methodLink RJ5 191 yJ1_canEncode_fc78d ∈ Wg := t6_in (List.mem_of_getElem? (i := 197) rfl) rfl
theorem wq_83 : Cond.static yJ1_canEncode_fc78d ∈ Wg := t6_in (List.mem_of_getElem? (i := 198) rfl) rfl
theorem wq_84 : Cond.initialized RJ1 ∈ Wg := t1_in (List.mem_of_getElem? (i := 14) rfl) rfl
theorem wq_85 : Cond.code yJ1_canEncode_fc78d cJ1_canEncode_fc78d 1 (some .boolean) ∈ Wg := t6_in (List.mem_of_getElem? (i := 199) rfl) rfl
theorem wq_86 : Cond.methodLink RJ4 50 yJ5_append_3fe6f ∈ Wg := t6_in (List.mem_of_getElem? (i := 194) rfl) rfl
theorem wq_87 : Cond.sameMethod "java/lang/AbstractStringBuilder" "java/lang/AbstractStringBuilder" "append" "(C)Ljava/lang/AbstractStringBuilder;" ∈ Wg := t7_in (List.mem_of_getElem? (i := 135) rfl) rfl
theorem wq_88 : Cond.instanceMethod yJ5_append_3fe6f ∈ Wg := t6_in (List.mem_of_getElem? (i := 195) rfl) rfl
theorem wq_89 : Cond.code yJ5_append_3fe6f cJ5_append_3fe6f 2 (some (.object "java/lang/AbstractStringBuilder")) ∈ Wg := t6_in (List.mem_of_getElem? (i := 196) rfl) rfl
theorem wq_90 : Cond.fieldLink RJ6 83 "java/lang/Integer" "DigitOnes" "[B" ∈ Wg := t6_in (List.mem_of_getElem? (i := 178) rfl) rfl
theorem wq_91 : Cond.fieldLink RJ6 87 "java/lang/Integer" "DigitTens" "[B" ∈ Wg := t6_in (List.mem_of_getElem? (i := 180) rfl) rfl
theorem wq_92 : Cond.methodLink RJ5 245 yJ6_stringSize_0f7a4 ∈ Wg := t6_in (List.mem_of_getElem? (i := 172) rfl) rfl
theorem wq_93 : Cond.static yJ6_stringSize_0f7a4 ∈ Wg := t6_in (List.mem_of_getElem? (i := 173) rfl) rfl
theorem wq_94 : Cond.initialized RJ6 ∈ Wg := t1_in (List.mem_of_getElem? (i := 23) rfl) rfl
theorem wq_95 : Cond.code yJ6_stringSize_0f7a4 cJ6_stringSize_0f7a4 4 (some .int) ∈ Wg := t6_in (List.mem_of_getElem? (i := 174) rfl) rfl
theorem wq_96 : Cond.methodLink RJ5 248 yJ6_getChars_ba4f3 ∈ Wg := t6_in (List.mem_of_getElem? (i := 175) rfl) rfl
theorem wq_97 : Cond.static yJ6_getChars_ba4f3 ∈ Wg := t6_in (List.mem_of_getElem? (i := 176) rfl) rfl
theorem wq_98 : Cond.code yJ6_getChars_ba4f3 cJ6_getChars_ba4f3 7 (some .int) ∈ Wg := t6_in (List.mem_of_getElem? (i := 177) rfl) rfl
theorem wq_99 : Cond.methodLink RJ4 53 yJ5_append_c97b9 ∈ Wg := t6_in (List.mem_of_getElem? (i := 169) rfl) rfl
theorem wq_100 : Cond.sameMethod "java/lang/AbstractStringBuilder" "java/lang/AbstractStringBuilder" "append" "(I)Ljava/lang/AbstractStringBuilder;" ∈ Wg := t7_in (List.mem_of_getElem? (i := 134) rfl) rfl
theorem wq_101 : Cond.instanceMethod yJ5_append_c97b9 ∈ Wg := t6_in (List.mem_of_getElem? (i := 170) rfl) rfl
theorem wq_102 : Cond.code yJ5_append_c97b9 cJ5_append_c97b9 4 (some (.object "java/lang/AbstractStringBuilder")) ∈ Wg := t6_in (List.mem_of_getElem? (i := 171) rfl) rfl
theorem wq_103 : Cond.methodLink RJ5 3 Lib.objectInit ∈ Wg := t6_in (List.mem_of_getElem? (i := 42) rfl) rfl
theorem wq_104 : Cond.instanceMethod Lib.objectInit ∈ Wg := t1_in (List.mem_of_getElem? (i := 39) rfl) rfl
theorem wq_105 : Cond.code Lib.objectInit ⟨#[0xb1]⟩ 1 none ∈ Wg := t1_in (List.mem_of_getElem? (i := 40) rfl) rfl
theorem wq_106 : Cond.code yJ5_init_d00df cJ5_init_d00df 2 none ∈ Wg := t6_in (List.mem_of_getElem? (i := 215) rfl) rfl
theorem wq_107 : Cond.methodLink RJ4 1 yJ5_init_d00df ∈ Wg := t6_in (List.mem_of_getElem? (i := 213) rfl) rfl
theorem wq_108 : Cond.instanceMethod yJ5_init_d00df ∈ Wg := t6_in (List.mem_of_getElem? (i := 214) rfl) rfl
theorem wq_109 : Cond.constant RJ5 38 2147483631 ∈ Wg := t6_in (List.mem_of_getElem? (i := 44) rfl) rfl
theorem wq_110 : Cond.methodLink RJ5 43 ⟨"java/lang/AbstractStringBuilder", "append", "(Ljava/lang/String;)Ljava/lang/AbstractStringBuilder;"⟩ ∈ Wg := t6_in (List.mem_of_getElem? (i := 54) rfl) rfl
theorem wq_111 : Cond.selects RJ4 ⟨"java/lang/AbstractStringBuilder", "append", "(Ljava/lang/String;)Ljava/lang/AbstractStringBuilder;"⟩ yJ4_append_cf1ce ∈ Wg := t6_in (List.mem_of_getElem? (i := 57) rfl) rfl
theorem wq_112 : Cond.instanceMethod yJ4_append_cf1ce ∈ Wg := t6_in (List.mem_of_getElem? (i := 58) rfl) rfl
theorem wq_113 : Cond.code yJ4_append_cf1ce cJ4_append_cf1ce 2 (some (.object "java/lang/AbstractStringBuilder")) ∈ Wg := t6_in (List.mem_of_getElem? (i := 59) rfl) rfl
theorem wq_114 : Cond.code yJ5_init_a7421 cJ5_init_a7421 5 none ∈ Wg := t6_in (List.mem_of_getElem? (i := 41) rfl) rfl
theorem wq_115 : Cond.methodLink RJ4 7 yJ5_init_a7421 ∈ Wg := t6_in (List.mem_of_getElem? (i := 39) rfl) rfl
theorem wq_116 : Cond.instanceMethod yJ5_init_a7421 ∈ Wg := t6_in (List.mem_of_getElem? (i := 40) rfl) rfl
theorem wq_117 : Cond.methodLink RJ4 343 yJ5_length_8abf5 ∈ Wg := t7_in (List.mem_of_getElem? (i := 2) rfl) rfl
theorem wq_118 : Cond.sameMethod "java/lang/AbstractStringBuilder" "java/lang/AbstractStringBuilder" "length" "()I" ∈ Wg := t6_in (List.mem_of_getElem? (i := 238) rfl) rfl
theorem wq_119 : Cond.instanceMethod yJ5_length_8abf5 ∈ Wg := t6_in (List.mem_of_getElem? (i := 237) rfl) rfl
theorem wq_120 : Cond.code yJ5_length_8abf5 cJ5_length_8abf5 1 (some .int) ∈ Wg := t7_in (List.mem_of_getElem? (i := 3) rfl) rfl
theorem wq_121 : Cond.methodLink RJ7 343 yJ7_checkLength_df160 ∈ Wg := t7_in (List.mem_of_getElem? (i := 11) rfl) rfl
theorem wq_122 : Cond.static yJ7_checkLength_df160 ∈ Wg := t7_in (List.mem_of_getElem? (i := 12) rfl) rfl
theorem wq_123 : Cond.code yJ7_checkLength_df160 cJ7_checkLength_df160 2 none ∈ Wg := t7_in (List.mem_of_getElem? (i := 13) rfl) rfl
theorem wq_124 : Cond.methodLink RJ7 310 ⟨"[B", "clone", "()Ljava/lang/Object;"⟩ ∈ Wg := t6_in (List.mem_of_getElem? (i := 90) rfl) rfl
theorem wq_125 : Cond.sameMethod "[B" "java/lang/Object" "clone" "()Ljava/lang/Object;" ∈ Wg := t6_in (List.mem_of_getElem? (i := 91) rfl) rfl
theorem wq_126 : Cond.native ⟨"java/lang/Object", "clone", "()Ljava/lang/Object;"⟩ ∈ Wg := t6_in (List.mem_of_getElem? (i := 92) rfl) rfl
theorem wq_127 : Cond.instanceMethod ⟨"java/lang/Object", "clone", "()Ljava/lang/Object;"⟩ ∈ Wg := t6_in (List.mem_of_getElem? (i := 93) rfl) rfl
theorem wq_128 : Cond.selects "[B" ⟨"[B", "clone", "()Ljava/lang/Object;"⟩ ⟨"java/lang/Object", "clone", "()Ljava/lang/Object;"⟩ ∈ Wg := t6_in (List.mem_of_getElem? (i := 94) rfl) rfl
theorem wq_129 : Cond.classLink RJ7 311 "[B" ∈ Wg := t6_in (List.mem_of_getElem? (i := 96) rfl) rfl
theorem wq_130 : Cond.methodLink RJ7 339 yJ7_copyOfRangeByte_39247 ∈ Wg := t7_in (List.mem_of_getElem? (i := 8) rfl) rfl
theorem wq_131 : Cond.static yJ7_copyOfRangeByte_39247 ∈ Wg := t7_in (List.mem_of_getElem? (i := 9) rfl) rfl
theorem wq_132 : Cond.code yJ7_copyOfRangeByte_39247 cJ7_copyOfRangeByte_39247 5 (some (.array .byte)) ∈ Wg := t7_in (List.mem_of_getElem? (i := 10) rfl) rfl
theorem wq_133 : Cond.methodLink RJ0 1 Lib.objectInit ∈ Wg := t6_in (List.mem_of_getElem? (i := 230) rfl) rfl
theorem wq_134 : Cond.methodLink RJ0 552 ⟨"java/lang/AbstractStringBuilder", "getValue", "()[B"⟩ ∈ Wg := t6_in (List.mem_of_getElem? (i := 231) rfl) rfl
theorem wq_135 : Cond.sameMethod "java/lang/AbstractStringBuilder" "java/lang/AbstractStringBuilder" "getValue" "()[B" ∈ Wg := t6_in (List.mem_of_getElem? (i := 233) rfl) rfl
theorem wq_136 : Cond.selects RJ4 ⟨"java/lang/AbstractStringBuilder", "getValue", "()[B"⟩ yJ5_getValue_6d5f1 ∈ Wg := t6_in (List.mem_of_getElem? (i := 234) rfl) rfl
theorem wq_137 : Cond.instanceMethod yJ5_getValue_6d5f1 ∈ Wg := t6_in (List.mem_of_getElem? (i := 232) rfl) rfl
theorem wq_138 : Cond.code yJ5_getValue_6d5f1 cJ5_getValue_6d5f1 1 (some (.array .byte)) ∈ Wg := t6_in (List.mem_of_getElem? (i := 235) rfl) rfl
theorem wq_139 : Cond.methodLink RJ0 549 ⟨"java/lang/AbstractStringBuilder", "length", "()I"⟩ ∈ Wg := t6_in (List.mem_of_getElem? (i := 236) rfl) rfl
theorem wq_140 : Cond.selects RJ4 ⟨"java/lang/AbstractStringBuilder", "length", "()I"⟩ yJ4_length_8abf5 ∈ Wg := t6_in (List.mem_of_getElem? (i := 239) rfl) rfl
theorem wq_141 : Cond.instanceMethod yJ4_length_8abf5 ∈ Wg := t7_in (List.mem_of_getElem? (i := 0) rfl) rfl
theorem wq_142 : Cond.code yJ4_length_8abf5 cJ4_length_8abf5 1 (some .int) ∈ Wg := t7_in (List.mem_of_getElem? (i := 1) rfl) rfl
theorem wq_143 : Cond.methodLink RJ0 1047 ⟨"java/lang/AbstractStringBuilder", "isLatin1", "()Z"⟩ ∈ Wg := t7_in (List.mem_of_getElem? (i := 4) rfl) rfl
theorem wq_144 : Cond.fieldLink RJ0 15 "java/lang/String" "coder" "B" ∈ Wg := t7_in (List.mem_of_getElem? (i := 33) rfl) rfl
theorem wq_145 : Cond.laysFinal RJ0 "java/lang/String" "value" "[B" ∈ Wg := t7_in (List.mem_of_getElem? (i := 34) rfl) rfl
theorem wq_146 : Cond.laysFinal RJ0 "java/lang/String" "coder" "B" ∈ Wg := t7_in (List.mem_of_getElem? (i := 36) rfl) rfl
theorem wq_147 : Cond.lays RJ0 "java/lang/String" "hash" "I" ∈ Wg := t7_in (List.mem_of_getElem? (i := 38) rfl) rfl
theorem wq_148 : Cond.lays RJ0 "java/lang/String" "hashIsZero" "Z" ∈ Wg := t7_in (List.mem_of_getElem? (i := 40) rfl) rfl
theorem wq_149 : Cond.methodLink RJ0 54 yJ7_copyOfRange_39247 ∈ Wg := t7_in (List.mem_of_getElem? (i := 5) rfl) rfl
theorem wq_150 : Cond.static yJ7_copyOfRange_39247 ∈ Wg := t7_in (List.mem_of_getElem? (i := 6) rfl) rfl
theorem wq_151 : Cond.code yJ7_copyOfRange_39247 cJ7_copyOfRange_39247 3 (some (.array .byte)) ∈ Wg := t7_in (List.mem_of_getElem? (i := 7) rfl) rfl
theorem wq_152 : Cond.code yJ0_init_db425 cJ0_init_db425 5 none ∈ Wg := t6_in (List.mem_of_getElem? (i := 229) rfl) rfl
theorem wq_153 : Cond.methodLink RJ0 489 yJ0_init_db425 ∈ Wg := t6_in (List.mem_of_getElem? (i := 227) rfl) rfl
theorem wq_154 : Cond.instanceMethod yJ0_init_db425 ∈ Wg := t6_in (List.mem_of_getElem? (i := 228) rfl) rfl
theorem wq_155 : Cond.classLink RJ4 18 RJ0 ∈ Wg := t6_in (List.mem_of_getElem? (i := 222) rfl) rfl
theorem wq_156 : Cond.instantiable RJ0 4 ∈ Wg := t6_in (List.mem_of_getElem? (i := 223) rfl) rfl
theorem wq_157 : Cond.code yJ0_init_81219 cJ0_init_81219 2 none ∈ Wg := t6_in (List.mem_of_getElem? (i := 226) rfl) rfl
theorem wq_158 : Cond.methodLink RJ4 137 yJ0_init_81219 ∈ Wg := t6_in (List.mem_of_getElem? (i := 224) rfl) rfl
theorem wq_159 : Cond.instanceMethod yJ0_init_81219 ∈ Wg := t6_in (List.mem_of_getElem? (i := 225) rfl) rfl
theorem layq_J4 : ∀ k, k < 4 → u_lay RJ4 TJ4 k ∈ Wg := fun k hk => match k, hk with
  | 0, _ => wq_12
  | 1, _ => wq_13
  | 2, _ => wq_14
  | 3, _ => wq_15
  | k + 4, h => absurd h (by omega)
theorem layq_J0 : ∀ k, k < 4 → u_lay RJ0 TJ0 k ∈ Wg := fun k hk => match k, hk with
  | 0, _ => wq_145
  | 1, _ => wq_146
  | 2, _ => wq_147
  | 3, _ => wq_148
  | k + 4, h => absurd h (by omega)
def chv (g : Nat → Int32) (j : Nat) : Int32 := ((g j &&& 255).toUInt32 % 65536).toInt32
theorem nar_ch (x : Int32) : narrow .char (.int ((x &&& 255).toUInt32 % 65536).toInt32) = .int ((x &&& 255).toUInt32 % 65536).toInt32 := by
  generalize x &&& 255 = x
  show Value.int _ = Value.int _
  congr 1
  simp
  rw [show x.toUInt32 % 65536 % 65536 = x.toUInt32 % 65536 from UInt32.toNat_inj.mp (by simp [UInt32.toNat_mod])]
theorem vs_recv {s : State} {A : Nat → Prop} {H : Heap} {locs : List Loc} {q t n : Nat} {g : Nat → Int32} (T : vStr q t n g A s s.heap) (hS : va_S A s.heap H locs) : ∃ cell : Cell, H[q]? = some cell ∧ cell.vm.isStatics = false ∧ s.vm.findClass "java/lang/String" = some cell.cls := by
  obtain ⟨cell, h1, h2, h3, -⟩ := T.1.kept hS.2.1
  exact ⟨cell, h1, h2, h3⟩
set_option maxRecDepth 100000 in
set_option maxHeartbeats 4000000 in
theorem cs_J0_coder (l : Launch) {G : (Nat → Prop) → State → Heap → Prop} (hG : vG G) (D : va_G) (c9 : Nat → ClassId) {sk sv : Nat → Nat} (hGU : ∀ (A : Nat → Prop) (U : State) (H : Heap), G A U H → vU sk sv A U H) {q t : Nat} {M : List Nat} (hGT : ∀ (A : Nat → Prop) (U : State) (H : Heap), G A U H → vStr q t M.length (fun j => nI (M.getD j 0)) A U H) (hn : M.length < 2 ^ 31) : mI l yJ0_coder_7d493 (wq yJ0_coder_7d493 cJ0_coder_7d493 1 (some .byte)) { frames := 0, cells := 0, slots := 0, locals := 0 } G D (tyA c9) [.ref q] [] [] 0 0 0 [] := by
  refine mI_of hG (cc := cJ0_coder_7d493) (maxL := 1) (ty := .byte) (by decide) rfl (Nat.le_of_ble_eq_true rfl) ?_
  intro p e s m args below meth c A X
  have X : vX p s m args meth c cJ0_coder_7d493 1 (some .byte) RJ0 (wq yJ0_coder_7d493 cJ0_coder_7d493 1 (some .byte)) D (tyA c9) G A := X
  have U := hGU A s s.heap X.2.2.2.2.2.2.2.2.2.2
  have T := hGT A s s.heap X.2.2.2.2.2.2.2.2.2.2
  refine v_eq (lv2 := [(0, .ref q)]) rfl rfl rfl rfl ?_
  refine v_gets X dJ0_coder_7d493_0 U.2.2.1 (mw wj_20) rfl 3 rfl ?_
  refine v_if_eq X (tgt := 13) dJ0_coder_7d493_3 rfl 6 rfl (a := none) (b := some ()) (o := ()) (if_neg (by decide)) (fun h => nomatch h) (fun _ => ?_)
  refine v_aload_n X dJ0_coder_7d493_6 0 rfl rfl 7 rfl ?_
  refine v_kget X dJ0_coder_7d493_7 T.2.1 (mw wj_21) rfl 10 rfl ?_
  refine v_goto X (tgt := 14) dJ0_coder_7d493_10 rfl ?_
  exact v_zret X (Nat.zero_le _) (Nat.zero_le _) rfl dJ0_coder_7d493_14
set_option maxRecDepth 100000 in
set_option maxHeartbeats 4000000 in
theorem cs_J0_isLatin1 (l : Launch) {G : (Nat → Prop) → State → Heap → Prop} (hG : vG G) (D : va_G) (c9 : Nat → ClassId) {sk sv : Nat → Nat} (hGU : ∀ (A : Nat → Prop) (U : State) (H : Heap), G A U H → vU sk sv A U H) {q t : Nat} {M : List Nat} (hGT : ∀ (A : Nat → Prop) (U : State) (H : Heap), G A U H → vStr q t M.length (fun j => nI (M.getD j 0)) A U H) (hn : M.length < 2 ^ 31) : mI l yJ0_isLatin1_aae02 (wq yJ0_isLatin1_aae02 cJ0_isLatin1_aae02 1 (some .boolean)) { frames := 0, cells := 0, slots := 0, locals := 0 } G D (tyA c9) [.ref q] [] [] 0 0 1 [] := by
  refine mI_of hG (cc := cJ0_isLatin1_aae02) (maxL := 1) (ty := .boolean) (by decide) rfl (Nat.le_of_ble_eq_true rfl) ?_
  intro p e s m args below meth c A X
  have X : vX p s m args meth c cJ0_isLatin1_aae02 1 (some .boolean) RJ0 (wq yJ0_isLatin1_aae02 cJ0_isLatin1_aae02 1 (some .boolean)) D (tyA c9) G A := X
  have U := hGU A s s.heap X.2.2.2.2.2.2.2.2.2.2
  have T := hGT A s s.heap X.2.2.2.2.2.2.2.2.2.2
  refine v_eq (lv2 := [(0, .ref q)]) rfl rfl rfl rfl ?_
  refine v_gets X dJ0_isLatin1_aae02_0 U.2.2.1 (mw wj_20) rfl 3 rfl ?_
  refine v_if_eq X (tgt := 17) dJ0_isLatin1_aae02_3 rfl 6 rfl (a := none) (b := some ()) (o := ()) (if_neg (by decide)) (fun h => nomatch h) (fun _ => ?_)
  refine v_aload_n X dJ0_isLatin1_aae02_6 0 rfl rfl 7 rfl ?_
  refine v_kget X dJ0_isLatin1_aae02_7 T.2.1 (mw wj_21) rfl 10 rfl ?_
  refine v_if_ne X (tgt := 17) dJ0_isLatin1_aae02_10 rfl 13 rfl (a := none) (b := some ()) (o := ()) (if_pos rfl) (fun h => nomatch h) (fun _ => ?_)
  refine v_iconst X (v := 1) dJ0_isLatin1_aae02_13 (by decide) 14 rfl ?_
  refine v_goto X (tgt := 18) dJ0_isLatin1_aae02_14 rfl ?_
  exact v_zret X (Nat.zero_le _) (Nat.zero_le _) rfl dJ0_isLatin1_aae02_18
set_option maxRecDepth 100000 in
set_option maxHeartbeats 4000000 in
theorem cs_J0_length (l : Launch) {G : (Nat → Prop) → State → Heap → Prop} (hG : vG G) (D : va_G) (c9 : Nat → ClassId) {sk sv : Nat → Nat} (hGU : ∀ (A : Nat → Prop) (U : State) (H : Heap), G A U H → vU sk sv A U H) {q t : Nat} {M : List Nat} (hGT : ∀ (A : Nat → Prop) (U : State) (H : Heap), G A U H → vStr q t M.length (fun j => nI (M.getD j 0)) A U H) (hn : M.length < 2 ^ 31) : mI l yJ0_length_8abf5 (wq yJ0_length_8abf5 cJ0_length_8abf5 1 (some .int)) { frames := 1, cells := 0, slots := 0, locals := 30 } G D (tyA c9) [.ref q] [] [] 0 0 (Int32.ofNat M.length) [] := by
  refine mI_of hG (cc := cJ0_length_8abf5) (maxL := 1) (ty := .int) (by decide) rfl (Nat.le_of_ble_eq_true rfl) ?_
  intro p e s m args below meth c A X
  have X : vX p s m args meth c cJ0_length_8abf5 1 (some .int) RJ0 (wq yJ0_length_8abf5 cJ0_length_8abf5 1 (some .int)) D (tyA c9) G A := X
  have U := hGU A s s.heap X.2.2.2.2.2.2.2.2.2.2
  have T := hGT A s s.heap X.2.2.2.2.2.2.2.2.2.2
  refine v_eq (lv2 := [(0, .ref q)]) rfl rfl rfl rfl ?_
  refine v_aload_n X dJ0_length_8abf5_0 0 rfl rfl 1 rfl ?_
  refine v_kget X dJ0_length_8abf5_1 T.2.2.1 (mw wj_22) rfl 4 rfl ?_
  refine v_tlen X dJ0_length_8abf5_4 T.2.2.2 rfl 5 rfl ?_
  refine v_aload_n X dJ0_length_8abf5_5 0 rfl rfl 6 rfl ?_
  refine v_callEi X (C := RJ0) (As := []) (rest := [.int (Int32.ofNat (M.length))]) (cs_J0_coder l hG D c9 hGU hGT hn) 0 (gV wj_0 wj_1 wj_2 wj_3 wj_4) rfl rfl rfl ⟨rfl, by decide +kernel⟩ ⟨Nat.le_of_ble_eq_true rfl, Nat.le_of_ble_eq_true rfl⟩ (fun H locs hS => vs_recv T hS) rfl rfl (Nat.le_of_ble_eq_true rfl) ⟨Nat.zero_le _, Nat.zero_le _⟩ dJ0_length_8abf5_6 9 rfl ?_
  refine v_ishr X dJ0_length_8abf5_9 10 rfl ?_
  rw [sb_shr0]
  exact v_iret X (Nat.zero_le _) (Nat.zero_le _) dJ0_length_8abf5_10
set_option maxRecDepth 100000 in
set_option maxHeartbeats 4000000 in
theorem cs_J1_charAt (l : Launch) {G : (Nat → Prop) → State → Heap → Prop} (hG : vG G) (D : va_G) (c9 : Nat → ClassId) {sk sv : Nat → Nat} (hGU : ∀ (A : Nat → Prop) (U : State) (H : Heap), G A U H → vU sk sv A U H) {q t : Nat} {M : List Nat} (hGT : ∀ (A : Nat → Prop) (U : State) (H : Heap), G A U H → vStr q t M.length (fun j => nI (M.getD j 0)) A U H) (hn : M.length < 2 ^ 31) {k : Int32} (h0 : ¬ k < 0) (hk : k.toNatClampNeg < M.length) : mI l yJ1_charAt_3b067 (wq yJ1_charAt_3b067 cJ1_charAt_3b067 2 (some .char)) { frames := 2, cells := 0, slots := 0, locals := 80 } G D (tyA c9) [.ref t, .int k] [] [] 0 0 (chv (fun j => nI (M.getD j 0)) k.toNatClampNeg) [] := by
  refine mI_of hG (cc := cJ1_charAt_3b067) (maxL := 2) (ty := .char) (by decide) rfl (Nat.le_of_ble_eq_true rfl) ?_
  intro p e s m args below meth c A X
  have X : vX p s m args meth c cJ1_charAt_3b067 2 (some .char) RJ1 (wq yJ1_charAt_3b067 cJ1_charAt_3b067 2 (some .char)) D (tyA c9) G A := X
  have U := hGU A s s.heap X.2.2.2.2.2.2.2.2.2.2
  have T := hGT A s s.heap X.2.2.2.2.2.2.2.2.2.2
  refine v_eq (lv2 := [(0, .ref t), (1, .int k)]) rfl rfl rfl rfl ?_
  have hin : vp_in k (M.length) := by rintro (h | h); exact h0 h; omega
  have h1 : k < Int32.ofNat (M.length) := by obtain ⟨j, hj, rfl⟩ := vp_in_of hin (hn); exact nI_lt hj (hn)
  refine v_iload_n X dJ1_charAt_3b067_0 1 rfl rfl 1 rfl ?_
  refine v_aload_n X dJ1_charAt_3b067_1 0 rfl rfl 2 rfl ?_
  refine v_tlen X dJ1_charAt_3b067_2 T.2.2.2 rfl 3 rfl ?_
  refine v_callZv X (As := [.int k, .int (Int32.ofNat (M.length))]) (rest := []) (c_J0_checkIndex l hG D c9 hGU (i := 0) (by decide) h0 h1) 2 (gS wj_9 wj_10 wj_3 wj_11) rfl rfl rfl (by decide +kernel) ⟨Nat.le_of_ble_eq_true rfl, Nat.le_of_ble_eq_true rfl⟩ rfl rfl (Nat.le_of_ble_eq_true rfl) ⟨Nat.zero_le _, Nat.zero_le _⟩ dJ1_charAt_3b067_3 6 rfl ?_
  refine v_aload_n X dJ1_charAt_3b067_6 0 rfl rfl 7 rfl ?_
  refine v_iload_n X dJ1_charAt_3b067_7 1 rfl rfl 8 rfl ?_
  refine v_tb X dJ1_charAt_3b067_8 T.2.2.2 hin rfl 9 rfl ?_
  refine v_sipush X (v := 255) dJ1_charAt_3b067_9 (by decide) 12 rfl ?_
  refine v_iand X dJ1_charAt_3b067_12 13 rfl ?_
  refine v_i2c X dJ1_charAt_3b067_13 14 rfl ?_
  exact v_zret X (Nat.zero_le _) (Nat.zero_le _) (nar_ch _) dJ1_charAt_3b067_14
set_option maxRecDepth 100000 in
set_option maxHeartbeats 4000000 in
theorem cs_J0_charAt (l : Launch) {G : (Nat → Prop) → State → Heap → Prop} (hG : vG G) (D : va_G) (c9 : Nat → ClassId) {sk sv : Nat → Nat} (hGU : ∀ (A : Nat → Prop) (U : State) (H : Heap), G A U H → vU sk sv A U H) {q t : Nat} {M : List Nat} (hGT : ∀ (A : Nat → Prop) (U : State) (H : Heap), G A U H → vStr q t M.length (fun j => nI (M.getD j 0)) A U H) (hn : M.length < 2 ^ 31) {k : Int32} (h0 : ¬ k < 0) (hk : k.toNatClampNeg < M.length) : mI l yJ0_charAt_5068e (wq yJ0_charAt_5068e cJ0_charAt_5068e 2 (some .char)) { frames := 3, cells := 0, slots := 0, locals := 120 } G D (tyA c9) [.ref q, .int k] [] [] 0 0 (chv (fun j => nI (M.getD j 0)) k.toNatClampNeg) [] := by
  refine mI_of hG (cc := cJ0_charAt_5068e) (maxL := 2) (ty := .char) (by decide) rfl (Nat.le_of_ble_eq_true rfl) ?_
  intro p e s m args below meth c A X
  have X : vX p s m args meth c cJ0_charAt_5068e 2 (some .char) RJ0 (wq yJ0_charAt_5068e cJ0_charAt_5068e 2 (some .char)) D (tyA c9) G A := X
  have U := hGU A s s.heap X.2.2.2.2.2.2.2.2.2.2
  have T := hGT A s s.heap X.2.2.2.2.2.2.2.2.2.2
  refine v_eq (lv2 := [(0, .ref q), (1, .int k)]) rfl rfl rfl rfl ?_
  refine v_aload_n X dJ0_charAt_5068e_0 0 rfl rfl 1 rfl ?_
  refine v_callEi X (C := RJ0) (As := []) (rest := []) (cs_J0_isLatin1 l hG D c9 hGU hGT hn) 0 (gV wj_12 wj_13 wj_14 wj_3 wj_15) rfl rfl rfl ⟨rfl, by decide +kernel⟩ ⟨Nat.le_of_ble_eq_true rfl, Nat.le_of_ble_eq_true rfl⟩ (fun H locs hS => vs_recv T hS) rfl rfl (Nat.le_of_ble_eq_true rfl) ⟨Nat.zero_le _, Nat.zero_le _⟩ dJ0_charAt_5068e_1 4 rfl ?_
  refine v_if_eq X (tgt := 16) dJ0_charAt_5068e_4 rfl 7 rfl (a := none) (b := some ()) (o := ()) (if_neg (by decide)) (fun h => nomatch h) (fun _ => ?_)
  refine v_aload_n X dJ0_charAt_5068e_7 0 rfl rfl 8 rfl ?_
  refine v_kget X dJ0_charAt_5068e_8 T.2.2.1 (mw wj_22) rfl 11 rfl ?_
  refine v_iload_n X dJ0_charAt_5068e_11 1 rfl rfl 12 rfl ?_
  refine v_callZi X (As := [.ref t, .int k]) (rest := []) (cs_J1_charAt l hG D c9 hGU hGT hn h0 hk) 2 (gS wj_16 wj_17 wj_18 wj_19) rfl rfl rfl (by decide +kernel) ⟨Nat.le_of_ble_eq_true rfl, Nat.le_of_ble_eq_true rfl⟩ rfl rfl (Nat.le_of_ble_eq_true rfl) ⟨Nat.zero_le _, Nat.zero_le _⟩ dJ0_charAt_5068e_12 15 rfl ?_
  exact v_zret X (Nat.zero_le _) (Nat.zero_le _) (nar_ch _) dJ0_charAt_5068e_15
theorem gSU {b cy : Cond} {own : String} {idx : Nat} {y : MethodName} (h1 : Cond.methodLink own idx y ∈ Wg) (h2 : Cond.sameMethod y.cls y.cls y.name y.desc ∈ Wg) (h3 : Cond.superclass own y.cls ∈ Wg) (h6 : Cond.instanceMethod y ∈ Wg) (h4 : Cond.initialized y.cls ∈ Wg) (h5 : cy ∈ Wg) : GoodIn (b :: Wg) (va_wsSU own idx y (cy :: Wg)) := by
  intro w h
  unfold va_wsSU at h
  rcases List.mem_append.mp h with h | h
  · simp only [List.mem_cons, List.not_mem_nil, or_false] at h
    rcases h with rfl | rfl | rfl | rfl | rfl
    · exact wg_one h1
    · exact wg_one h2
    · exact wg_one h3
    · exact wg_one h6
    · exact wg_one h4
  · exact wg_sub cy h5 b w h
theorem gO {b cy : Cond} {own C owner : String} {idx : Nat} {x y : MethodName} (h1 : Cond.methodLink own idx x ∈ Wg) (h2 : Cond.sameMethod x.cls owner x.name x.desc ∈ Wg) (h7 : Cond.instanceMethod ⟨owner, x.name, x.desc⟩ ∈ Wg) (h3 : Cond.selects C x y ∈ Wg) (h6 : Cond.instanceMethod y ∈ Wg) (h4 : Cond.initialized y.cls ∈ Wg) (h5 : cy ∈ Wg) : GoodIn (b :: Wg) (va_wsO own idx C owner x y (cy :: Wg)) := by
  intro w h
  unfold va_wsO at h
  rcases List.mem_append.mp h with h | h
  · simp only [List.mem_cons, List.not_mem_nil, or_false] at h
    rcases h with rfl | rfl | rfl | rfl | rfl | rfl
    · exact wg_one h1
    · exact wg_one h2
    · exact wg_one h7
    · exact wg_one h3
    · exact wg_one h6
    · exact wg_one h4
  · exact wg_sub cy h5 b w h
/-- the cells of a builder: its letters, one byte each -/
abbrev wSB (c9 : Nat → ClassId) (a v cap : Nat) (cnt : Int32) (f : Nat → Int32) : va_W := [(a, .inr (1, [.ref v, .int 0, .int 0, .int cnt])), (v, .inl (c9 2, cap, .inl f))]
/-- a builder's state behind L: where its bytes are, how many it has room for, what they hold -/
abbrev SBt : Type := Nat × Nat × (Nat → Int32)
abbrev SBx (c9 : Nat → ClassId) (a : Nat) (L : List Nat) (u : SBt) : va_W := wSB c9 a u.1 u.2.1 (nI L.length) u.2.2
def SBp (L : List Nat) (u : SBt) : Prop := L.length ≤ u.2.1 ∧ u.2.1 ≤ 700 ∧ sb_Fit u.2.2 ∧ ∀ j, j < L.length → u.2.2 j = nI (L.getD j 0)
theorem imax_nI {a b : Nat} (ha : a < 2 ^ 31) (hb : b < 2 ^ 31) : imax (nI a) (nI b) = nI (max a b) := by
  unfold imax
  by_cases h : a < b
  · rw [if_pos (nI_lt h hb), Nat.max_eq_right (Nat.le_of_lt h)]
  · rw [if_neg (nI_nlt (Nat.le_of_not_lt h) ha), Nat.max_eq_left (Nat.le_of_not_lt h)]
theorem imin_nI {a b : Nat} (ha : a < 2 ^ 31) (hb : b < 2 ^ 31) : imin (nI a) (nI b) = nI (min a b) := by
  unfold imin
  by_cases h : b < a
  · rw [if_pos (nI_lt h ha), Nat.min_eq_right (Nat.le_of_lt h)]
  · rw [if_neg (nI_nlt (Nat.le_of_not_lt h) hb), Nat.min_eq_left (Nat.le_of_not_lt h)]
theorem wr_nI {f : Nat → Int32} {n k : Nat} {v : Int32} (h : k < n) (hn : n < 2 ^ 31) : wr f n (nI k) v = some (upd f k v) := by
  have h9 := vp_in_nI h hn
  unfold vp_in at h9
  unfold wr
  rw [if_neg h9, nI_clamp (by omega)]
theorem fits7 : ∀ c, c < 128 → fits .byte (.int (nI c)) = true := by decide +kernel
theorem byte7 : ∀ c, c < 128 → (nI c).toInt8.toInt32.toInt8.toInt32 = nI c := by decide +kernel
theorem fitM {M : List Nat} (hM : ∀ x ∈ M, x < 128) (j : Nat) : fits .byte (.int (nI (M.getD j 0))) = true := by
  by_cases h : j < M.length
  · rw [List.getD_eq_getElem?_getD, List.getElem?_eq_getElem h]
    exact fits7 _ (hM _ (List.getElem_mem h))
  · rw [List.getD_eq_getElem?_getD, List.getElem?_eq_none (by omega)]
    exact fits7 0 (by omega)
theorem getD_lo {L M : List Nat} {j : Nat} (h : j < L.length) : (L ++ M).getD j 0 = L.getD j 0 := by
  rw [List.getD_eq_getElem?_getD, List.getD_eq_getElem?_getD, List.getElem?_append_left h]
theorem getD_hi {L M : List Nat} {j : Nat} : (L ++ M).getD (L.length + j) 0 = M.getD j 0 := by
  rw [List.getD_eq_getElem?_getD, List.getD_eq_getElem?_getD, List.getElem?_append_right (by omega), Nat.add_sub_cancel_left]
/-- letters put behind L -/
theorem SBp_put {L M : List Nat} {v cap : Nat} {f f' : Nat → Int32} (h : L.length + M.length ≤ cap) (h7 : cap ≤ 700) (hf : sb_Fit f') (hlo : ∀ j, j < L.length → f' j = f j) (hL : ∀ j, j < L.length → f j = nI (L.getD j 0)) (hhi : ∀ j, j < M.length → f' (L.length + j) = nI (M.getD j 0)) : SBp (L ++ M) (v, cap, f') := by
  refine ⟨by rw [List.length_append]; exact h, h7, hf, fun j hj => ?_⟩
  rw [List.length_append] at hj
  by_cases h9 : j < L.length
  · rw [getD_lo h9, ← hL j h9]
    exact hlo j h9
  · obtain ⟨i, rfl⟩ : ∃ i, j = L.length + i := ⟨j - L.length, by omega⟩
    rw [getD_hi]
    exact hhi i (by omega)
/-- decimal digits -/
def dgs (x : Nat) : List Nat := if x < 10 then [48 + x] else if x < 100 then [48 + x / 10, 48 + x % 10] else if x < 1000 then [48 + x / 100, 48 + x / 10 % 10, 48 + x % 10] else [48 + x / 1000, 48 + x / 100 % 10, 48 + x / 10 % 10, 48 + x % 10]
theorem dgs_lt {x : Nat} (h : x < 1024) : ∀ c ∈ dgs x, c < 128 := by
  intro c hc
  unfold dgs at hc
  repeat' split at hc
  all_goals (simp only [List.mem_cons, List.not_mem_nil, or_false] at hc; omega)
set_option maxRecDepth 100000 in
set_option maxHeartbeats 4000000 in
theorem c_getBytes (l : Launch) {G : (Nat → Prop) → State → Heap → Prop} (hG : vG G) (D : va_G) (c9 : Nat → ClassId) {sk sv : Nat → Nat} (hGU : ∀ (A : Nat → Prop) (U : State) (H : Heap), G A U H → vU sk sv A U H) {q t : Nat} {M : List Nat} (hGT : ∀ (A : Nat → Prop) (U : State) (H : Heap), G A U H → vStr q t M.length (fun j => nI (M.getD j 0)) A U H) (hn : M.length < 2 ^ 31) (hM : ∀ x ∈ M, x < 128) {v cap k : Nat} {f : Nat → Int32} (hk : k + M.length ≤ cap) (hcap : cap ≤ 700) {F : va_W} : mN (S := Unit) l yJ0_getBytes_840e7 (wq yJ0_getBytes_840e7 cJ0_getBytes_840e7 4 none) { frames := 1, cells := 0, slots := 0, locals := 60 } G D (tyA c9) [.ref q, .ref v, .int (nI k), .int 0] [(v, .inl (c9 2, cap, .inl f))] F 0 0 (fun _ => True) (fun _ => [(v, .inl (c9 2, cap, .inl (va_cpy (fun j => nI (M.getD j 0)) f 0 k M.length)))] ++ F) := by
  refine mN_of hG (cc := cJ0_getBytes_840e7) (maxL := 4) (by decide) rfl (Nat.le_of_ble_eq_true rfl) ?_
  intro p e s m args below meth c A hnm X
  have X : vX p s m args meth c cJ0_getBytes_840e7 4 none RJ0 (wq yJ0_getBytes_840e7 cJ0_getBytes_840e7 4 none) D (tyA c9) G A := X
  have T := hGT A s s.heap X.2.2.2.2.2.2.2.2.2.2
  refine v_eq (lv2 := [(0, .ref q), (1, .ref v), (2, .int (nI k)), (3, .int 0)]) rfl rfl rfl rfl ?_
  refine v_aload_n X dJ0_getBytes_840e7_0 0 rfl rfl 1 rfl ?_
  refine v_callEi X (C := RJ0) (As := []) (rest := []) (cs_J0_coder l hG D c9 hGU hGT hn) 0 (gV wq_0 wq_1 wq_2 wq_3 wq_4) rfl rfl rfl ⟨rfl, by decide +kernel⟩ ⟨Nat.le_of_ble_eq_true rfl, Nat.le_of_ble_eq_true rfl⟩ (fun H locs hS => vs_recv T hS) rfl rfl (Nat.le_of_ble_eq_true rfl) ⟨(by first | exact Nat.le_of_ble_eq_true rfl | omega | (dsimp only; omega)), (by first | exact Nat.le_of_ble_eq_true rfl | omega | (dsimp only; omega))⟩ dJ0_getBytes_840e7_1 4 rfl ?_
  refine v_iload_n X dJ0_getBytes_840e7_4 3 rfl rfl 5 rfl ?_
  refine v_icmp_ne X (tgt := 28) dJ0_getBytes_840e7_5 rfl 8 rfl (a := none) (b := some ()) (o := ()) (if_pos rfl) (fun h => nomatch h) (fun _ => ?_)
  refine v_aload_n X dJ0_getBytes_840e7_8 0 rfl rfl 9 rfl ?_
  refine v_kget X dJ0_getBytes_840e7_9 T.2.2.1 (mw wq_5) rfl 12 rfl ?_
  refine v_iconst X dJ0_getBytes_840e7_12 ic_0 13 rfl ?_
  refine v_aload_n X dJ0_getBytes_840e7_13 1 rfl rfl 14 rfl ?_
  refine v_iload_n X dJ0_getBytes_840e7_14 2 rfl rfl 15 rfl ?_
  refine v_iload_n X dJ0_getBytes_840e7_15 3 rfl rfl 16 rfl ?_
  refine v_ishl X dJ0_getBytes_840e7_16 17 rfl ?_
  rw [sb_shl0]
  refine v_aload_n X dJ0_getBytes_840e7_17 0 rfl rfl 18 rfl ?_
  refine v_kget X dJ0_getBytes_840e7_18 T.2.2.1 (mw wq_5) rfl 21 rfl ?_
  refine v_tlen X (v := nI M.length) dJ0_getBytes_840e7_21 T.2.2.2 rfl 22 rfl ?_
  refine v_copyt X (ws' := [(v, .inl (c9 2, cap, .inl (va_cpy (fun j => nI (M.getD j 0)) f 0 k M.length)))]) dJ0_getBytes_840e7_22 (mw wq_6) (mw wq_7) (mw wq_8) (mw wq_9) T.2.2.2 0 2 rfl rfl (by decide) (nI_pos (by omega)) (nI_pos (by omega)) (by rw [sb_cl0, nI_clamp (by omega)]; omega) (by rw [nI_clamp (by omega), nI_clamp (by omega)]; exact hk) (fitM hM) (by rw [sb_cl0, nI_clamp (by omega), nI_clamp (by omega)]; rfl) (Nat.le_of_ble_eq_true rfl) (Nat.le_of_ble_eq_true rfl) 25 rfl ?_
  refine v_goto X (tgt := 43) dJ0_getBytes_840e7_25 rfl ?_
  exact v_nret () trivial (List.Perm.refl _) X (by first | exact Nat.le_of_ble_eq_true rfl | omega | (dsimp only; omega)) (by first | exact Nat.le_of_ble_eq_true rfl | omega | (dsimp only; omega)) dJ0_getBytes_840e7_43
set_option maxRecDepth 100000 in
set_option maxHeartbeats 4000000 in
theorem c_SBlatin (l : Launch) {G : (Nat → Prop) → State → Heap → Prop} (hG : vG G) (D : va_G) (c9 : Nat → ClassId) {sk sv : Nat → Nat} (hGU : ∀ (A : Nat → Prop) (U : State) (H : Heap), G A U H → vU sk sv A U H) {a v cap : Nat} {cnt : Int32} {f : Nat → Int32} {F : va_W} : mH (S := Unit) l yJ5_isLatin1_aae02 (wq yJ5_isLatin1_aae02 cJ5_isLatin1_aae02 1 (some .boolean)) { frames := 0, cells := 0, slots := 0, locals := 0 } G D (tyA c9) [.ref a] ((wSB c9 a v cap cnt f) ++ F) 0 0 1 (fun _ => True) (fun _ => (wSB c9 a v cap cnt f) ++ F) := by
  refine mJ_of hG (cc := cJ5_isLatin1_aae02) (maxL := 1) (ty := .boolean) (by decide) rfl (Nat.le_of_ble_eq_true rfl) ?_
  intro p e s m args below meth c A X
  have X : vX p s m args meth c cJ5_isLatin1_aae02 1 (some .boolean) RJ5 (wq yJ5_isLatin1_aae02 cJ5_isLatin1_aae02 1 (some .boolean)) D (tyA c9) G A := X
  refine v_eq (lv2 := [(0, .ref a)]) rfl rfl rfl rfl ?_
  refine v_gets X dJ5_isLatin1_aae02_0 (hGU A s s.heap X.2.2.2.2.2.2.2.2.2.2).2.2.1 (mw wq_10) rfl 3 rfl ?_
  refine v_if_eq X (tgt := 17) dJ5_isLatin1_aae02_3 rfl 6 rfl (a := none) (b := some ()) (o := ()) (if_neg (by decide)) (fun h => nomatch h) (fun _ => ?_)
  refine v_aload_n X dJ5_isLatin1_aae02_6 0 rfl rfl 7 rfl ?_
  refine v_get X (C := RJ4) (T := TJ4) (N := 4) (ci := 1) (v := _) dJ5_isLatin1_aae02_7 (lay_of layq_J4) 0 rfl rfl 1 (by decide) (mw wq_11) rfl rfl 10 rfl ?_
  refine v_if_ne X (tgt := 17) dJ5_isLatin1_aae02_10 rfl 13 rfl (a := none) (b := some ()) (o := ()) (if_pos rfl) (fun h => nomatch h) (fun _ => ?_)
  refine v_iconst X dJ5_isLatin1_aae02_13 ic_1 14 rfl ?_
  refine v_goto X (tgt := 18) dJ5_isLatin1_aae02_14 rfl ?_
  exact v_jzret () trivial rfl nz1 (List.Perm.refl _) X (by first | exact Nat.le_of_ble_eq_true rfl | omega | (dsimp only; omega)) (by first | exact Nat.le_of_ble_eq_true rfl | omega | (dsimp only; omega)) dJ5_isLatin1_aae02_18
set_option maxRecDepth 100000 in
set_option maxHeartbeats 4000000 in
theorem c_newLength (l : Launch) {G : (Nat → Prop) → State → Heap → Prop} (hG : vG G) (D : va_G) (c9 : Nat → ClassId) {sk sv : Nat → Nat} (hGU : ∀ (A : Nat → Prop) (U : State) (H : Heap), G A U H → vU sk sv A U H) {x b z : Nat} (h0 : 0 < x + max b z) (h1 : x + max b z < 2 ^ 30) : mI l yJ8_newLength_cabcc (wq yJ8_newLength_cabcc cJ8_newLength_cabcc 4 (some .int)) { frames := 1, cells := 0, slots := 0, locals := 40 } G D (tyA c9) [.int (nI x), .int (nI b), .int (nI z)] [] [] 0 0 (nI (x + max b z)) [] := by
  refine mI_of hG (cc := cJ8_newLength_cabcc) (maxL := 4) (ty := .int) (by decide) rfl (Nat.le_of_ble_eq_true rfl) ?_
  intro p e s m args below meth c A X
  have X : vX p s m args meth c cJ8_newLength_cabcc 4 (some .int) RJ8 (wq yJ8_newLength_cabcc cJ8_newLength_cabcc 4 (some .int)) D (tyA c9) G A := X
  refine v_eq (lv2 := [(0, .int (nI x)), (1, .int (nI b)), (2, .int (nI z))]) rfl rfl rfl rfl ?_
  refine v_iload_n X dJ8_newLength_cabcc_0 0 rfl rfl 1 rfl ?_
  refine v_iload_n X dJ8_newLength_cabcc_1 1 rfl rfl 2 rfl ?_
  refine v_iload_n X dJ8_newLength_cabcc_2 2 rfl rfl 3 rfl ?_
  refine v_mmax X dJ8_newLength_cabcc_3 (mw wq_16) (mw wq_17) (mw wq_18) (mw wq_19) (Nat.le_of_ble_eq_true rfl) (Nat.le_of_ble_eq_true rfl) (by first | exact Nat.le_of_ble_eq_true rfl | omega | (dsimp only; omega)) (by first | exact Nat.le_of_ble_eq_true rfl | omega | (dsimp only; omega)) 6 rfl ?_
  rw [imax_nI (by omega) (by omega)]
  refine v_iadd X dJ8_newLength_cabcc_6 7 rfl ?_
  rw [nI_add]
  refine v_istore_n X (lv' := [(3, .int (nI (x + max b z))), (0, .int (nI x)), (1, .int (nI b)), (2, .int (nI z))]) dJ8_newLength_cabcc_7 rfl (by decide) rfl 8 rfl ?_
  refine v_iconst X dJ8_newLength_cabcc_8 ic_0 9 rfl ?_
  refine v_iload_n X dJ8_newLength_cabcc_9 0 rfl rfl 10 rfl ?_
  refine v_icmp_ge X (tgt := 21) dJ8_newLength_cabcc_10 rfl 13 rfl (a := none) (b := some ()) (o := ()) (if_neg (nI_nle h0 (by omega))) (fun h => nomatch h) (fun _ => ?_)
  refine v_iload_n X dJ8_newLength_cabcc_13 0 rfl rfl 14 rfl ?_
  refine v_ldc X dJ8_newLength_cabcc_14 (X.2.2.2.2.2.1 _ (mw wq_20)) 16 rfl ?_
  refine v_icmp_gt X (tgt := 21) dJ8_newLength_cabcc_16 rfl 19 rfl (a := none) (b := some ()) (o := ()) (if_neg (show ¬ nI 2147483639 < nI (x + max b z) from nI_nlt (by omega) (by decide))) (fun h => nomatch h) (fun _ => ?_)
  refine v_iload_n X dJ8_newLength_cabcc_19 0 rfl rfl 20 rfl ?_
  exact v_iret X (by first | exact Nat.le_of_ble_eq_true rfl | omega | (dsimp only; omega)) (by first | exact Nat.le_of_ble_eq_true rfl | omega | (dsimp only; omega)) dJ8_newLength_cabcc_20
set_option maxRecDepth 100000 in
set_option maxHeartbeats 4000000 in
theorem c_newCap (l : Launch) {G : (Nat → Prop) → State → Heap → Prop} (hG : vG G) (D : va_G) (c9 : Nat → ClassId) {sk sv : Nat → Nat} (hGU : ∀ (A : Nat → Prop) (U : State) (H : Heap), G A U H → vU sk sv A U H) {a v cap mn : Nat} {cnt : Int32} {f : Nat → Int32} {F : va_W} (hc : cap < mn) (hm : mn ≤ 300) : mH (S := Unit) l yJ5_newCapacity_0f7a4 (wq yJ5_newCapacity_0f7a4 cJ5_newCapacity_0f7a4 6 (some .int)) { frames := 2, cells := 0, slots := 0, locals := 63 } G D (tyA c9) [.ref a, .int (nI mn)] ((wSB c9 a v cap cnt f) ++ F) 0 0 (nI (max mn (2 * cap + 2))) (fun _ => True) (fun _ => (wSB c9 a v cap cnt f) ++ F) := by
  refine mJ_of hG (cc := cJ5_newCapacity_0f7a4) (maxL := 6) (ty := .int) (by decide) rfl (Nat.le_of_ble_eq_true rfl) ?_
  intro p e s m args below meth c A X
  have X : vX p s m args meth c cJ5_newCapacity_0f7a4 6 (some .int) RJ5 (wq yJ5_newCapacity_0f7a4 cJ5_newCapacity_0f7a4 6 (some .int)) D (tyA c9) G A := X
  refine v_eq (lv2 := [(0, .ref a), (1, .int (nI mn))]) rfl rfl rfl rfl ?_
  refine v_aload_n X dJ5_newCapacity_0f7a4_0 0 rfl rfl 1 rfl ?_
  refine v_get X (C := RJ4) (T := TJ4) (N := 4) (ci := 1) (v := _) dJ5_newCapacity_0f7a4_1 (lay_of layq_J4) 0 rfl rfl 0 (by decide) (mw wq_21) rfl rfl 4 rfl ?_
  refine v_alen X dJ5_newCapacity_0f7a4_4 1 2 rfl rfl rfl 5 rfl ?_
  refine v_istore_n X (lv' := [(2, .int (Int32.ofNat cap)), (0, .ref a), (1, .int (nI mn))]) dJ5_newCapacity_0f7a4_5 rfl (by decide) rfl 6 rfl ?_
  refine v_iload_n X dJ5_newCapacity_0f7a4_6 2 rfl rfl 7 rfl ?_
  refine v_aload_n X dJ5_newCapacity_0f7a4_7 1 rfl rfl 8 rfl ?_
  refine v_get X (C := RJ4) (T := TJ4) (N := 4) (ci := 1) (v := _) dJ5_newCapacity_0f7a4_8 (lay_of layq_J4) 0 rfl rfl 1 (by decide) (mw wq_11) rfl rfl 11 rfl ?_
  refine v_ishl X dJ5_newCapacity_0f7a4_11 12 rfl ?_
  rw [sb_shl0]
  refine v_istore_n X (lv' := [(3, .int (nI mn)), (2, .int (Int32.ofNat cap)), (0, .ref a), (1, .int (nI mn))]) dJ5_newCapacity_0f7a4_12 rfl (by decide) rfl 13 rfl ?_
  refine v_iload_n X dJ5_newCapacity_0f7a4_13 0 rfl rfl 14 rfl ?_
  refine v_iload_n X dJ5_newCapacity_0f7a4_14 1 rfl rfl 15 rfl ?_
  refine v_isub X dJ5_newCapacity_0f7a4_15 16 rfl ?_
  rw [show nI mn - Int32.ofNat cap = nI (mn - cap) from pk_sub (by omega)]
  refine v_istore X (lv' := [(4, .int (nI (mn - cap))), (3, .int (nI mn)), (2, .int (Int32.ofNat cap)), (0, .ref a), (1, .int (nI mn))]) dJ5_newCapacity_0f7a4_16 (by decide) rfl 18 rfl ?_
  refine v_iload_n X dJ5_newCapacity_0f7a4_18 2 rfl rfl 19 rfl ?_
  refine v_iload X dJ5_newCapacity_0f7a4_19 0 rfl 21 rfl ?_
  refine v_iload_n X dJ5_newCapacity_0f7a4_21 2 rfl rfl 22 rfl ?_
  refine v_iconst X dJ5_newCapacity_0f7a4_22 ic_2 23 rfl ?_
  refine v_aload_n X dJ5_newCapacity_0f7a4_23 3 rfl rfl 24 rfl ?_
  refine v_get X (C := RJ4) (T := TJ4) (N := 4) (ci := 1) (v := _) dJ5_newCapacity_0f7a4_24 (lay_of layq_J4) 0 rfl rfl 1 (by decide) (mw wq_11) rfl rfl 27 rfl ?_
  refine v_ishl X dJ5_newCapacity_0f7a4_27 28 rfl ?_
  rw [sb_shl0]
  refine v_iadd X dJ5_newCapacity_0f7a4_28 29 rfl ?_
  rw [show Int32.ofNat cap + 2 = nI (cap + 2) from nI_add cap 2]
  refine v_callZi X (As := [.int (nI cap), .int (nI (mn - cap)), .int (nI (cap + 2))]) (rest := []) (c_newLength l hG D c9 hGU (x := cap) (b := mn - cap) (z := cap + 2) (by omega) (by omega)) 3 (gS wq_22 wq_23 wq_24 wq_25) rfl rfl rfl (by decide +kernel) ⟨Nat.le_of_ble_eq_true rfl, Nat.le_of_ble_eq_true rfl⟩ rfl rfl (Nat.le_of_ble_eq_true rfl) ⟨(by first | exact Nat.le_of_ble_eq_true rfl | omega | (dsimp only; omega)), (by first | exact Nat.le_of_ble_eq_true rfl | omega | (dsimp only; omega))⟩ dJ5_newCapacity_0f7a4_29 32 rfl ?_
  refine v_istore X (lv' := [(5, .int (nI (cap + max (mn - cap) (cap + 2)))), (4, .int (nI (mn - cap))), (3, .int (nI mn)), (2, .int (Int32.ofNat cap)), (0, .ref a), (1, .int (nI mn))]) dJ5_newCapacity_0f7a4_32 (by decide) rfl 34 rfl ?_
  refine v_iload X dJ5_newCapacity_0f7a4_34 0 rfl 36 rfl ?_
  refine v_ldc X dJ5_newCapacity_0f7a4_36 (X.2.2.2.2.2.1 _ (mw wq_26)) 38 rfl ?_
  refine v_icmp_ne X (tgt := 51) dJ5_newCapacity_0f7a4_38 rfl 41 rfl (a := some ()) (b := none) (o := ()) (if_neg (show ¬ nI (cap + max (mn - cap) (cap + 2)) = nI 2147483647 from fun z9 => by have := (nI_eq (by omega) (by decide)).mp z9; omega)) (fun _ => ?_) (fun h => nomatch h)
  refine v_iload X dJ5_newCapacity_0f7a4_51 0 rfl 53 rfl ?_
  refine v_aload_n X dJ5_newCapacity_0f7a4_53 4 rfl rfl 54 rfl ?_
  refine v_get X (C := RJ4) (T := TJ4) (N := 4) (ci := 1) (v := _) dJ5_newCapacity_0f7a4_54 (lay_of layq_J4) 0 rfl rfl 1 (by decide) (mw wq_11) rfl rfl 57 rfl ?_
  refine v_ishr X dJ5_newCapacity_0f7a4_57 58 rfl ?_
  rw [sb_shr0]
  exact v_jret () trivial (congrArg nI (by omega)) (List.Perm.refl _) X (by first | exact Nat.le_of_ble_eq_true rfl | omega | (dsimp only; omega)) (by first | exact Nat.le_of_ble_eq_true rfl | omega | (dsimp only; omega)) dJ5_newCapacity_0f7a4_58
set_option maxRecDepth 100000 in
set_option maxHeartbeats 4000000 in
theorem c_copyOf (l : Launch) {G : (Nat → Prop) → State → Heap → Prop} (hG : vG G) (D : va_G) (c9 : Nat → ClassId) {sk sv : Nat → Nat} (hGU : ∀ (A : Nat → Prop) (U : State) (H : Heap), G A U H → vU sk sv A U H) {v cap nl : Nat} {f : Nat → Int32} {F : va_W} (hc : cap < nl) (hm : nl ≤ 700) (hf : sb_Fit f) : mR (S := Nat) l yJ7_copyOf_9075b (wq yJ7_copyOf_9075b cJ7_copyOf_9075b 3 (some (.array .byte))) { frames := 1, cells := 1, slots := 700, locals := 60 } G D (tyA c9) [.ref v, .int (nI nl)] ([(v, .inl (c9 2, cap, .inl f))] ++ F) 1 700 (fun _ => True) (fun u => u) (fun u => [(v, .inl (c9 2, cap, .inl f)), (u, .inl (c9 2, nl, .inl (va_cpy f (fun _ => 0) 0 0 cap)))] ++ F) := by
  refine mR_of hG (cc := cJ7_copyOf_9075b) (maxL := 3) (ty := (.array .byte)) (by decide) rfl (Nat.le_of_ble_eq_true rfl) ?_
  intro p e s m args below meth c A X
  have X : vX p s m args meth c cJ7_copyOf_9075b 3 (some (.array .byte)) RJ7 (wq yJ7_copyOf_9075b cJ7_copyOf_9075b 3 (some (.array .byte))) D (tyA c9) G A := X
  refine v_eq (lv2 := [(0, .ref v), (1, .int (nI nl))]) rfl rfl rfl rfl ?_
  refine v_iload_n X dJ7_copyOf_9075b_0 1 rfl rfl 1 rfl ?_
  refine v_aload_n X dJ7_copyOf_9075b_1 0 rfl rfl 2 rfl ?_
  refine v_alen X dJ7_copyOf_9075b_2 0 2 rfl rfl rfl 3 rfl ?_
  refine v_icmp_ne X (tgt := 14) dJ7_copyOf_9075b_3 rfl 6 rfl (a := some ()) (b := none) (o := ()) (if_neg (show ¬ nI nl = nI cap from fun z9 => by have := (nI_eq (by omega) (by omega)).mp z9; omega)) (fun _ => ?_) (fun h => nomatch h)
  refine v_iload_n X dJ7_copyOf_9075b_14 1 rfl rfl 15 rfl ?_
  refine v_newa X (ty := .byte) (a0 := (nl, .inl (fun _ => 0))) dJ7_copyOf_9075b_15 (mw wq_27) rfl 2 rfl (fun _ _ h1 h2 => Option.some.inj (h1.symm.trans h2)) (fun _ => rfl) (nI_pos (by omega)) (nI_clamp (by omega)) (by show nl * 1 ≤ 536870912; omega) (by first | exact Nat.le_of_ble_eq_true rfl | omega | (dsimp only; omega)) (by first | exact Nat.le_of_ble_eq_true rfl | omega | (dsimp only; omega)) 17 rfl (fun u => ?_)
  refine v_eq (ws2 := [(v, .inl (c9 2, cap, .inl f)), (u, .inl (c9 2, nl, .inl (fun _ => 0)))]) (st2 := [.ref u]) rfl rfl rfl rfl ?_
  refine v_astore_n X (lv' := [(2, .ref u), (0, .ref v), (1, .int (nI nl))]) dJ7_copyOf_9075b_17 rfl (by decide) rfl 18 rfl ?_
  refine v_aload_n X dJ7_copyOf_9075b_18 1 rfl rfl 19 rfl ?_
  refine v_iconst X dJ7_copyOf_9075b_19 ic_0 20 rfl ?_
  refine v_aload_n X dJ7_copyOf_9075b_20 0 rfl rfl 21 rfl ?_
  refine v_iconst X dJ7_copyOf_9075b_21 ic_0 22 rfl ?_
  refine v_aload_n X dJ7_copyOf_9075b_22 1 rfl rfl 23 rfl ?_
  refine v_alen X dJ7_copyOf_9075b_23 0 2 rfl rfl rfl 24 rfl ?_
  refine v_iload_n X dJ7_copyOf_9075b_24 2 rfl rfl 25 rfl ?_
  refine v_mmin X dJ7_copyOf_9075b_25 (mw wq_28) (mw wq_29) (mw wq_18) (mw wq_30) (Nat.le_of_ble_eq_true rfl) (Nat.le_of_ble_eq_true rfl) (by first | exact Nat.le_of_ble_eq_true rfl | omega | (dsimp only; omega)) (by first | exact Nat.le_of_ble_eq_true rfl | omega | (dsimp only; omega)) 28 rfl ?_
  rw [show imin (Int32.ofNat cap) (nI nl) = nI cap from (imin_nI (by omega) (by omega)).trans (congrArg nI (by omega))]
  refine v_copyb X (ws' := [(v, .inl (c9 2, cap, .inl f)), (u, .inl (c9 2, nl, .inl (va_cpy f (fun _ => 0) 0 0 cap)))]) dJ7_copyOf_9075b_28 (mw wq_31) (mw wq_7) (mw wq_8) (mw wq_9) 0 1 2 2 rfl rfl rfl rfl (by decide) (by decide) (nI_pos (by omega)) (by rw [sb_cl0, nI_clamp (by omega)]; omega) (by rw [sb_cl0, nI_clamp (by omega)]; omega) hf (by rw [sb_cl0, nI_clamp (by omega)]; rfl) (Nat.le_of_ble_eq_true rfl) (Nat.le_of_ble_eq_true rfl) 31 rfl ?_
  refine v_aload_n X dJ7_copyOf_9075b_31 0 rfl rfl 32 rfl ?_
  exact v_rret u trivial rfl (List.Perm.refl _) X (Or.inr ⟨_, rfl⟩) (by first | exact Nat.le_of_ble_eq_true rfl | omega | (dsimp only; omega)) (by first | exact Nat.le_of_ble_eq_true rfl | omega | (dsimp only; omega)) dJ7_copyOf_9075b_32
set_option maxRecDepth 100000 in
set_option maxHeartbeats 4000000 in
theorem c_ensure (l : Launch) {G : (Nat → Prop) → State → Heap → Prop} (hG : vG G) (D : va_G) (c9 : Nat → ClassId) {sk sv : Nat → Nat} (hGU : ∀ (A : Nat → Prop) (U : State) (H : Heap), G A U H → vU sk sv A U H) {a v cap mn : Nat} {cnt : Int32} {f : Nat → Int32} {F : va_W} (hm : mn ≤ 300) (hm7 : cap ≤ 700) (hf : sb_Fit f) : mN (S := SBt) l yJ5_ensureCapacityInternal_d00df (wq yJ5_ensureCapacityInternal_d00df cJ5_ensureCapacityInternal_d00df 3 none) { frames := 3, cells := 1, slots := 700, locals := 88 } G D (tyA c9) [.ref a, .int (nI mn)] (wSB c9 a v cap cnt f) F 1 700 (fun u => mn ≤ u.2.1 ∧ cap ≤ u.2.1 ∧ u.2.1 ≤ 700 ∧ sb_Fit u.2.2 ∧ ∀ j, j < cap → u.2.2 j = f j) (fun u => wSB c9 a u.1 u.2.1 cnt u.2.2 ++ F) := by
  refine mN_of hG (cc := cJ5_ensureCapacityInternal_d00df) (maxL := 3) (by decide) rfl (Nat.le_of_ble_eq_true rfl) ?_
  intro p e s m args below meth c A hnm X
  have X : vX p s m args meth c cJ5_ensureCapacityInternal_d00df 3 none RJ5 (wq yJ5_ensureCapacityInternal_d00df cJ5_ensureCapacityInternal_d00df 3 none) D (tyA c9) G A := X
  refine v_eq (lv2 := [(0, .ref a), (1, .int (nI mn))]) rfl rfl rfl rfl ?_
  refine v_aload_n X dJ5_ensureCapacityInternal_d00df_0 0 rfl rfl 1 rfl ?_
  refine v_get X (C := RJ4) (T := TJ4) (N := 4) (ci := 1) (v := _) dJ5_ensureCapacityInternal_d00df_1 (lay_of layq_J4) 0 rfl rfl 0 (by decide) (mw wq_21) rfl rfl 4 rfl ?_
  refine v_alen X dJ5_ensureCapacityInternal_d00df_4 1 2 rfl rfl rfl 5 rfl ?_
  refine v_aload_n X dJ5_ensureCapacityInternal_d00df_5 0 rfl rfl 6 rfl ?_
  refine v_get X (C := RJ4) (T := TJ4) (N := 4) (ci := 1) (v := _) dJ5_ensureCapacityInternal_d00df_6 (lay_of layq_J4) 0 rfl rfl 1 (by decide) (mw wq_11) rfl rfl 9 rfl ?_
  refine v_ishr X dJ5_ensureCapacityInternal_d00df_9 10 rfl ?_
  rw [sb_shr0]
  refine v_istore_n X (lv' := [(2, .int (Int32.ofNat cap)), (0, .ref a), (1, .int (nI mn))]) dJ5_ensureCapacityInternal_d00df_10 rfl (by decide) rfl 11 rfl ?_
  refine v_iload_n X dJ5_ensureCapacityInternal_d00df_11 2 rfl rfl 12 rfl ?_
  refine v_iload_n X dJ5_ensureCapacityInternal_d00df_12 0 rfl rfl 13 rfl ?_
  refine v_isub X dJ5_ensureCapacityInternal_d00df_13 14 rfl ?_
  by_cases h : mn ≤ cap
  · refine v_if_le X (tgt := 38) dJ5_ensureCapacityInternal_d00df_14 rfl 17 rfl (a := some ()) (b := none) (o := ()) (if_pos (by rw [Int32.le_iff_toInt_le, show (nI mn - Int32.ofNat cap).toInt = (mn : Int) - cap from pk_sub_toInt (by omega) (by omega), Int32.toInt_zero]; omega)) (fun _ => ?_) (fun h => nomatch h)
    exact v_nret (v, cap, f) ⟨h, Nat.le_refl _, hm7, hf, fun _ _ => rfl⟩ (List.Perm.refl _) X (by first | exact Nat.le_of_ble_eq_true rfl | omega | (dsimp only; omega)) (by first | exact Nat.le_of_ble_eq_true rfl | omega | (dsimp only; omega)) dJ5_ensureCapacityInternal_d00df_38
  · refine v_if_le X (tgt := 38) dJ5_ensureCapacityInternal_d00df_14 rfl 17 rfl (a := none) (b := some ()) (o := ()) (if_neg (by rw [Int32.le_iff_toInt_le, show (nI mn - Int32.ofNat cap).toInt = (mn : Int) - cap from pk_sub_toInt (by omega) (by omega), Int32.toInt_zero]; omega)) (fun h => nomatch h) (fun _ => ?_)
    refine v_aload_n X dJ5_ensureCapacityInternal_d00df_17 1 rfl rfl 18 rfl ?_
    refine v_aload_n X dJ5_ensureCapacityInternal_d00df_18 1 rfl rfl 19 rfl ?_
    refine v_get X (C := RJ4) (T := TJ4) (N := 4) (ci := 1) (v := _) dJ5_ensureCapacityInternal_d00df_19 (lay_of layq_J4) 0 rfl rfl 0 (by decide) (mw wq_21) rfl rfl 22 rfl ?_
    refine v_aload_n X dJ5_ensureCapacityInternal_d00df_22 1 rfl rfl 23 rfl ?_
    refine v_iload_n X dJ5_ensureCapacityInternal_d00df_23 2 rfl rfl 24 rfl ?_
    refine v_gj X (S := Unit) (ws' := fun _u => [(a, .inr (1, [.ref v, .int 0, .int 0, .int cnt])), (v, .inl (c9 2, cap, .inl f))]) (F' := fun _u => F) (r_U X (C := RJ4) (owner := "java/lang/AbstractStringBuilder") (As := [.int (nI mn)]) (rest := [.ref v, .ref a]) (r_pc X) (c_newCap l hG D c9 hGU (a := a) (v := v) (cap := cap) (mn := mn) (cnt := cnt) (f := f) (by omega) (by omega)) 1 (gU wq_32 wq_33 wq_34 wq_35 wq_36 wq_37) rfl rfl rfl rfl (by decide +kernel) ⟨Nat.le_of_ble_eq_true rfl, Nat.le_of_ble_eq_true rfl⟩ (r_recv X 0 rfl rfl) rfl rfl (Nat.le_of_ble_eq_true rfl) ⟨(by first | exact Nat.le_of_ble_eq_true rfl | omega | (dsimp only; omega)), (by first | exact Nat.le_of_ble_eq_true rfl | omega | (dsimp only; omega))⟩ dJ5_ensureCapacityInternal_d00df_24) (fun _ => rfl) 27 rfl (fun _u _ => ?_)
    refine v_aload_n X dJ5_ensureCapacityInternal_d00df_27 1 rfl rfl 28 rfl ?_
    refine v_get X (C := RJ4) (T := TJ4) (N := 4) (ci := 1) (v := _) dJ5_ensureCapacityInternal_d00df_28 (lay_of layq_J4) 0 rfl rfl 1 (by decide) (mw wq_11) rfl rfl 31 rfl ?_
    refine v_ishl X dJ5_ensureCapacityInternal_d00df_31 32 rfl ?_
    rw [sb_shl0]
    refine v_perm (ws' := [(v, .inl (c9 2, cap, .inl f))]) (F' := (a, .inr (1, [.ref v, .int 0, .int 0, .int cnt])) :: F) (List.Perm.swap _ _ _) ?_
    refine v_gr X (S := Nat) (ws' := fun u => [(v, .inl (c9 2, cap, .inl f)), (u, .inl (c9 2, (max mn (2 * cap + 2)), .inl (va_cpy f (fun _ => 0) 0 0 cap)))]) (F' := fun u => (a, .inr (1, [.ref v, .int 0, .int 0, .int cnt])) :: F) (r_S X (As := [.ref v, .int (nI (max mn (2 * cap + 2)))]) (rest := [.ref a]) (r_pc X) (c_copyOf l hG D c9 hGU (v := v) (cap := cap) (nl := (max mn (2 * cap + 2))) (f := f) (by omega) (by omega) hf) 2 (gS wq_38 wq_39 wq_40 wq_41) rfl rfl rfl (by decide +kernel) ⟨Nat.le_of_ble_eq_true rfl, Nat.le_of_ble_eq_true rfl⟩ rfl rfl (Nat.le_of_ble_eq_true rfl) ⟨(by first | exact Nat.le_of_ble_eq_true rfl | omega | (dsimp only; omega)), (by first | exact Nat.le_of_ble_eq_true rfl | omega | (dsimp only; omega))⟩ dJ5_ensureCapacityInternal_d00df_32) (fun _ => rfl) 35 rfl (fun u _ => ?_)
    refine v_perm (ws' := [(a, .inr (1, [.ref v, .int 0, .int 0, .int cnt])), (v, .inl (c9 2, cap, .inl f)), (u, .inl (c9 2, (max mn (2 * cap + 2)), .inl (va_cpy f (fun _ => 0) 0 0 cap)))]) (F' := F) (List.perm_middle (l₁ := ([(v, .inl (c9 2, cap, .inl f)), (u, .inl (c9 2, (max mn (2 * cap + 2)), .inl (va_cpy f (fun _ => 0) 0 0 cap)))] : va_W))) ?_
    refine v_put X (C := RJ4) (T := TJ4) (N := 4) (ci := 1) (ty := tyJ4 0) (ws' := [(a, .inr (1, [.ref u, .int 0, .int 0, .int cnt])), (v, .inl (c9 2, cap, .inl f)), (u, .inl (c9 2, (max mn (2 * cap + 2)), .inl (va_cpy f (fun _ => 0) 0 0 cap)))]) dJ5_ensureCapacityInternal_d00df_35 (lay_of layq_J4) 0 rfl rfl 0 (by decide) tyJ4 tyJ4_ok nmJ4 (mw wq_21) rfl rfl (tyJ4_ok 0 (by decide)) rfl rfl (Nat.le_of_ble_eq_true rfl) rfl 38 rfl ?_
    refine v_pick (ws' := [(a, .inr (1, [.ref u, .int 0, .int 0, .int cnt])), (u, .inl (c9 2, (max mn (2 * cap + 2)), .inl (va_cpy f (fun _ => 0) 0 0 cap)))]) [0, 2] rfl rfl ?_
    exact v_nret (u, max mn (2 * cap + 2), va_cpy f (fun _ => 0) 0 0 cap) ⟨by show mn ≤ max mn (2 * cap + 2); omega, by show cap ≤ max mn (2 * cap + 2); omega, by show max mn (2 * cap + 2) ≤ 700; omega, sb_fitC hf sb_fit0, fun j hj => (show va_cpy f (fun _ => 0) 0 0 cap j = f j from sb_cpy0 hj)⟩ (List.Perm.refl _) X (by first | exact Nat.le_of_ble_eq_true rfl | omega | (dsimp only; omega)) (by first | exact Nat.le_of_ble_eq_true rfl | omega | (dsimp only; omega)) dJ5_ensureCapacityInternal_d00df_38
set_option maxRecDepth 100000 in
set_option maxHeartbeats 4000000 in
theorem c_inflateIf (l : Launch) {G : (Nat → Prop) → State → Heap → Prop} (hG : vG G) (D : va_G) (c9 : Nat → ClassId) {sk sv : Nat → Nat} (hGU : ∀ (A : Nat → Prop) (U : State) (H : Heap), G A U H → vU sk sv A U H) {q t : Nat} {M : List Nat} (hGT : ∀ (A : Nat → Prop) (U : State) (H : Heap), G A U H → vStr q t M.length (fun j => nI (M.getD j 0)) A U H) (hn : M.length < 2 ^ 31) {a v cap : Nat} {cnt : Int32} {f : Nat → Int32} {F : va_W} : mN (S := Unit) l yJ5_inflateIfNeededFor_a7421 (wq yJ5_inflateIfNeededFor_a7421 cJ5_inflateIfNeededFor_a7421 2 none) { frames := 1, cells := 0, slots := 0, locals := 20 } G D (tyA c9) [.ref a, .ref q] (wSB c9 a v cap cnt f) F 0 0 (fun _ => True) (fun _ => (wSB c9 a v cap cnt f) ++ F) := by
  refine mN_of hG (cc := cJ5_inflateIfNeededFor_a7421) (maxL := 2) (by decide) rfl (Nat.le_of_ble_eq_true rfl) ?_
  intro p e s m args below meth c A hnm X
  have X : vX p s m args meth c cJ5_inflateIfNeededFor_a7421 2 none RJ5 (wq yJ5_inflateIfNeededFor_a7421 cJ5_inflateIfNeededFor_a7421 2 none) D (tyA c9) G A := X
  have T := hGT A s s.heap X.2.2.2.2.2.2.2.2.2.2
  refine v_eq (lv2 := [(0, .ref a), (1, .ref q)]) rfl rfl rfl rfl ?_
  refine v_gets X dJ5_inflateIfNeededFor_a7421_0 (hGU A s s.heap X.2.2.2.2.2.2.2.2.2.2).2.2.1 (mw wq_10) rfl 3 rfl ?_
  refine v_if_eq X (tgt := 21) dJ5_inflateIfNeededFor_a7421_3 rfl 6 rfl (a := none) (b := some ()) (o := ()) (if_neg (by decide)) (fun h => nomatch h) (fun _ => ?_)
  refine v_aload_n X dJ5_inflateIfNeededFor_a7421_6 0 rfl rfl 7 rfl ?_
  refine v_get X (C := RJ4) (T := TJ4) (N := 4) (ci := 1) (v := _) dJ5_inflateIfNeededFor_a7421_7 (lay_of layq_J4) 0 rfl rfl 1 (by decide) (mw wq_11) rfl rfl 10 rfl ?_
  refine v_aload_n X dJ5_inflateIfNeededFor_a7421_10 1 rfl rfl 11 rfl ?_
  refine v_callEi X (C := RJ0) (As := []) (rest := [.int 0]) (cs_J0_coder l hG D c9 hGU hGT hn) 0 (gV wq_42 wq_1 wq_2 wq_3 wq_4) rfl rfl rfl ⟨rfl, by decide +kernel⟩ ⟨Nat.le_of_ble_eq_true rfl, Nat.le_of_ble_eq_true rfl⟩ (fun H locs hS => vs_recv T hS) rfl rfl (Nat.le_of_ble_eq_true rfl) ⟨(by first | exact Nat.le_of_ble_eq_true rfl | omega | (dsimp only; omega)), (by first | exact Nat.le_of_ble_eq_true rfl | omega | (dsimp only; omega))⟩ dJ5_inflateIfNeededFor_a7421_11 14 rfl ?_
  refine v_icmp_eq X (tgt := 21) dJ5_inflateIfNeededFor_a7421_14 rfl 17 rfl (a := some ()) (b := none) (o := ()) (if_pos rfl) (fun _ => ?_) (fun h => nomatch h)
  exact v_nret () trivial (List.Perm.refl _) X (by first | exact Nat.le_of_ble_eq_true rfl | omega | (dsimp only; omega)) (by first | exact Nat.le_of_ble_eq_true rfl | omega | (dsimp only; omega)) dJ5_inflateIfNeededFor_a7421_21
set_option maxRecDepth 100000 in
set_option maxHeartbeats 4000000 in
theorem c_putString (l : Launch) {G : (Nat → Prop) → State → Heap → Prop} (hG : vG G) (D : va_G) (c9 : Nat → ClassId) {sk sv : Nat → Nat} (hGU : ∀ (A : Nat → Prop) (U : State) (H : Heap), G A U H → vU sk sv A U H) {q t : Nat} {M : List Nat} (hGT : ∀ (A : Nat → Prop) (U : State) (H : Heap), G A U H → vStr q t M.length (fun j => nI (M.getD j 0)) A U H) (hn : M.length < 2 ^ 31) (hM : ∀ x ∈ M, x < 128) {a v cap k : Nat} {cnt : Int32} {f : Nat → Int32} {F : va_W} (hk : k + M.length ≤ cap) (hcap : cap ≤ 700) : mN (S := Unit) l yJ5_putStringAt_47b60 (wq yJ5_putStringAt_47b60 cJ5_putStringAt_47b60 3 none) { frames := 2, cells := 0, slots := 0, locals := 83 } G D (tyA c9) [.ref a, .int (nI k), .ref q] (wSB c9 a v cap cnt f) F 0 0 (fun _ => True) (fun _ => wSB c9 a v cap cnt (va_cpy (fun j => nI (M.getD j 0)) f 0 k M.length) ++ F) := by
  refine mN_of hG (cc := cJ5_putStringAt_47b60) (maxL := 3) (by decide) rfl (Nat.le_of_ble_eq_true rfl) ?_
  intro p e s m args below meth c A hnm X
  have X : vX p s m args meth c cJ5_putStringAt_47b60 3 none RJ5 (wq yJ5_putStringAt_47b60 cJ5_putStringAt_47b60 3 none) D (tyA c9) G A := X
  have T := hGT A s s.heap X.2.2.2.2.2.2.2.2.2.2
  refine v_eq (lv2 := [(0, .ref a), (1, .int (nI k)), (2, .ref q)]) rfl rfl rfl rfl ?_
  refine v_aload_n X dJ5_putStringAt_47b60_0 0 rfl rfl 1 rfl ?_
  refine v_aload_n X dJ5_putStringAt_47b60_1 2 rfl rfl 2 rfl ?_
  refine v_gn X (S := Unit) (ws' := fun _u => [(a, .inr (1, [.ref v, .int 0, .int 0, .int cnt])), (v, .inl (c9 2, cap, .inl f))]) (F' := fun _u => F) (r_U X (C := RJ4) (owner := "java/lang/AbstractStringBuilder") (As := [.ref q]) (rest := []) (r_pc X) (c_inflateIf l hG D c9 hGU hGT hn (a := a) (v := v) (cap := cap) (cnt := cnt) (f := f)) 1 (gU wq_43 wq_44 wq_45 wq_46 wq_36 wq_47) rfl rfl rfl rfl (by decide +kernel) ⟨Nat.le_of_ble_eq_true rfl, Nat.le_of_ble_eq_true rfl⟩ (r_recv X 0 rfl rfl) rfl rfl (Nat.le_of_ble_eq_true rfl) ⟨(by first | exact Nat.le_of_ble_eq_true rfl | omega | (dsimp only; omega)), (by first | exact Nat.le_of_ble_eq_true rfl | omega | (dsimp only; omega))⟩ dJ5_putStringAt_47b60_2) (fun _ => rfl) 5 rfl (fun _u _ => ?_)
  refine v_aload_n X dJ5_putStringAt_47b60_5 2 rfl rfl 6 rfl ?_
  refine v_aload_n X dJ5_putStringAt_47b60_6 0 rfl rfl 7 rfl ?_
  refine v_get X (C := RJ4) (T := TJ4) (N := 4) (ci := 1) (v := _) dJ5_putStringAt_47b60_7 (lay_of layq_J4) 0 rfl rfl 0 (by decide) (mw wq_21) rfl rfl 10 rfl ?_
  refine v_iload_n X dJ5_putStringAt_47b60_10 1 rfl rfl 11 rfl ?_
  refine v_aload_n X dJ5_putStringAt_47b60_11 0 rfl rfl 12 rfl ?_
  refine v_get X (C := RJ4) (T := TJ4) (N := 4) (ci := 1) (v := _) dJ5_putStringAt_47b60_12 (lay_of layq_J4) 0 rfl rfl 1 (by decide) (mw wq_11) rfl rfl 15 rfl ?_
  refine v_perm (ws' := [(v, .inl (c9 2, cap, .inl f))]) (F' := (a, .inr (1, [.ref v, .int 0, .int 0, .int cnt])) :: F) (List.Perm.swap _ _ _) ?_
  refine v_gn X (S := Unit) (ws' := fun _u => [(v, .inl (c9 2, cap, .inl (va_cpy (fun j => nI (M.getD j 0)) f 0 k M.length)))]) (F' := fun _u => (a, .inr (1, [.ref v, .int 0, .int 0, .int cnt])) :: F) (r_V X (C := RJ0) (As := [.ref v, .int (nI k), .int 0]) (rest := []) (r_pc X) (c_getBytes l hG D c9 hGU hGT hn hM (v := v) (cap := cap) (k := k) (f := f) hk hcap) 3 (gV wq_48 wq_49 wq_50 wq_3 wq_51) rfl rfl rfl ⟨rfl, by decide +kernel⟩ ⟨Nat.le_of_ble_eq_true rfl, Nat.le_of_ble_eq_true rfl⟩ (fun H locs _ hS => vs_recv T hS) rfl rfl (Nat.le_of_ble_eq_true rfl) ⟨(by first | exact Nat.le_of_ble_eq_true rfl | omega | (dsimp only; omega)), (by first | exact Nat.le_of_ble_eq_true rfl | omega | (dsimp only; omega))⟩ dJ5_putStringAt_47b60_15) (fun _ => rfl) 18 rfl (fun _u _ => ?_)
  refine v_perm (ws' := [(a, .inr (1, [.ref v, .int 0, .int 0, .int cnt])), (v, .inl (c9 2, cap, .inl (va_cpy (fun j => nI (M.getD j 0)) f 0 k M.length)))]) (F' := F) (List.Perm.swap _ _ _) ?_
  exact v_nret () trivial (List.Perm.refl _) X (by first | exact Nat.le_of_ble_eq_true rfl | omega | (dsimp only; omega)) (by first | exact Nat.le_of_ble_eq_true rfl | omega | (dsimp only; omega)) dJ5_putStringAt_47b60_18
set_option maxRecDepth 100000 in
set_option maxHeartbeats 4000000 in
theorem c_append0 (l : Launch) {G : (Nat → Prop) → State → Heap → Prop} (hG : vG G) (D : va_G) (c9 : Nat → ClassId) {sk sv : Nat → Nat} (hGU : ∀ (A : Nat → Prop) (U : State) (H : Heap), G A U H → vU sk sv A U H) {q t : Nat} {M : List Nat} (hGT : ∀ (A : Nat → Prop) (U : State) (H : Heap), G A U H → vStr q t M.length (fun j => nI (M.getD j 0)) A U H) (hn : M.length < 2 ^ 31) (hM : ∀ x ∈ M, x < 128) {a v cap : Nat} {f : Nat → Int32} {L : List Nat} {F : va_W} (hL : SBp L (v, cap, f)) (hlen : L.length + M.length ≤ 300) : mR (S := SBt) l yJ5_append_cf1ce (wq yJ5_append_cf1ce cJ5_append_cf1ce 3 (some (.object "java/lang/AbstractStringBuilder"))) { frames := 4, cells := 1, slots := 700, locals := 110 } G D (tyA c9) [.ref a, .ref q] ((SBx c9 a L (v, cap, f)) ++ F) 1 700 (fun u => SBp (L ++ M) u) (fun _ => a) (fun u => SBx c9 a (L ++ M) u ++ F) := by
  refine mR_of hG (cc := cJ5_append_cf1ce) (maxL := 3) (ty := (.object "java/lang/AbstractStringBuilder")) (by decide) rfl (Nat.le_of_ble_eq_true rfl) ?_
  intro p e s m args below meth c A X
  have X : vX p s m args meth c cJ5_append_cf1ce 3 (some (.object "java/lang/AbstractStringBuilder")) RJ5 (wq yJ5_append_cf1ce cJ5_append_cf1ce 3 (some (.object "java/lang/AbstractStringBuilder"))) D (tyA c9) G A := X
  have T := hGT A s s.heap X.2.2.2.2.2.2.2.2.2.2
  refine v_eq (lv2 := [(0, .ref a), (1, .ref q)]) rfl rfl rfl rfl ?_
  refine v_aload_n X dJ5_append_cf1ce_0 1 rfl rfl 1 rfl ?_
  refine v_ifnn X (tgt := 9) dJ5_append_cf1ce_1 rfl ?_
  refine v_aload_n X dJ5_append_cf1ce_9 1 rfl rfl 10 rfl ?_
  refine v_callEi X (C := RJ0) (As := []) (rest := []) (cs_J0_length l hG D c9 hGU hGT hn) 0 (gV wq_52 wq_53 wq_54 wq_3 wq_55) rfl rfl rfl ⟨rfl, by decide +kernel⟩ ⟨Nat.le_of_ble_eq_true rfl, Nat.le_of_ble_eq_true rfl⟩ (fun H locs hS => vs_recv T hS) rfl rfl (Nat.le_of_ble_eq_true rfl) ⟨(by first | exact Nat.le_of_ble_eq_true rfl | omega | (dsimp only; omega)), (by first | exact Nat.le_of_ble_eq_true rfl | omega | (dsimp only; omega))⟩ dJ5_append_cf1ce_10 13 rfl ?_
  refine v_istore_n X (lv' := [(2, .int (Int32.ofNat M.length)), (0, .ref a), (1, .ref q)]) dJ5_append_cf1ce_13 rfl (by decide) rfl 14 rfl ?_
  refine v_aload_n X dJ5_append_cf1ce_14 1 rfl rfl 15 rfl ?_
  refine v_aload_n X dJ5_append_cf1ce_15 1 rfl rfl 16 rfl ?_
  refine v_get X (C := RJ4) (T := TJ4) (N := 4) (ci := 1) (v := _) dJ5_append_cf1ce_16 (lay_of layq_J4) 0 rfl rfl 3 (by decide) (mw wq_56) rfl rfl 19 rfl ?_
  refine v_iload_n X dJ5_append_cf1ce_19 0 rfl rfl 20 rfl ?_
  refine v_iadd X dJ5_append_cf1ce_20 21 rfl ?_
  rw [show nI L.length + Int32.ofNat M.length = nI (L.length + M.length) from nI_add _ _]
  refine v_gn X (S := SBt) (ws' := fun u => wSB c9 a u.1 u.2.1 (nI L.length) u.2.2) (F' := fun u => F) (r_U X (C := RJ4) (owner := "java/lang/AbstractStringBuilder") (As := [.int (nI (L.length + M.length))]) (rest := []) (r_pc X) (c_ensure l hG D c9 hGU (a := a) (v := v) (cap := cap) (mn := L.length + M.length) (cnt := nI L.length) (f := f) (by omega) hL.2.1 hL.2.2.1) 1 (gU wq_57 wq_58 wq_59 wq_60 wq_36 wq_61) rfl rfl rfl rfl (by decide +kernel) ⟨Nat.le_of_ble_eq_true rfl, Nat.le_of_ble_eq_true rfl⟩ (r_recv X 0 rfl rfl) rfl rfl (Nat.le_of_ble_eq_true rfl) ⟨(by first | exact Nat.le_of_ble_eq_true rfl | omega | (dsimp only; omega)), (by first | exact Nat.le_of_ble_eq_true rfl | omega | (dsimp only; omega))⟩ dJ5_append_cf1ce_21) (fun _ => rfl) 24 rfl (fun u hu => ?_)
  obtain ⟨hu1, hu2, hu3, hu4, hu5⟩ := hu
  refine v_aload_n X dJ5_append_cf1ce_24 1 rfl rfl 25 rfl ?_
  refine v_aload_n X dJ5_append_cf1ce_25 1 rfl rfl 26 rfl ?_
  refine v_get X (C := RJ4) (T := TJ4) (N := 4) (ci := 1) (v := _) dJ5_append_cf1ce_26 (lay_of layq_J4) 0 rfl rfl 3 (by decide) (mw wq_56) rfl rfl 29 rfl ?_
  refine v_aload_n X dJ5_append_cf1ce_29 2 rfl rfl 30 rfl ?_
  refine v_gn X (S := Unit) (ws' := fun _u => wSB c9 a u.1 u.2.1 (nI L.length) (va_cpy (fun j => nI (M.getD j 0)) u.2.2 0 L.length M.length)) (F' := fun _u => F) (r_U X (C := RJ4) (owner := "java/lang/AbstractStringBuilder") (As := [.int (nI L.length), .ref q]) (rest := []) (r_pc X) (c_putString l hG D c9 hGU hGT hn hM (a := a) (v := u.1) (cap := u.2.1) (k := L.length) (cnt := nI L.length) (f := u.2.2) hu1 hu3) 2 (gU wq_62 wq_63 wq_64 wq_65 wq_36 wq_66) rfl rfl rfl rfl (by decide +kernel) ⟨Nat.le_of_ble_eq_true rfl, Nat.le_of_ble_eq_true rfl⟩ (r_recv X 0 rfl rfl) rfl rfl (Nat.le_of_ble_eq_true rfl) ⟨(by first | exact Nat.le_of_ble_eq_true rfl | omega | (dsimp only; omega)), (by first | exact Nat.le_of_ble_eq_true rfl | omega | (dsimp only; omega))⟩ dJ5_append_cf1ce_30) (fun _ => rfl) 33 rfl (fun _u _ => ?_)
  refine v_aload_n X dJ5_append_cf1ce_33 1 rfl rfl 34 rfl ?_
  refine v_dup X dJ5_append_cf1ce_34 rfl 35 rfl ?_
  refine v_get X (C := RJ4) (T := TJ4) (N := 4) (ci := 1) (v := _) dJ5_append_cf1ce_35 (lay_of layq_J4) 0 rfl rfl 3 (by decide) (mw wq_56) rfl rfl 38 rfl ?_
  refine v_iload_n X dJ5_append_cf1ce_38 0 rfl rfl 39 rfl ?_
  refine v_iadd X dJ5_append_cf1ce_39 40 rfl ?_
  rw [show nI L.length + Int32.ofNat M.length = nI (L ++ M).length from (nI_add _ _).trans (congrArg nI List.length_append.symm)]
  refine v_put X (C := RJ4) (T := TJ4) (N := 4) (ci := 1) (ty := tyJ4 3) (ws' := [(a, .inr (1, [.ref u.1, .int 0, .int 0, .int (nI (L ++ M).length)])), (u.1, .inl (c9 2, u.2.1, .inl (va_cpy (fun j => nI (M.getD j 0)) u.2.2 0 L.length M.length)))]) dJ5_append_cf1ce_40 (lay_of layq_J4) 0 rfl rfl 3 (by decide) tyJ4 tyJ4_ok nmJ4 (mw wq_56) rfl rfl (tyJ4_ok 3 (by decide)) rfl rfl (Nat.le_of_ble_eq_true rfl) rfl 43 rfl ?_
  refine v_aload_n X dJ5_append_cf1ce_43 1 rfl rfl 44 rfl ?_
  exact v_rret (u.1, u.2.1, va_cpy (fun j => nI (M.getD j 0)) u.2.2 0 L.length M.length) (SBp_put (v := u.1) (cap := u.2.1) (f := u.2.2) hu1 hu3 (sb_fitC (fitM hM) hu4) (fun j hj => pk_cpy_out (by omega)) (fun j hj => (hu5 j (by have h9 : L.length ≤ cap := hL.1; omega)).trans (hL.2.2.2 j hj)) (fun j hj => by rw [pk_cpy_in (by omega) (by omega), show 0 + (L.length + j - L.length) = j by omega])) rfl (List.Perm.refl _) X (Or.inl ⟨_, rfl⟩) (by first | exact Nat.le_of_ble_eq_true rfl | omega | (dsimp only; omega)) (by first | exact Nat.le_of_ble_eq_true rfl | omega | (dsimp only; omega)) dJ5_append_cf1ce_44
set_option maxRecDepth 100000 in
set_option maxHeartbeats 4000000 in
theorem c_append (l : Launch) {G : (Nat → Prop) → State → Heap → Prop} (hG : vG G) (D : va_G) (c9 : Nat → ClassId) {sk sv : Nat → Nat} (hGU : ∀ (A : Nat → Prop) (U : State) (H : Heap), G A U H → vU sk sv A U H) {q t : Nat} {M : List Nat} (hGT : ∀ (A : Nat → Prop) (U : State) (H : Heap), G A U H → vStr q t M.length (fun j => nI (M.getD j 0)) A U H) (hn : M.length < 2 ^ 31) (hM : ∀ x ∈ M, x < 128) {a v cap : Nat} {f : Nat → Int32} {L : List Nat} {F : va_W} (hL : SBp L (v, cap, f)) (hlen : L.length + (M).length ≤ 300) : mR (S := SBt) l yJ4_append_15ec4 (wq yJ4_append_15ec4 cJ4_append_15ec4 2 (some (.object "java/lang/StringBuilder"))) { frames := 5, cells := 1, slots := 700, locals := 132 } G D (tyA c9) [.ref a, .ref q] ((SBx c9 a L (v, cap, f)) ++ F) 1 700 (fun u => SBp (L ++ M) u) (fun _ => a) (fun u => SBx c9 a (L ++ M) u ++ F) := by
  refine mR_of hG (cc := cJ4_append_15ec4) (maxL := 2) (ty := (.object "java/lang/StringBuilder")) (by decide) rfl (Nat.le_of_ble_eq_true rfl) ?_
  intro p e s m args below meth c A X
  have X : vX p s m args meth c cJ4_append_15ec4 2 (some (.object "java/lang/StringBuilder")) RJ4 (wq yJ4_append_15ec4 cJ4_append_15ec4 2 (some (.object "java/lang/StringBuilder"))) D (tyA c9) G A := X
  have T := hGT A s s.heap X.2.2.2.2.2.2.2.2.2.2
  refine v_eq (lv2 := [(0, .ref a), (1, .ref q)]) rfl rfl rfl rfl ?_
  refine v_aload_n X dJ4_append_15ec4_0 0 rfl rfl 1 rfl ?_
  refine v_aload_n X dJ4_append_15ec4_1 1 rfl rfl 2 rfl ?_
  refine v_gr X (S := SBt) (ws' := fun u => SBx c9 a (L ++ M) u) (F' := fun u => F) (r_SU X (C := RJ4) (ci := 1) (T := TJ4) (N := 4) (As := [.ref q]) (rest := []) (r_pc X) (c_append0 l hG D c9 hGU hGT hn hM hL hlen) 1 (gSU wq_67 wq_68 wq_69 wq_70 wq_36 wq_71) rfl rfl rfl rfl (by decide +kernel) ⟨Nat.le_of_ble_eq_true rfl, Nat.le_of_ble_eq_true rfl⟩ (r_recv X 0 rfl rfl) rfl rfl (Nat.le_of_ble_eq_true rfl) ⟨(by first | exact Nat.le_of_ble_eq_true rfl | omega | (dsimp only; omega)), (by first | exact Nat.le_of_ble_eq_true rfl | omega | (dsimp only; omega))⟩ dJ4_append_15ec4_2) (fun _ => rfl) 5 rfl (fun u hu => ?_)
  refine v_pop X dJ4_append_15ec4_5 rfl 6 rfl ?_
  refine v_aload_n X dJ4_append_15ec4_6 0 rfl rfl 7 rfl ?_
  exact v_rret u hu rfl (List.Perm.refl _) X (Or.inl ⟨_, rfl⟩) (by first | exact Nat.le_of_ble_eq_true rfl | omega | (dsimp only; omega)) (by first | exact Nat.le_of_ble_eq_true rfl | omega | (dsimp only; omega)) dJ4_append_15ec4_7
set_option maxRecDepth 100000 in
set_option maxHeartbeats 4000000 in
theorem c_appendB (l : Launch) {G : (Nat → Prop) → State → Heap → Prop} (hG : vG G) (D : va_G) (c9 : Nat → ClassId) {sk sv : Nat → Nat} (hGU : ∀ (A : Nat → Prop) (U : State) (H : Heap), G A U H → vU sk sv A U H) {q t : Nat} {M : List Nat} (hGT : ∀ (A : Nat → Prop) (U : State) (H : Heap), G A U H → vStr q t M.length (fun j => nI (M.getD j 0)) A U H) (hn : M.length < 2 ^ 31) (hM : ∀ x ∈ M, x < 128) {a v cap : Nat} {f : Nat → Int32} {L : List Nat} {F : va_W} (hL : SBp L (v, cap, f)) (hlen : L.length + (M).length ≤ 300) : mR (S := SBt) l yJ4_append_cf1ce (wq yJ4_append_cf1ce cJ4_append_cf1ce 2 (some (.object "java/lang/AbstractStringBuilder"))) { frames := 6, cells := 1, slots := 700, locals := 153 } G D (tyA c9) [.ref a, .ref q] ((SBx c9 a L (v, cap, f)) ++ F) 1 700 (fun u => SBp (L ++ M) u) (fun _ => a) (fun u => SBx c9 a (L ++ M) u ++ F) := by
  refine mR_of hG (cc := cJ4_append_cf1ce) (maxL := 2) (ty := (.object "java/lang/AbstractStringBuilder")) (by decide) rfl (Nat.le_of_ble_eq_true rfl) ?_
  intro p e s m args below meth c A X
  have X : vX p s m args meth c cJ4_append_cf1ce 2 (some (.object "java/lang/AbstractStringBuilder")) RJ4 (wq yJ4_append_cf1ce cJ4_append_cf1ce 2 (some (.object "java/lang/AbstractStringBuilder"))) D (tyA c9) G A := X
  have T := hGT A s s.heap X.2.2.2.2.2.2.2.2.2.2
  refine v_eq (lv2 := [(0, .ref a), (1, .ref q)]) rfl rfl rfl rfl ?_
  refine v_aload_n X dJ4_append_cf1ce_0 0 rfl rfl 1 rfl ?_
  refine v_aload_n X dJ4_append_cf1ce_1 1 rfl rfl 2 rfl ?_
  refine v_gr X (S := SBt) (ws' := fun u => SBx c9 a (L ++ M) u) (F' := fun u => F) (r_V X (C := RJ4) (As := [.ref q]) (rest := []) (r_pc X) (c_append l hG D c9 hGU hGT hn hM hL hlen) 1 (gV wq_72 wq_73 wq_74 wq_75 wq_76) rfl rfl rfl ⟨rfl, by decide +kernel⟩ ⟨Nat.le_of_ble_eq_true rfl, Nat.le_of_ble_eq_true rfl⟩ (r_recv X 0 rfl rfl) rfl rfl (Nat.le_of_ble_eq_true rfl) ⟨(by first | exact Nat.le_of_ble_eq_true rfl | omega | (dsimp only; omega)), (by first | exact Nat.le_of_ble_eq_true rfl | omega | (dsimp only; omega))⟩ dJ4_append_cf1ce_2) (fun _ => rfl) 5 rfl (fun u hu => ?_)
  exact v_rret u hu rfl (List.Perm.refl _) X (Or.inl ⟨_, rfl⟩) (by first | exact Nat.le_of_ble_eq_true rfl | omega | (dsimp only; omega)) (by first | exact Nat.le_of_ble_eq_true rfl | omega | (dsimp only; omega)) dJ4_append_cf1ce_5
set_option maxRecDepth 100000 in
set_option maxHeartbeats 4000000 in
theorem c_canEncode (l : Launch) {G : (Nat → Prop) → State → Heap → Prop} (hG : vG G) (D : va_G) (c9 : Nat → ClassId) {sk sv : Nat → Nat} (hGU : ∀ (A : Nat → Prop) (U : State) (H : Heap), G A U H → vU sk sv A U H) {x : Nat} (hx : x < 128) : mI l yJ1_canEncode_fc78d (wq yJ1_canEncode_fc78d cJ1_canEncode_fc78d 1 (some .boolean)) { frames := 0, cells := 0, slots := 0, locals := 0 } G D (tyA c9) [.int (nI x)] [] [] 0 0 1 [] := by
  refine mI_of hG (cc := cJ1_canEncode_fc78d) (maxL := 1) (ty := .boolean) (by decide) rfl (Nat.le_of_ble_eq_true rfl) ?_
  intro p e s m args below meth c A X
  have X : vX p s m args meth c cJ1_canEncode_fc78d 1 (some .boolean) RJ1 (wq yJ1_canEncode_fc78d cJ1_canEncode_fc78d 1 (some .boolean)) D (tyA c9) G A := X
  refine v_eq (lv2 := [(0, .int (nI x))]) rfl rfl rfl rfl ?_
  refine v_iload_n X dJ1_canEncode_fc78d_0 0 rfl rfl 1 rfl ?_
  refine v_sipush X dJ1_canEncode_fc78d_1 sp_255 4 rfl ?_
  refine v_icmp_gt X (tgt := 11) dJ1_canEncode_fc78d_4 rfl 7 rfl (a := none) (b := some ()) (o := ()) (if_neg (show ¬ nI 255 < nI x from nI_nlt (by omega) (by decide))) (fun h => nomatch h) (fun _ => ?_)
  refine v_iconst X dJ1_canEncode_fc78d_7 ic_1 8 rfl ?_
  refine v_goto X (tgt := 12) dJ1_canEncode_fc78d_8 rfl ?_
  exact v_zret X (by first | exact Nat.le_of_ble_eq_true rfl | omega | (dsimp only; omega)) (by first | exact Nat.le_of_ble_eq_true rfl | omega | (dsimp only; omega)) nz1 dJ1_canEncode_fc78d_12
set_option maxRecDepth 100000 in
set_option maxHeartbeats 4000000 in
theorem c_appendC0 (l : Launch) {G : (Nat → Prop) → State → Heap → Prop} (hG : vG G) (D : va_G) (c9 : Nat → ClassId) {sk sv : Nat → Nat} (hGU : ∀ (A : Nat → Prop) (U : State) (H : Heap), G A U H → vU sk sv A U H) {x : Nat} (hx : x < 128) {a v cap : Nat} {f : Nat → Int32} {L : List Nat} {F : va_W} (hL : SBp L (v, cap, f)) (hlen : L.length + 1 ≤ 300) : mR (S := SBt) l yJ5_append_3fe6f (wq yJ5_append_3fe6f cJ5_append_3fe6f 2 (some (.object "java/lang/AbstractStringBuilder"))) { frames := 4, cells := 1, slots := 700, locals := 110 } G D (tyA c9) [.ref a, .int (nI x)] ((SBx c9 a L (v, cap, f)) ++ F) 1 700 (fun u => SBp (L ++ [x]) u) (fun _ => a) (fun u => SBx c9 a (L ++ [x]) u ++ F) := by
  refine mR_of hG (cc := cJ5_append_3fe6f) (maxL := 2) (ty := (.object "java/lang/AbstractStringBuilder")) (by decide) rfl (Nat.le_of_ble_eq_true rfl) ?_
  intro p e s m args below meth c A X
  have X : vX p s m args meth c cJ5_append_3fe6f 2 (some (.object "java/lang/AbstractStringBuilder")) RJ5 (wq yJ5_append_3fe6f cJ5_append_3fe6f 2 (some (.object "java/lang/AbstractStringBuilder"))) D (tyA c9) G A := X
  refine v_eq (lv2 := [(0, .ref a), (1, .int (nI x))]) rfl rfl rfl rfl ?_
  refine v_aload_n X dJ5_append_3fe6f_0 0 rfl rfl 1 rfl ?_
  refine v_aload_n X dJ5_append_3fe6f_1 0 rfl rfl 2 rfl ?_
  refine v_get X (C := RJ4) (T := TJ4) (N := 4) (ci := 1) (v := _) dJ5_append_3fe6f_2 (lay_of layq_J4) 0 rfl rfl 3 (by decide) (mw wq_56) rfl rfl 5 rfl ?_
  refine v_iconst X dJ5_append_3fe6f_5 ic_1 6 rfl ?_
  refine v_iadd X dJ5_append_3fe6f_6 7 rfl ?_
  rw [show nI L.length + 1 = nI (L.length + 1) from nI_1 _]
  refine v_gn X (S := SBt) (ws' := fun u => wSB c9 a u.1 u.2.1 (nI L.length) u.2.2) (F' := fun u => F) (r_U X (C := RJ4) (owner := "java/lang/AbstractStringBuilder") (As := [.int (nI (L.length + 1))]) (rest := []) (r_pc X) (c_ensure l hG D c9 hGU (a := a) (v := v) (cap := cap) (mn := L.length + 1) (cnt := nI L.length) (f := f) (by omega) hL.2.1 hL.2.2.1) 1 (gU wq_57 wq_58 wq_59 wq_60 wq_36 wq_61) rfl rfl rfl rfl (by decide +kernel) ⟨Nat.le_of_ble_eq_true rfl, Nat.le_of_ble_eq_true rfl⟩ (r_recv X 0 rfl rfl) rfl rfl (Nat.le_of_ble_eq_true rfl) ⟨(by first | exact Nat.le_of_ble_eq_true rfl | omega | (dsimp only; omega)), (by first | exact Nat.le_of_ble_eq_true rfl | omega | (dsimp only; omega))⟩ dJ5_append_3fe6f_7) (fun _ => rfl) 10 rfl (fun u hu => ?_)
  obtain ⟨hu1, hu2, hu3, hu4, hu5⟩ := hu
  refine v_aload_n X dJ5_append_3fe6f_10 0 rfl rfl 11 rfl ?_
  refine v_gj X (S := Unit) (ws' := fun _u => [(a, .inr (1, [.ref u.1, .int 0, .int 0, .int (nI L.length)])), (u.1, .inl (c9 2, u.2.1, .inl u.2.2))]) (F' := fun _u => F) (r_U X (C := RJ4) (owner := "java/lang/AbstractStringBuilder") (As := []) (rest := []) (r_pc X) (c_SBlatin l hG D c9 hGU (a := a) (v := u.1) (cap := u.2.1) (cnt := (nI L.length)) (f := u.2.2)) 0 (gU wq_77 wq_78 wq_79 wq_80 wq_36 wq_81) rfl rfl rfl rfl (by decide +kernel) ⟨Nat.le_of_ble_eq_true rfl, Nat.le_of_ble_eq_true rfl⟩ (r_recv X 0 rfl rfl) rfl rfl (Nat.le_of_ble_eq_true rfl) ⟨(by first | exact Nat.le_of_ble_eq_true rfl | omega | (dsimp only; omega)), (by first | exact Nat.le_of_ble_eq_true rfl | omega | (dsimp only; omega))⟩ dJ5_append_3fe6f_11) (fun _ => rfl) 14 rfl (fun _u _ => ?_)
  refine v_if_eq X (tgt := 45) dJ5_append_3fe6f_14 rfl 17 rfl (a := none) (b := some ()) (o := ()) (if_neg (by decide)) (fun h => nomatch h) (fun _ => ?_)
  refine v_iload_n X dJ5_append_3fe6f_17 1 rfl rfl 18 rfl ?_
  refine v_callZi X (As := [.int (nI x)]) (rest := []) (c_canEncode l hG D c9 hGU hx) 1 (gS wq_82 wq_83 wq_84 wq_85) rfl rfl rfl (by decide +kernel) ⟨Nat.le_of_ble_eq_true rfl, Nat.le_of_ble_eq_true rfl⟩ rfl rfl (Nat.le_of_ble_eq_true rfl) ⟨(by first | exact Nat.le_of_ble_eq_true rfl | omega | (dsimp only; omega)), (by first | exact Nat.le_of_ble_eq_true rfl | omega | (dsimp only; omega))⟩ dJ5_append_3fe6f_18 21 rfl ?_
  refine v_if_eq X (tgt := 45) dJ5_append_3fe6f_21 rfl 24 rfl (a := none) (b := some ()) (o := ()) (if_neg (by decide)) (fun h => nomatch h) (fun _ => ?_)
  refine v_aload_n X dJ5_append_3fe6f_24 0 rfl rfl 25 rfl ?_
  refine v_get X (C := RJ4) (T := TJ4) (N := 4) (ci := 1) (v := _) dJ5_append_3fe6f_25 (lay_of layq_J4) 0 rfl rfl 0 (by decide) (mw wq_21) rfl rfl 28 rfl ?_
  refine v_aload_n X dJ5_append_3fe6f_28 0 rfl rfl 29 rfl ?_
  refine v_dup X dJ5_append_3fe6f_29 rfl 30 rfl ?_
  refine v_get X (C := RJ4) (T := TJ4) (N := 4) (ci := 1) (v := _) dJ5_append_3fe6f_30 (lay_of layq_J4) 0 rfl rfl 3 (by decide) (mw wq_56) rfl rfl 33 rfl ?_
  refine v_dup_x1 X dJ5_append_3fe6f_33 rfl rfl 34 rfl ?_
  refine v_iconst X dJ5_append_3fe6f_34 ic_1 35 rfl ?_
  refine v_iadd X dJ5_append_3fe6f_35 36 rfl ?_
  rw [show nI L.length + 1 = nI (L ++ [x]).length from (nI_1 _).trans (congrArg nI (show L.length + 1 = (L ++ [x]).length by rw [List.length_append]; rfl))]
  refine v_put X (C := RJ4) (T := TJ4) (N := 4) (ci := 1) (ty := tyJ4 3) (ws' := [(a, .inr (1, [.ref u.1, .int 0, .int 0, .int (nI (L ++ [x]).length)])), (u.1, .inl (c9 2, u.2.1, .inl u.2.2))]) dJ5_append_3fe6f_36 (lay_of layq_J4) 0 rfl rfl 3 (by decide) tyJ4 tyJ4_ok nmJ4 (mw wq_56) rfl rfl (tyJ4_ok 3 (by decide)) rfl rfl (Nat.le_of_ble_eq_true rfl) rfl 39 rfl ?_
  refine v_iload_n X dJ5_append_3fe6f_39 1 rfl rfl 40 rfl ?_
  refine v_i2b X dJ5_append_3fe6f_40 41 rfl ?_
  refine v_bast X (ws' := [(a, .inr (1, [.ref u.1, .int 0, .int 0, .int (nI (L ++ [x]).length)])), (u.1, .inl (c9 2, u.2.1, .inl (upd u.2.2 L.length (nI x))))]) dJ5_append_3fe6f_41 1 2 rfl rfl (by rw [byte7 x hx]; exact wr_nI (by omega) (by omega)) rfl 42 rfl ?_
  refine v_goto X (tgt := 75) dJ5_append_3fe6f_42 rfl ?_
  refine v_aload_n X dJ5_append_3fe6f_75 0 rfl rfl 76 rfl ?_
  exact v_rret (u.1, u.2.1, upd u.2.2 L.length (nI x)) (SBp_put (M := [x]) (v := u.1) (cap := u.2.1) (f := u.2.2) hu1 hu3 (sb_fitU hu4 (fits7 x hx)) (fun j hj => pk_un (by omega)) (fun j hj => (hu5 j (by have h9 : L.length ≤ cap := hL.1; omega)).trans (hL.2.2.2 j hj)) (fun j hj => by rw [show j = 0 by rw [List.length_singleton] at hj; omega]; exact pk_us)) rfl (List.Perm.refl _) X (Or.inl ⟨_, rfl⟩) (by first | exact Nat.le_of_ble_eq_true rfl | omega | (dsimp only; omega)) (by first | exact Nat.le_of_ble_eq_true rfl | omega | (dsimp only; omega)) dJ5_append_3fe6f_76
set_option maxRecDepth 100000 in
set_option maxHeartbeats 4000000 in
theorem c_appendC (l : Launch) {G : (Nat → Prop) → State → Heap → Prop} (hG : vG G) (D : va_G) (c9 : Nat → ClassId) {sk sv : Nat → Nat} (hGU : ∀ (A : Nat → Prop) (U : State) (H : Heap), G A U H → vU sk sv A U H) {x : Nat} (hx : x < 128) {a v cap : Nat} {f : Nat → Int32} {L : List Nat} {F : va_W} (hL : SBp L (v, cap, f)) (hlen : L.length + ([x]).length ≤ 300) : mR (S := SBt) l yJ4_append_cf468 (wq yJ4_append_cf468 cJ4_append_cf468 2 (some (.object "java/lang/StringBuilder"))) { frames := 5, cells := 1, slots := 700, locals := 131 } G D (tyA c9) [.ref a, .int (nI x)] ((SBx c9 a L (v, cap, f)) ++ F) 1 700 (fun u => SBp (L ++ [x]) u) (fun _ => a) (fun u => SBx c9 a (L ++ [x]) u ++ F) := by
  refine mR_of hG (cc := cJ4_append_cf468) (maxL := 2) (ty := (.object "java/lang/StringBuilder")) (by decide) rfl (Nat.le_of_ble_eq_true rfl) ?_
  intro p e s m args below meth c A X
  have X : vX p s m args meth c cJ4_append_cf468 2 (some (.object "java/lang/StringBuilder")) RJ4 (wq yJ4_append_cf468 cJ4_append_cf468 2 (some (.object "java/lang/StringBuilder"))) D (tyA c9) G A := X
  refine v_eq (lv2 := [(0, .ref a), (1, .int (nI x))]) rfl rfl rfl rfl ?_
  refine v_aload_n X dJ4_append_cf468_0 0 rfl rfl 1 rfl ?_
  refine v_iload_n X dJ4_append_cf468_1 1 rfl rfl 2 rfl ?_
  refine v_gr X (S := SBt) (ws' := fun u => SBx c9 a (L ++ [x]) u) (F' := fun u => F) (r_SU X (C := RJ4) (ci := 1) (T := TJ4) (N := 4) (As := [.int (nI x)]) (rest := []) (r_pc X) (c_appendC0 l hG D c9 hGU hx hL hlen) 1 (gSU wq_86 wq_87 wq_69 wq_88 wq_36 wq_89) rfl rfl rfl rfl (by decide +kernel) ⟨Nat.le_of_ble_eq_true rfl, Nat.le_of_ble_eq_true rfl⟩ (r_recv X 0 rfl rfl) rfl rfl (Nat.le_of_ble_eq_true rfl) ⟨(by first | exact Nat.le_of_ble_eq_true rfl | omega | (dsimp only; omega)), (by first | exact Nat.le_of_ble_eq_true rfl | omega | (dsimp only; omega))⟩ dJ4_append_cf468_2) (fun _ => rfl) 5 rfl (fun u hu => ?_)
  refine v_pop X dJ4_append_cf468_5 rfl 6 rfl ?_
  refine v_aload_n X dJ4_append_cf468_6 0 rfl rfl 7 rfl ?_
  exact v_rret u hu rfl (List.Perm.refl _) X (Or.inl ⟨_, rfl⟩) (by first | exact Nat.le_of_ble_eq_true rfl | omega | (dsimp only; omega)) (by first | exact Nat.le_of_ble_eq_true rfl | omega | (dsimp only; omega)) dJ4_append_cf468_7
