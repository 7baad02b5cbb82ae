theorem dX12_init_0 : decode cX12_init 0 = .ok (.aload_n 0, 1) := by decide +kernel
theorem dX12_init_1 : decode cX12_init 1 = .ok (.invokespecial 1, 3) := by decide +kernel
theorem dX12_init_4 : decode cX12_init 4 = .ok (.aload_n 0, 1) := by decide +kernel
theorem dX12_init_5 : decode cX12_init 5 = .ok (.iconst 3, 1) := by decide +kernel
theorem dX12_init_6 : decode cX12_init 6 = .ok (.newarray .int, 2) := by decide +kernel
theorem dX12_init_8 : decode cX12_init 8 = .ok (.putfield 7, 3) := by decide +kernel
theorem dX12_init_11 : decode cX12_init 11 = .ok (.aload_n 0, 1) := by decide +kernel
theorem dX12_init_12 : decode cX12_init 12 = .ok (.iconst 3, 1) := by decide +kernel
theorem dX12_init_13 : decode cX12_init 13 = .ok (.newarray .int, 2) := by decide +kernel
theorem dX12_init_15 : decode cX12_init 15 = .ok (.putfield 13, 3) := by decide +kernel
theorem dX12_init_18 : decode cX12_init 18 = .ok (.aload_n 0, 1) := by decide +kernel
theorem dX12_init_19 : decode cX12_init 19 = .ok (.iconst 3, 1) := by decide +kernel
theorem dX12_init_20 : decode cX12_init 20 = .ok (.newarray .int, 2) := by decide +kernel
theorem dX12_init_22 : decode cX12_init 22 = .ok (.putfield 16, 3) := by decide +kernel
theorem dX12_init_25 : decode cX12_init 25 = .ok (.aload_n 0, 1) := by decide +kernel
theorem dX12_init_26 : decode cX12_init 26 = .ok (.iconst 3, 1) := by decide +kernel
theorem dX12_init_27 : decode cX12_init 27 = .ok (.newarray .int, 2) := by decide +kernel
theorem dX12_init_29 : decode cX12_init 29 = .ok (.putfield 19, 3) := by decide +kernel
theorem dX12_init_32 : decode cX12_init 32 = .ok (.aload_n 0, 1) := by decide +kernel
theorem dX12_init_33 : decode cX12_init 33 = .ok (.iconst 3, 1) := by decide +kernel
theorem dX12_init_34 : decode cX12_init 34 = .ok (.newarray .int, 2) := by decide +kernel
theorem dX12_init_36 : decode cX12_init 36 = .ok (.putfield 22, 3) := by decide +kernel
theorem dX12_init_39 : decode cX12_init 39 = .ok (.aload_n 0, 1) := by decide +kernel
theorem dX12_init_40 : decode cX12_init 40 = .ok (.iconst 3, 1) := by decide +kernel
theorem dX12_init_41 : decode cX12_init 41 = .ok (.newarray .int, 2) := by decide +kernel
theorem dX12_init_43 : decode cX12_init 43 = .ok (.putfield 25, 3) := by decide +kernel
theorem dX12_init_46 : decode cX12_init 46 = .ok (.aload_n 0, 1) := by decide +kernel
theorem dX12_init_47 : decode cX12_init 47 = .ok (.iconst 2, 1) := by decide +kernel
theorem dX12_init_48 : decode cX12_init 48 = .ok (.newarray .int, 2) := by decide +kernel
theorem dX12_init_50 : decode cX12_init 50 = .ok (.putfield 28, 3) := by decide +kernel
theorem dX12_init_53 : decode cX12_init 53 = .ok (.aload_n 0, 1) := by decide +kernel
theorem dX12_init_54 : decode cX12_init 54 = .ok (.iconst 2, 1) := by decide +kernel
theorem dX12_init_55 : decode cX12_init 55 = .ok (.newarray .int, 2) := by decide +kernel
theorem dX12_init_57 : decode cX12_init 57 = .ok (.putfield 31, 3) := by decide +kernel
theorem dX12_init_60 : decode cX12_init 60 = .ok (.aload_n 0, 1) := by decide +kernel
theorem dX12_init_61 : decode cX12_init 61 = .ok (.iconst 0, 1) := by decide +kernel
theorem dX12_init_62 : decode cX12_init 62 = .ok (.anewarray 34, 3) := by decide +kernel
theorem dX12_init_65 : decode cX12_init 65 = .ok (.putfield 35, 3) := by decide +kernel
theorem dX12_init_68 : decode cX12_init 68 = .ok (.aload_n 0, 1) := by decide +kernel
theorem dX12_init_69 : decode cX12_init 69 = .ok (.iconst 0, 1) := by decide +kernel
theorem dX12_init_70 : decode cX12_init 70 = .ok (.anewarray 34, 3) := by decide +kernel
theorem dX12_init_73 : decode cX12_init 73 = .ok (.putfield 39, 3) := by decide +kernel
theorem dX12_init_76 : decode cX12_init 76 = .ok (.aload_n 1, 1) := by decide +kernel
theorem dX12_init_77 : decode cX12_init 77 = .ok (.iconst 0, 1) := by decide +kernel
theorem dX12_init_78 : decode cX12_init 78 = .ok (.invokestatic 42, 3) := by decide +kernel
theorem dX12_init_81 : decode cX12_init 81 = .ok (.istore_n 2, 1) := by decide +kernel
theorem dX12_init_82 : decode cX12_init 82 = .ok (.aload_n 0, 1) := by decide +kernel
theorem dX12_init_83 : decode cX12_init 83 = .ok (.iload_n 2, 1) := by decide +kernel
theorem dX12_init_84 : decode cX12_init 84 = .ok (.iconst 4, 1) := by decide +kernel
theorem dX12_init_85 : decode cX12_init 85 = .ok (.irem, 1) := by decide +kernel
theorem dX12_init_86 : decode cX12_init 86 = .ok (.putfield 48, 3) := by decide +kernel
theorem dX12_init_89 : decode cX12_init 89 = .ok (.aload_n 0, 1) := by decide +kernel
theorem dX12_init_90 : decode cX12_init 90 = .ok (.iload_n 2, 1) := by decide +kernel
theorem dX12_init_91 : decode cX12_init 91 = .ok (.iconst 4, 1) := by decide +kernel
theorem dX12_init_92 : decode cX12_init 92 = .ok (.idiv, 1) := by decide +kernel
theorem dX12_init_93 : decode cX12_init 93 = .ok (.sipush 1024, 3) := by decide +kernel
theorem dX12_init_96 : decode cX12_init 96 = .ok (.irem, 1) := by decide +kernel
theorem dX12_init_97 : decode cX12_init 97 = .ok (.putfield 52, 3) := by decide +kernel
theorem dX12_init_100 : decode cX12_init 100 = .ok (.iconst 0, 1) := by decide +kernel
theorem dX12_init_101 : decode cX12_init 101 = .ok (.istore_n 3, 1) := by decide +kernel
theorem dX12_init_102 : decode cX12_init 102 = .ok (.iload_n 3, 1) := by decide +kernel
theorem dX12_init_103 : decode cX12_init 103 = .ok (.iconst 3, 1) := by decide +kernel
theorem dX12_init_104 : decode cX12_init 104 = .ok (.if_icmp .ge 96, 3) := by decide +kernel
theorem dX12_init_107 : decode cX12_init 107 = .ok (.aload_n 1, 1) := by decide +kernel
theorem dX12_init_108 : decode cX12_init 108 = .ok (.iconst 1, 1) := by decide +kernel
theorem dX12_init_109 : decode cX12_init 109 = .ok (.iload_n 3, 1) := by decide +kernel
theorem dX12_init_110 : decode cX12_init 110 = .ok (.iadd, 1) := by decide +kernel
theorem dX12_init_111 : decode cX12_init 111 = .ok (.invokestatic 42, 3) := by decide +kernel
theorem dX12_init_114 : decode cX12_init 114 = .ok (.istore 4, 2) := by decide +kernel
theorem dX12_init_116 : decode cX12_init 116 = .ok (.aload_n 0, 1) := by decide +kernel
theorem dX12_init_117 : decode cX12_init 117 = .ok (.getfield 7, 3) := by decide +kernel
theorem dX12_init_120 : decode cX12_init 120 = .ok (.iload_n 3, 1) := by decide +kernel
theorem dX12_init_121 : decode cX12_init 121 = .ok (.iconst 1, 1) := by decide +kernel
theorem dX12_init_122 : decode cX12_init 122 = .ok (.iload 4, 2) := by decide +kernel
theorem dX12_init_124 : decode cX12_init 124 = .ok (.bipush 60, 2) := by decide +kernel
theorem dX12_init_126 : decode cX12_init 126 = .ok (.irem, 1) := by decide +kernel
theorem dX12_init_127 : decode cX12_init 127 = .ok (.iadd, 1) := by decide +kernel
theorem dX12_init_128 : decode cX12_init 128 = .ok (.iastore, 1) := by decide +kernel
theorem dX12_init_129 : decode cX12_init 129 = .ok (.aload_n 0, 1) := by decide +kernel
theorem dX12_init_130 : decode cX12_init 130 = .ok (.getfield 13, 3) := by decide +kernel
theorem dX12_init_133 : decode cX12_init 133 = .ok (.iload_n 3, 1) := by decide +kernel
theorem dX12_init_134 : decode cX12_init 134 = .ok (.iload 4, 2) := by decide +kernel
theorem dX12_init_136 : decode cX12_init 136 = .ok (.bipush 64, 2) := by decide +kernel
theorem dX12_init_138 : decode cX12_init 138 = .ok (.idiv, 1) := by decide +kernel
theorem dX12_init_139 : decode cX12_init 139 = .ok (.sipush 200, 3) := by decide +kernel
theorem dX12_init_142 : decode cX12_init 142 = .ok (.irem, 1) := by decide +kernel
theorem dX12_init_143 : decode cX12_init 143 = .ok (.iastore, 1) := by decide +kernel
theorem dX12_init_144 : decode cX12_init 144 = .ok (.aload_n 0, 1) := by decide +kernel
theorem dX12_init_145 : decode cX12_init 145 = .ok (.getfield 16, 3) := by decide +kernel
theorem dX12_init_148 : decode cX12_init 148 = .ok (.iload_n 3, 1) := by decide +kernel
theorem dX12_init_149 : decode cX12_init 149 = .ok (.iload 4, 2) := by decide +kernel
theorem dX12_init_151 : decode cX12_init 151 = .ok (.sipush 16384, 3) := by decide +kernel
theorem dX12_init_154 : decode cX12_init 154 = .ok (.idiv, 1) := by decide +kernel
theorem dX12_init_155 : decode cX12_init 155 = .ok (.invokestatic 55, 3) := by decide +kernel
theorem dX12_init_158 : decode cX12_init 158 = .ok (.iastore, 1) := by decide +kernel
theorem dX12_init_159 : decode cX12_init 159 = .ok (.aload_n 0, 1) := by decide +kernel
theorem dX12_init_160 : decode cX12_init 160 = .ok (.getfield 19, 3) := by decide +kernel
theorem dX12_init_163 : decode cX12_init 163 = .ok (.iload_n 3, 1) := by decide +kernel
theorem dX12_init_164 : decode cX12_init 164 = .ok (.aload_n 1, 1) := by decide +kernel
theorem dX12_init_165 : decode cX12_init 165 = .ok (.iconst 5, 1) := by decide +kernel
theorem dX12_init_166 : decode cX12_init 166 = .ok (.iload_n 3, 1) := by decide +kernel
theorem dX12_init_167 : decode cX12_init 167 = .ok (.iadd, 1) := by decide +kernel
theorem dX12_init_168 : decode cX12_init 168 = .ok (.invokestatic 42, 3) := by decide +kernel
theorem dX12_init_171 : decode cX12_init 171 = .ok (.iconst 3, 1) := by decide +kernel
theorem dX12_init_172 : decode cX12_init 172 = .ok (.irem, 1) := by decide +kernel
theorem dX12_init_173 : decode cX12_init 173 = .ok (.iastore, 1) := by decide +kernel
theorem dX12_init_174 : decode cX12_init 174 = .ok (.aload_n 0, 1) := by decide +kernel
theorem dX12_init_175 : decode cX12_init 175 = .ok (.getfield 22, 3) := by decide +kernel
theorem dX12_init_178 : decode cX12_init 178 = .ok (.iload_n 3, 1) := by decide +kernel
theorem dX12_init_179 : decode cX12_init 179 = .ok (.aload_n 1, 1) := by decide +kernel
theorem dX12_init_180 : decode cX12_init 180 = .ok (.iconst 5, 1) := by decide +kernel
theorem dX12_init_181 : decode cX12_init 181 = .ok (.iload_n 3, 1) := by decide +kernel
theorem dX12_init_182 : decode cX12_init 182 = .ok (.iadd, 1) := by decide +kernel
theorem dX12_init_183 : decode cX12_init 183 = .ok (.invokestatic 42, 3) := by decide +kernel
theorem dX12_init_186 : decode cX12_init 186 = .ok (.sipush 512, 3) := by decide +kernel
theorem dX12_init_189 : decode cX12_init 189 = .ok (.idiv, 1) := by decide +kernel
theorem dX12_init_190 : decode cX12_init 190 = .ok (.invokestatic 55, 3) := by decide +kernel
theorem dX12_init_193 : decode cX12_init 193 = .ok (.iastore, 1) := by decide +kernel
theorem dX12_init_194 : decode cX12_init 194 = .ok (.iinc 3 1, 3) := by decide +kernel
theorem dX12_init_197 : decode cX12_init 197 = .ok (.goto (-95), 3) := by decide +kernel
theorem dX12_init_200 : decode cX12_init 200 = .ok (.iconst 0, 1) := by decide +kernel
theorem dX12_init_201 : decode cX12_init 201 = .ok (.istore_n 3, 1) := by decide +kernel
theorem dX12_init_202 : decode cX12_init 202 = .ok (.iload_n 3, 1) := by decide +kernel
theorem dX12_init_203 : decode cX12_init 203 = .ok (.iconst 2, 1) := by decide +kernel
theorem dX12_init_204 : decode cX12_init 204 = .ok (.if_icmp .ge 44, 3) := by decide +kernel
theorem dX12_init_207 : decode cX12_init 207 = .ok (.aload_n 0, 1) := by decide +kernel
theorem dX12_init_208 : decode cX12_init 208 = .ok (.getfield 28, 3) := by decide +kernel
theorem dX12_init_211 : decode cX12_init 211 = .ok (.iload_n 3, 1) := by decide +kernel
theorem dX12_init_212 : decode cX12_init 212 = .ok (.aload_n 1, 1) := by decide +kernel
theorem dX12_init_213 : decode cX12_init 213 = .ok (.bipush 8, 2) := by decide +kernel
theorem dX12_init_215 : decode cX12_init 215 = .ok (.iload_n 3, 1) := by decide +kernel
theorem dX12_init_216 : decode cX12_init 216 = .ok (.iadd, 1) := by decide +kernel
theorem dX12_init_217 : decode cX12_init 217 = .ok (.invokestatic 42, 3) := by decide +kernel
theorem dX12_init_220 : decode cX12_init 220 = .ok (.iconst 3, 1) := by decide +kernel
theorem dX12_init_221 : decode cX12_init 221 = .ok (.irem, 1) := by decide +kernel
theorem dX12_init_222 : decode cX12_init 222 = .ok (.iastore, 1) := by decide +kernel
theorem dX12_init_223 : decode cX12_init 223 = .ok (.aload_n 0, 1) := by decide +kernel
theorem dX12_init_224 : decode cX12_init 224 = .ok (.getfield 31, 3) := by decide +kernel
theorem dX12_init_227 : decode cX12_init 227 = .ok (.iload_n 3, 1) := by decide +kernel
theorem dX12_init_228 : decode cX12_init 228 = .ok (.aload_n 1, 1) := by decide +kernel
theorem dX12_init_229 : decode cX12_init 229 = .ok (.bipush 8, 2) := by decide +kernel
theorem dX12_init_231 : decode cX12_init 231 = .ok (.iload_n 3, 1) := by decide +kernel
theorem dX12_init_232 : decode cX12_init 232 = .ok (.iadd, 1) := by decide +kernel
theorem dX12_init_233 : decode cX12_init 233 = .ok (.invokestatic 42, 3) := by decide +kernel
theorem dX12_init_236 : decode cX12_init 236 = .ok (.iconst 4, 1) := by decide +kernel
theorem dX12_init_237 : decode cX12_init 237 = .ok (.idiv, 1) := by decide +kernel
theorem dX12_init_238 : decode cX12_init 238 = .ok (.bipush 6, 2) := by decide +kernel
theorem dX12_init_240 : decode cX12_init 240 = .ok (.irem, 1) := by decide +kernel
theorem dX12_init_241 : decode cX12_init 241 = .ok (.iastore, 1) := by decide +kernel
theorem dX12_init_242 : decode cX12_init 242 = .ok (.iinc 3 1, 3) := by decide +kernel
theorem dX12_init_245 : decode cX12_init 245 = .ok (.goto (-43), 3) := by decide +kernel
theorem dX12_init_248 : decode cX12_init 248 = .ok (.return_, 1) := by decide +kernel
theorem dX12_with_0 : decode cX12_with 0 = .ok (.aload_n 0, 1) := by decide +kernel
theorem dX12_with_1 : decode cX12_with 1 = .ok (.arraylength, 1) := by decide +kernel
theorem dX12_with_2 : decode cX12_with 2 = .ok (.iconst 1, 1) := by decide +kernel
theorem dX12_with_3 : decode cX12_with 3 = .ok (.iadd, 1) := by decide +kernel
theorem dX12_with_4 : decode cX12_with 4 = .ok (.anewarray 34, 3) := by decide +kernel
theorem dX12_with_7 : decode cX12_with 7 = .ok (.astore_n 2, 1) := by decide +kernel
theorem dX12_with_8 : decode cX12_with 8 = .ok (.iconst 0, 1) := by decide +kernel
theorem dX12_with_9 : decode cX12_with 9 = .ok (.istore_n 3, 1) := by decide +kernel
theorem dX12_with_10 : decode cX12_with 10 = .ok (.iload_n 3, 1) := by decide +kernel
theorem dX12_with_11 : decode cX12_with 11 = .ok (.aload_n 0, 1) := by decide +kernel
theorem dX12_with_12 : decode cX12_with 12 = .ok (.arraylength, 1) := by decide +kernel
theorem dX12_with_13 : decode cX12_with 13 = .ok (.if_icmp .ge 15, 3) := by decide +kernel
theorem dX12_with_16 : decode cX12_with 16 = .ok (.aload_n 2, 1) := by decide +kernel
theorem dX12_with_17 : decode cX12_with 17 = .ok (.iload_n 3, 1) := by decide +kernel
theorem dX12_with_18 : decode cX12_with 18 = .ok (.aload_n 0, 1) := by decide +kernel
theorem dX12_with_19 : decode cX12_with 19 = .ok (.iload_n 3, 1) := by decide +kernel
theorem dX12_with_20 : decode cX12_with 20 = .ok (.aaload, 1) := by decide +kernel
theorem dX12_with_21 : decode cX12_with 21 = .ok (.aastore, 1) := by decide +kernel
theorem dX12_with_22 : decode cX12_with 22 = .ok (.iinc 3 1, 3) := by decide +kernel
theorem dX12_with_25 : decode cX12_with 25 = .ok (.goto (-15), 3) := by decide +kernel
theorem dX12_with_28 : decode cX12_with 28 = .ok (.aload_n 2, 1) := by decide +kernel
theorem dX12_with_29 : decode cX12_with 29 = .ok (.aload_n 0, 1) := by decide +kernel
theorem dX12_with_30 : decode cX12_with 30 = .ok (.arraylength, 1) := by decide +kernel
theorem dX12_with_31 : decode cX12_with 31 = .ok (.aload_n 1, 1) := by decide +kernel
theorem dX12_with_32 : decode cX12_with 32 = .ok (.aastore, 1) := by decide +kernel
theorem dX12_with_33 : decode cX12_with 33 = .ok (.aload_n 2, 1) := by decide +kernel
theorem dX12_with_34 : decode cX12_with 34 = .ok (.areturn, 1) := by decide +kernel
theorem dX12_without_0 : decode cX12_without 0 = .ok (.aload_n 0, 1) := by decide +kernel
theorem dX12_without_1 : decode cX12_without 1 = .ok (.arraylength, 1) := by decide +kernel
theorem dX12_without_2 : decode cX12_without 2 = .ok (.iconst 1, 1) := by decide +kernel
theorem dX12_without_3 : decode cX12_without 3 = .ok (.isub, 1) := by decide +kernel
theorem dX12_without_4 : decode cX12_without 4 = .ok (.anewarray 34, 3) := by decide +kernel
theorem dX12_without_7 : decode cX12_without 7 = .ok (.astore_n 2, 1) := by decide +kernel
theorem dX12_without_8 : decode cX12_without 8 = .ok (.iconst 0, 1) := by decide +kernel
theorem dX12_without_9 : decode cX12_without 9 = .ok (.istore_n 3, 1) := by decide +kernel
theorem dX12_without_10 : decode cX12_without 10 = .ok (.iload_n 3, 1) := by decide +kernel
theorem dX12_without_11 : decode cX12_without 11 = .ok (.aload_n 2, 1) := by decide +kernel
theorem dX12_without_12 : decode cX12_without 12 = .ok (.arraylength, 1) := by decide +kernel
theorem dX12_without_13 : decode cX12_without 13 = .ok (.if_icmp .ge 26, 3) := by decide +kernel
theorem dX12_without_16 : decode cX12_without 16 = .ok (.aload_n 2, 1) := by decide +kernel
theorem dX12_without_17 : decode cX12_without 17 = .ok (.iload_n 3, 1) := by decide +kernel
theorem dX12_without_18 : decode cX12_without 18 = .ok (.aload_n 0, 1) := by decide +kernel
theorem dX12_without_19 : decode cX12_without 19 = .ok (.iload_n 3, 1) := by decide +kernel
theorem dX12_without_20 : decode cX12_without 20 = .ok (.iload_n 1, 1) := by decide +kernel
theorem dX12_without_21 : decode cX12_without 21 = .ok (.if_icmp .ge 7, 3) := by decide +kernel
theorem dX12_without_24 : decode cX12_without 24 = .ok (.iload_n 3, 1) := by decide +kernel
theorem dX12_without_25 : decode cX12_without 25 = .ok (.goto 6, 3) := by decide +kernel
theorem dX12_without_28 : decode cX12_without 28 = .ok (.iload_n 3, 1) := by decide +kernel
theorem dX12_without_29 : decode cX12_without 29 = .ok (.iconst 1, 1) := by decide +kernel
theorem dX12_without_30 : decode cX12_without 30 = .ok (.iadd, 1) := by decide +kernel
theorem dX12_without_31 : decode cX12_without 31 = .ok (.aaload, 1) := by decide +kernel
theorem dX12_without_32 : decode cX12_without 32 = .ok (.aastore, 1) := by decide +kernel
theorem dX12_without_33 : decode cX12_without 33 = .ok (.iinc 3 1, 3) := by decide +kernel
theorem dX12_without_36 : decode cX12_without 36 = .ok (.goto (-26), 3) := by decide +kernel
theorem dX12_without_39 : decode cX12_without 39 = .ok (.aload_n 2, 1) := by decide +kernel
theorem dX12_without_40 : decode cX12_without 40 = .ok (.areturn, 1) := by decide +kernel
theorem dX12_skewed_0 : decode cX12_skewed 0 = .ok (.aload_n 0, 1) := by decide +kernel
theorem dX12_skewed_1 : decode cX12_skewed 1 = .ok (.getfield 22, 3) := by decide +kernel
theorem dX12_skewed_4 : decode cX12_skewed 4 = .ok (.iload_n 1, 1) := by decide +kernel
theorem dX12_skewed_5 : decode cX12_skewed 5 = .ok (.iaload, 1) := by decide +kernel
theorem dX12_skewed_6 : decode cX12_skewed 6 = .ok (.aload_n 0, 1) := by decide +kernel
theorem dX12_skewed_7 : decode cX12_skewed 7 = .ok (.getfield 16, 3) := by decide +kernel
theorem dX12_skewed_10 : decode cX12_skewed 10 = .ok (.iload_n 2, 1) := by decide +kernel
theorem dX12_skewed_11 : decode cX12_skewed 11 = .ok (.iaload, 1) := by decide +kernel
theorem dX12_skewed_12 : decode cX12_skewed 12 = .ok (.isub, 1) := by decide +kernel
theorem dX12_skewed_13 : decode cX12_skewed 13 = .ok (.invokestatic 59, 3) := by decide +kernel
theorem dX12_skewed_16 : decode cX12_skewed 16 = .ok (.aload_n 0, 1) := by decide +kernel
theorem dX12_skewed_17 : decode cX12_skewed 17 = .ok (.getfield 48, 3) := by decide +kernel
theorem dX12_skewed_20 : decode cX12_skewed 20 = .ok (.if_icmp .le 7, 3) := by decide +kernel
theorem dX12_skewed_23 : decode cX12_skewed 23 = .ok (.iconst 1, 1) := by decide +kernel
theorem dX12_skewed_24 : decode cX12_skewed 24 = .ok (.goto 4, 3) := by decide +kernel
theorem dX12_skewed_27 : decode cX12_skewed 27 = .ok (.iconst 0, 1) := by decide +kernel
theorem dX12_skewed_28 : decode cX12_skewed 28 = .ok (.ireturn, 1) := by decide +kernel
theorem dX12_draws_0 : decode cX12_draws 0 = .ok (.aload_n 0, 1) := by decide +kernel
theorem dX12_draws_1 : decode cX12_draws 1 = .ok (.bipush 21, 2) := by decide +kernel
theorem dX12_draws_3 : decode cX12_draws 3 = .ok (.aload_n 0, 1) := by decide +kernel
theorem dX12_draws_4 : decode cX12_draws 4 = .ok (.getfield 52, 3) := by decide +kernel
theorem dX12_draws_7 : decode cX12_draws 7 = .ok (.imul, 1) := by decide +kernel
theorem dX12_draws_8 : decode cX12_draws 8 = .ok (.bipush 7, 2) := by decide +kernel
theorem dX12_draws_10 : decode cX12_draws 10 = .ok (.iadd, 1) := by decide +kernel
theorem dX12_draws_11 : decode cX12_draws 11 = .ok (.sipush 1024, 3) := by decide +kernel
theorem dX12_draws_14 : decode cX12_draws 14 = .ok (.irem, 1) := by decide +kernel
theorem dX12_draws_15 : decode cX12_draws 15 = .ok (.putfield 52, 3) := by decide +kernel
theorem dX12_draws_18 : decode cX12_draws 18 = .ok (.aload_n 0, 1) := by decide +kernel
theorem dX12_draws_19 : decode cX12_draws 19 = .ok (.getfield 52, 3) := by decide +kernel
theorem dX12_draws_22 : decode cX12_draws 22 = .ok (.ireturn, 1) := by decide +kernel
theorem dX12_makes_0 : decode cX12_makes 0 = .ok (.aload_n 0, 1) := by decide +kernel
theorem dX12_makes_1 : decode cX12_makes 1 = .ok (.aload_n 0, 1) := by decide +kernel
theorem dX12_makes_2 : decode cX12_makes 2 = .ok (.getfield 35, 3) := by decide +kernel
theorem dX12_makes_5 : decode cX12_makes 5 = .ok (.bipush 10, 2) := by decide +kernel
theorem dX12_makes_7 : decode cX12_makes 7 = .ok (.newarray .int, 2) := by decide +kernel
theorem dX12_makes_9 : decode cX12_makes 9 = .ok (.dup, 1) := by decide +kernel
theorem dX12_makes_10 : decode cX12_makes 10 = .ok (.iconst 0, 1) := by decide +kernel
theorem dX12_makes_11 : decode cX12_makes 11 = .ok (.aload_n 0, 1) := by decide +kernel
theorem dX12_makes_12 : decode cX12_makes 12 = .ok (.getfield 64, 3) := by decide +kernel
theorem dX12_makes_15 : decode cX12_makes 15 = .ok (.iastore, 1) := by decide +kernel
theorem dX12_makes_16 : decode cX12_makes 16 = .ok (.dup, 1) := by decide +kernel
theorem dX12_makes_17 : decode cX12_makes 17 = .ok (.iconst 1, 1) := by decide +kernel
theorem dX12_makes_18 : decode cX12_makes 18 = .ok (.iload_n 3, 1) := by decide +kernel
theorem dX12_makes_19 : decode cX12_makes 19 = .ok (.ifCond .ge 7, 3) := by decide +kernel
theorem dX12_makes_22 : decode cX12_makes 22 = .ok (.iconst 0, 1) := by decide +kernel
theorem dX12_makes_23 : decode cX12_makes 23 = .ok (.goto 4, 3) := by decide +kernel
theorem dX12_makes_26 : decode cX12_makes 26 = .ok (.iconst 1, 1) := by decide +kernel
theorem dX12_makes_27 : decode cX12_makes 27 = .ok (.iastore, 1) := by decide +kernel
theorem dX12_makes_28 : decode cX12_makes 28 = .ok (.dup, 1) := by decide +kernel
theorem dX12_makes_29 : decode cX12_makes 29 = .ok (.iconst 2, 1) := by decide +kernel
theorem dX12_makes_30 : decode cX12_makes 30 = .ok (.iload_n 1, 1) := by decide +kernel
theorem dX12_makes_31 : decode cX12_makes 31 = .ok (.iastore, 1) := by decide +kernel
theorem dX12_makes_32 : decode cX12_makes 32 = .ok (.dup, 1) := by decide +kernel
theorem dX12_makes_33 : decode cX12_makes 33 = .ok (.iconst 3, 1) := by decide +kernel
theorem dX12_makes_34 : decode cX12_makes 34 = .ok (.iload_n 2, 1) := by decide +kernel
theorem dX12_makes_35 : decode cX12_makes 35 = .ok (.iastore, 1) := by decide +kernel
theorem dX12_makes_36 : decode cX12_makes 36 = .ok (.dup, 1) := by decide +kernel
theorem dX12_makes_37 : decode cX12_makes 37 = .ok (.iconst 4, 1) := by decide +kernel
theorem dX12_makes_38 : decode cX12_makes 38 = .ok (.iload_n 3, 1) := by decide +kernel
theorem dX12_makes_39 : decode cX12_makes 39 = .ok (.iastore, 1) := by decide +kernel
theorem dX12_makes_40 : decode cX12_makes 40 = .ok (.dup, 1) := by decide +kernel
theorem dX12_makes_41 : decode cX12_makes 41 = .ok (.iconst 5, 1) := by decide +kernel
theorem dX12_makes_42 : decode cX12_makes 42 = .ok (.aload_n 0, 1) := by decide +kernel
theorem dX12_makes_43 : decode cX12_makes 43 = .ok (.getfield 67, 3) := by decide +kernel
theorem dX12_makes_46 : decode cX12_makes 46 = .ok (.iastore, 1) := by decide +kernel
theorem dX12_makes_47 : decode cX12_makes 47 = .ok (.dup, 1) := by decide +kernel
theorem dX12_makes_48 : decode cX12_makes 48 = .ok (.bipush 6, 2) := by decide +kernel
theorem dX12_makes_50 : decode cX12_makes 50 = .ok (.iload 4, 2) := by decide +kernel
theorem dX12_makes_52 : decode cX12_makes 52 = .ok (.iastore, 1) := by decide +kernel
theorem dX12_makes_53 : decode cX12_makes 53 = .ok (.dup, 1) := by decide +kernel
theorem dX12_makes_54 : decode cX12_makes 54 = .ok (.bipush 7, 2) := by decide +kernel
theorem dX12_makes_56 : decode cX12_makes 56 = .ok (.iload 6, 2) := by decide +kernel
theorem dX12_makes_58 : decode cX12_makes 58 = .ok (.iconst 1, 1) := by decide +kernel
theorem dX12_makes_59 : decode cX12_makes 59 = .ok (.if_icmp .ne 13, 3) := by decide +kernel
theorem dX12_makes_62 : decode cX12_makes 62 = .ok (.iload 5, 2) := by decide +kernel
theorem dX12_makes_64 : decode cX12_makes 64 = .ok (.iload 4, 2) := by decide +kernel
theorem dX12_makes_66 : decode cX12_makes 66 = .ok (.invokestatic 70, 3) := by decide +kernel
theorem dX12_makes_69 : decode cX12_makes 69 = .ok (.goto 5, 3) := by decide +kernel
theorem dX12_makes_72 : decode cX12_makes 72 = .ok (.iload 4, 2) := by decide +kernel
theorem dX12_makes_74 : decode cX12_makes 74 = .ok (.iastore, 1) := by decide +kernel
theorem dX12_makes_75 : decode cX12_makes 75 = .ok (.dup, 1) := by decide +kernel
theorem dX12_makes_76 : decode cX12_makes 76 = .ok (.bipush 8, 2) := by decide +kernel
theorem dX12_makes_78 : decode cX12_makes 78 = .ok (.aload_n 0, 1) := by decide +kernel
theorem dX12_makes_79 : decode cX12_makes 79 = .ok (.invokevirtual 74, 3) := by decide +kernel
theorem dX12_makes_82 : decode cX12_makes 82 = .ok (.iastore, 1) := by decide +kernel
theorem dX12_makes_83 : decode cX12_makes 83 = .ok (.dup, 1) := by decide +kernel
theorem dX12_makes_84 : decode cX12_makes 84 = .ok (.bipush 9, 2) := by decide +kernel
theorem dX12_makes_86 : decode cX12_makes 86 = .ok (.iload 6, 2) := by decide +kernel
theorem dX12_makes_88 : decode cX12_makes 88 = .ok (.iastore, 1) := by decide +kernel
theorem dX12_makes_89 : decode cX12_makes 89 = .ok (.invokestatic 78, 3) := by decide +kernel
theorem dX12_makes_92 : decode cX12_makes 92 = .ok (.putfield 35, 3) := by decide +kernel
theorem dX12_makes_95 : decode cX12_makes 95 = .ok (.aload_n 0, 1) := by decide +kernel
theorem dX12_makes_96 : decode cX12_makes 96 = .ok (.dup, 1) := by decide +kernel
theorem dX12_makes_97 : decode cX12_makes 97 = .ok (.getfield 64, 3) := by decide +kernel
theorem dX12_makes_100 : decode cX12_makes 100 = .ok (.iconst 1, 1) := by decide +kernel
theorem dX12_makes_101 : decode cX12_makes 101 = .ok (.iadd, 1) := by decide +kernel
theorem dX12_makes_102 : decode cX12_makes 102 = .ok (.putfield 64, 3) := by decide +kernel
theorem dX12_makes_105 : decode cX12_makes 105 = .ok (.aload_n 0, 1) := by decide +kernel
theorem dX12_makes_106 : decode cX12_makes 106 = .ok (.getfield 64, 3) := by decide +kernel
theorem dX12_makes_109 : decode cX12_makes 109 = .ok (.iconst 1, 1) := by decide +kernel
theorem dX12_makes_110 : decode cX12_makes 110 = .ok (.isub, 1) := by decide +kernel
theorem dX12_makes_111 : decode cX12_makes 111 = .ok (.ireturn, 1) := by decide +kernel
theorem dX12_derives_0 : decode cX12_derives 0 = .ok (.aload_n 0, 1) := by decide +kernel
theorem dX12_derives_1 : decode cX12_derives 1 = .ok (.aload_n 1, 1) := by decide +kernel
theorem dX12_derives_2 : decode cX12_derives 2 = .ok (.iconst 2, 1) := by decide +kernel
theorem dX12_derives_3 : decode cX12_derives 3 = .ok (.iaload, 1) := by decide +kernel
theorem dX12_derives_4 : decode cX12_derives 4 = .ok (.aload_n 1, 1) := by decide +kernel
theorem dX12_derives_5 : decode cX12_derives 5 = .ok (.iconst 3, 1) := by decide +kernel
theorem dX12_derives_6 : decode cX12_derives 6 = .ok (.iaload, 1) := by decide +kernel
theorem dX12_derives_7 : decode cX12_derives 7 = .ok (.invokevirtual 82, 3) := by decide +kernel
theorem dX12_derives_10 : decode cX12_derives 10 = .ok (.ifCond .ne 13, 3) := by decide +kernel
theorem dX12_derives_13 : decode cX12_derives 13 = .ok (.aload_n 0, 1) := by decide +kernel
theorem dX12_derives_14 : decode cX12_derives 14 = .ok (.getfield 35, 3) := by decide +kernel
theorem dX12_derives_17 : decode cX12_derives 17 = .ok (.arraylength, 1) := by decide +kernel
theorem dX12_derives_18 : decode cX12_derives 18 = .ok (.bipush 24, 2) := by decide +kernel
theorem dX12_derives_20 : decode cX12_derives 20 = .ok (.if_icmp .ne 6, 3) := by decide +kernel
theorem dX12_derives_23 : decode cX12_derives 23 = .ok (.bipush (-9), 2) := by decide +kernel
theorem dX12_derives_25 : decode cX12_derives 25 = .ok (.ireturn, 1) := by decide +kernel
theorem dX12_derives_26 : decode cX12_derives 26 = .ok (.aload_n 0, 1) := by decide +kernel
theorem dX12_derives_27 : decode cX12_derives 27 = .ok (.aload_n 1, 1) := by decide +kernel
theorem dX12_derives_28 : decode cX12_derives 28 = .ok (.iconst 2, 1) := by decide +kernel
theorem dX12_derives_29 : decode cX12_derives 29 = .ok (.iaload, 1) := by decide +kernel
theorem dX12_derives_30 : decode cX12_derives 30 = .ok (.iload_n 2, 1) := by decide +kernel
theorem dX12_derives_31 : decode cX12_derives 31 = .ok (.iload_n 3, 1) := by decide +kernel
theorem dX12_derives_32 : decode cX12_derives 32 = .ok (.aload_n 0, 1) := by decide +kernel
theorem dX12_derives_33 : decode cX12_derives 33 = .ok (.getfield 67, 3) := by decide +kernel
theorem dX12_derives_36 : decode cX12_derives 36 = .ok (.aload_n 0, 1) := by decide +kernel
theorem dX12_derives_37 : decode cX12_derives 37 = .ok (.getfield 7, 3) := by decide +kernel
theorem dX12_derives_40 : decode cX12_derives 40 = .ok (.iload_n 2, 1) := by decide +kernel
theorem dX12_derives_41 : decode cX12_derives 41 = .ok (.iaload, 1) := by decide +kernel
theorem dX12_derives_42 : decode cX12_derives 42 = .ok (.iadd, 1) := by decide +kernel
theorem dX12_derives_43 : decode cX12_derives 43 = .ok (.aload_n 1, 1) := by decide +kernel
theorem dX12_derives_44 : decode cX12_derives 44 = .ok (.bipush 6, 2) := by decide +kernel
theorem dX12_derives_46 : decode cX12_derives 46 = .ok (.iaload, 1) := by decide +kernel
theorem dX12_derives_47 : decode cX12_derives 47 = .ok (.invokestatic 86, 3) := by decide +kernel
theorem dX12_derives_50 : decode cX12_derives 50 = .ok (.aload_n 0, 1) := by decide +kernel
theorem dX12_derives_51 : decode cX12_derives 51 = .ok (.getfield 67, 3) := by decide +kernel
theorem dX12_derives_54 : decode cX12_derives 54 = .ok (.aload_n 0, 1) := by decide +kernel
theorem dX12_derives_55 : decode cX12_derives 55 = .ok (.getfield 13, 3) := by decide +kernel
theorem dX12_derives_58 : decode cX12_derives 58 = .ok (.iload_n 2, 1) := by decide +kernel
theorem dX12_derives_59 : decode cX12_derives 59 = .ok (.iaload, 1) := by decide +kernel
theorem dX12_derives_60 : decode cX12_derives 60 = .ok (.iadd, 1) := by decide +kernel
theorem dX12_derives_61 : decode cX12_derives 61 = .ok (.aload_n 1, 1) := by decide +kernel
theorem dX12_derives_62 : decode cX12_derives 62 = .ok (.bipush 7, 2) := by decide +kernel
theorem dX12_derives_64 : decode cX12_derives 64 = .ok (.iaload, 1) := by decide +kernel
theorem dX12_derives_65 : decode cX12_derives 65 = .ok (.invokestatic 86, 3) := by decide +kernel
theorem dX12_derives_68 : decode cX12_derives 68 = .ok (.aload_n 1, 1) := by decide +kernel
theorem dX12_derives_69 : decode cX12_derives 69 = .ok (.bipush 9, 2) := by decide +kernel
theorem dX12_derives_71 : decode cX12_derives 71 = .ok (.iaload, 1) := by decide +kernel
theorem dX12_derives_72 : decode cX12_derives 72 = .ok (.invokevirtual 89, 3) := by decide +kernel
theorem dX12_derives_75 : decode cX12_derives 75 = .ok (.ireturn, 1) := by decide +kernel
theorem dX12_gets_0 : decode cX12_gets 0 = .ok (.aload_n 1, 1) := by decide +kernel
theorem dX12_gets_1 : decode cX12_gets 1 = .ok (.iconst 1, 1) := by decide +kernel
theorem dX12_gets_2 : decode cX12_gets 2 = .ok (.iaload, 1) := by decide +kernel
theorem dX12_gets_3 : decode cX12_gets 3 = .ok (.iconst 1, 1) := by decide +kernel
theorem dX12_gets_4 : decode cX12_gets 4 = .ok (.if_icmp .ne 27, 3) := by decide +kernel
theorem dX12_gets_7 : decode cX12_gets 7 = .ok (.aload_n 0, 1) := by decide +kernel
theorem dX12_gets_8 : decode cX12_gets 8 = .ok (.getfield 67, 3) := by decide +kernel
theorem dX12_gets_11 : decode cX12_gets 11 = .ok (.aload_n 1, 1) := by decide +kernel
theorem dX12_gets_12 : decode cX12_gets 12 = .ok (.bipush 6, 2) := by decide +kernel
theorem dX12_gets_14 : decode cX12_gets 14 = .ok (.iaload, 1) := by decide +kernel
theorem dX12_gets_15 : decode cX12_gets 15 = .ok (.if_icmp .ge 16, 3) := by decide +kernel
theorem dX12_gets_18 : decode cX12_gets 18 = .ok (.aload_n 0, 1) := by decide +kernel
theorem dX12_gets_19 : decode cX12_gets 19 = .ok (.aload_n 1, 1) := by decide +kernel
theorem dX12_gets_20 : decode cX12_gets 20 = .ok (.iconst 2, 1) := by decide +kernel
theorem dX12_gets_21 : decode cX12_gets 21 = .ok (.iaload, 1) := by decide +kernel
theorem dX12_gets_22 : decode cX12_gets 22 = .ok (.aload_n 1, 1) := by decide +kernel
theorem dX12_gets_23 : decode cX12_gets 23 = .ok (.iconst 3, 1) := by decide +kernel
theorem dX12_gets_24 : decode cX12_gets 24 = .ok (.iaload, 1) := by decide +kernel
theorem dX12_gets_25 : decode cX12_gets 25 = .ok (.invokevirtual 82, 3) := by decide +kernel
theorem dX12_gets_28 : decode cX12_gets 28 = .ok (.ifCond .eq 6, 3) := by decide +kernel
theorem dX12_gets_31 : decode cX12_gets 31 = .ok (.bipush (-9), 2) := by decide +kernel
theorem dX12_gets_33 : decode cX12_gets 33 = .ok (.ireturn, 1) := by decide +kernel
theorem dX12_gets_34 : decode cX12_gets 34 = .ok (.aload_n 0, 1) := by decide +kernel
theorem dX12_gets_35 : decode cX12_gets 35 = .ok (.getfield 39, 3) := by decide +kernel
theorem dX12_gets_38 : decode cX12_gets 38 = .ok (.astore_n 2, 1) := by decide +kernel
theorem dX12_gets_39 : decode cX12_gets 39 = .ok (.aload_n 2, 1) := by decide +kernel
theorem dX12_gets_40 : decode cX12_gets 40 = .ok (.arraylength, 1) := by decide +kernel
theorem dX12_gets_41 : decode cX12_gets 41 = .ok (.istore_n 3, 1) := by decide +kernel
theorem dX12_gets_42 : decode cX12_gets 42 = .ok (.iconst 0, 1) := by decide +kernel
theorem dX12_gets_43 : decode cX12_gets 43 = .ok (.istore 4, 2) := by decide +kernel
theorem dX12_gets_45 : decode cX12_gets 45 = .ok (.iload 4, 2) := by decide +kernel
theorem dX12_gets_47 : decode cX12_gets 47 = .ok (.iload_n 3, 1) := by decide +kernel
theorem dX12_gets_48 : decode cX12_gets 48 = .ok (.if_icmp .ge 58, 3) := by decide +kernel
theorem dX12_gets_51 : decode cX12_gets 51 = .ok (.aload_n 2, 1) := by decide +kernel
theorem dX12_gets_52 : decode cX12_gets 52 = .ok (.iload 4, 2) := by decide +kernel
theorem dX12_gets_54 : decode cX12_gets 54 = .ok (.aaload, 1) := by decide +kernel
theorem dX12_gets_55 : decode cX12_gets 55 = .ok (.astore 5, 2) := by decide +kernel
theorem dX12_gets_57 : decode cX12_gets 57 = .ok (.aload 5, 2) := by decide +kernel
theorem dX12_gets_59 : decode cX12_gets 59 = .ok (.iconst 0, 1) := by decide +kernel
theorem dX12_gets_60 : decode cX12_gets 60 = .ok (.iaload, 1) := by decide +kernel
theorem dX12_gets_61 : decode cX12_gets 61 = .ok (.aload_n 1, 1) := by decide +kernel
theorem dX12_gets_62 : decode cX12_gets 62 = .ok (.iconst 2, 1) := by decide +kernel
theorem dX12_gets_63 : decode cX12_gets 63 = .ok (.iaload, 1) := by decide +kernel
theorem dX12_gets_64 : decode cX12_gets 64 = .ok (.if_icmp .ne 36, 3) := by decide +kernel
theorem dX12_gets_67 : decode cX12_gets 67 = .ok (.aload 5, 2) := by decide +kernel
theorem dX12_gets_69 : decode cX12_gets 69 = .ok (.iconst 1, 1) := by decide +kernel
theorem dX12_gets_70 : decode cX12_gets 70 = .ok (.iaload, 1) := by decide +kernel
theorem dX12_gets_71 : decode cX12_gets 71 = .ok (.aload_n 1, 1) := by decide +kernel
theorem dX12_gets_72 : decode cX12_gets 72 = .ok (.iconst 4, 1) := by decide +kernel
theorem dX12_gets_73 : decode cX12_gets 73 = .ok (.iaload, 1) := by decide +kernel
theorem dX12_gets_74 : decode cX12_gets 74 = .ok (.if_icmp .ne 26, 3) := by decide +kernel
theorem dX12_gets_77 : decode cX12_gets 77 = .ok (.aload 5, 2) := by decide +kernel
theorem dX12_gets_79 : decode cX12_gets 79 = .ok (.iconst 2, 1) := by decide +kernel
theorem dX12_gets_80 : decode cX12_gets 80 = .ok (.iaload, 1) := by decide +kernel
theorem dX12_gets_81 : decode cX12_gets 81 = .ok (.aload_n 0, 1) := by decide +kernel
theorem dX12_gets_82 : decode cX12_gets 82 = .ok (.getfield 67, 3) := by decide +kernel
theorem dX12_gets_85 : decode cX12_gets 85 = .ok (.aload_n 0, 1) := by decide +kernel
theorem dX12_gets_86 : decode cX12_gets 86 = .ok (.getfield 22, 3) := by decide +kernel
theorem dX12_gets_89 : decode cX12_gets 89 = .ok (.aload_n 1, 1) := by decide +kernel
theorem dX12_gets_90 : decode cX12_gets 90 = .ok (.iconst 2, 1) := by decide +kernel
theorem dX12_gets_91 : decode cX12_gets 91 = .ok (.iaload, 1) := by decide +kernel
theorem dX12_gets_92 : decode cX12_gets 92 = .ok (.iaload, 1) := by decide +kernel
theorem dX12_gets_93 : decode cX12_gets 93 = .ok (.iadd, 1) := by decide +kernel
theorem dX12_gets_94 : decode cX12_gets 94 = .ok (.if_icmp .ne 6, 3) := by decide +kernel
theorem dX12_gets_97 : decode cX12_gets 97 = .ok (.bipush (-9), 2) := by decide +kernel
theorem dX12_gets_99 : decode cX12_gets 99 = .ok (.ireturn, 1) := by decide +kernel
theorem dX12_gets_100 : decode cX12_gets 100 = .ok (.iinc 4 1, 3) := by decide +kernel
theorem dX12_gets_103 : decode cX12_gets 103 = .ok (.goto (-58), 3) := by decide +kernel
theorem dX12_gets_106 : decode cX12_gets 106 = .ok (.aload_n 0, 1) := by decide +kernel
theorem dX12_gets_107 : decode cX12_gets 107 = .ok (.getfield 31, 3) := by decide +kernel
theorem dX12_gets_110 : decode cX12_gets 110 = .ok (.aload_n 1, 1) := by decide +kernel
theorem dX12_gets_111 : decode cX12_gets 111 = .ok (.iconst 4, 1) := by decide +kernel
theorem dX12_gets_112 : decode cX12_gets 112 = .ok (.iaload, 1) := by decide +kernel
theorem dX12_gets_113 : decode cX12_gets 113 = .ok (.iaload, 1) := by decide +kernel
theorem dX12_gets_114 : decode cX12_gets 114 = .ok (.ifCond .ne 6, 3) := by decide +kernel
theorem dX12_gets_117 : decode cX12_gets 117 = .ok (.bipush (-9), 2) := by decide +kernel
theorem dX12_gets_119 : decode cX12_gets 119 = .ok (.ireturn, 1) := by decide +kernel
theorem dX12_gets_120 : decode cX12_gets 120 = .ok (.aload_n 0, 1) := by decide +kernel
theorem dX12_gets_121 : decode cX12_gets 121 = .ok (.getfield 31, 3) := by decide +kernel
theorem dX12_gets_124 : decode cX12_gets 124 = .ok (.aload_n 1, 1) := by decide +kernel
theorem dX12_gets_125 : decode cX12_gets 125 = .ok (.iconst 4, 1) := by decide +kernel
theorem dX12_gets_126 : decode cX12_gets 126 = .ok (.iaload, 1) := by decide +kernel
theorem dX12_gets_127 : decode cX12_gets 127 = .ok (.dup2, 1) := by decide +kernel
theorem dX12_gets_128 : decode cX12_gets 128 = .ok (.iaload, 1) := by decide +kernel
theorem dX12_gets_129 : decode cX12_gets 129 = .ok (.iconst 1, 1) := by decide +kernel
theorem dX12_gets_130 : decode cX12_gets 130 = .ok (.isub, 1) := by decide +kernel
theorem dX12_gets_131 : decode cX12_gets 131 = .ok (.iastore, 1) := by decide +kernel
theorem dX12_gets_132 : decode cX12_gets 132 = .ok (.aload_n 0, 1) := by decide +kernel
theorem dX12_gets_133 : decode cX12_gets 133 = .ok (.getfield 25, 3) := by decide +kernel
theorem dX12_gets_136 : decode cX12_gets 136 = .ok (.aload_n 1, 1) := by decide +kernel
theorem dX12_gets_137 : decode cX12_gets 137 = .ok (.iconst 2, 1) := by decide +kernel
theorem dX12_gets_138 : decode cX12_gets 138 = .ok (.iaload, 1) := by decide +kernel
theorem dX12_gets_139 : decode cX12_gets 139 = .ok (.dup2, 1) := by decide +kernel
theorem dX12_gets_140 : decode cX12_gets 140 = .ok (.iaload, 1) := by decide +kernel
theorem dX12_gets_141 : decode cX12_gets 141 = .ok (.iconst 1, 1) := by decide +kernel
theorem dX12_gets_142 : decode cX12_gets 142 = .ok (.iadd, 1) := by decide +kernel
theorem dX12_gets_143 : decode cX12_gets 143 = .ok (.iastore, 1) := by decide +kernel
theorem dX12_gets_144 : decode cX12_gets 144 = .ok (.aload_n 0, 1) := by decide +kernel
theorem dX12_gets_145 : decode cX12_gets 145 = .ok (.aload_n 0, 1) := by decide +kernel
theorem dX12_gets_146 : decode cX12_gets 146 = .ok (.getfield 39, 3) := by decide +kernel
theorem dX12_gets_149 : decode cX12_gets 149 = .ok (.iconst 4, 1) := by decide +kernel
theorem dX12_gets_150 : decode cX12_gets 150 = .ok (.newarray .int, 2) := by decide +kernel
theorem dX12_gets_152 : decode cX12_gets 152 = .ok (.dup, 1) := by decide +kernel
theorem dX12_gets_153 : decode cX12_gets 153 = .ok (.iconst 0, 1) := by decide +kernel
theorem dX12_gets_154 : decode cX12_gets 154 = .ok (.aload_n 1, 1) := by decide +kernel
theorem dX12_gets_155 : decode cX12_gets 155 = .ok (.iconst 2, 1) := by decide +kernel
theorem dX12_gets_156 : decode cX12_gets 156 = .ok (.iaload, 1) := by decide +kernel
theorem dX12_gets_157 : decode cX12_gets 157 = .ok (.iastore, 1) := by decide +kernel
theorem dX12_gets_158 : decode cX12_gets 158 = .ok (.dup, 1) := by decide +kernel
theorem dX12_gets_159 : decode cX12_gets 159 = .ok (.iconst 1, 1) := by decide +kernel
theorem dX12_gets_160 : decode cX12_gets 160 = .ok (.aload_n 1, 1) := by decide +kernel
theorem dX12_gets_161 : decode cX12_gets 161 = .ok (.iconst 4, 1) := by decide +kernel
theorem dX12_gets_162 : decode cX12_gets 162 = .ok (.iaload, 1) := by decide +kernel
theorem dX12_gets_163 : decode cX12_gets 163 = .ok (.iastore, 1) := by decide +kernel
theorem dX12_gets_164 : decode cX12_gets 164 = .ok (.dup, 1) := by decide +kernel
theorem dX12_gets_165 : decode cX12_gets 165 = .ok (.iconst 2, 1) := by decide +kernel
theorem dX12_gets_166 : decode cX12_gets 166 = .ok (.aload_n 0, 1) := by decide +kernel
theorem dX12_gets_167 : decode cX12_gets 167 = .ok (.getfield 67, 3) := by decide +kernel
theorem dX12_gets_170 : decode cX12_gets 170 = .ok (.aload_n 0, 1) := by decide +kernel
theorem dX12_gets_171 : decode cX12_gets 171 = .ok (.getfield 22, 3) := by decide +kernel
theorem dX12_gets_174 : decode cX12_gets 174 = .ok (.aload_n 1, 1) := by decide +kernel
theorem dX12_gets_175 : decode cX12_gets 175 = .ok (.iconst 2, 1) := by decide +kernel
theorem dX12_gets_176 : decode cX12_gets 176 = .ok (.iaload, 1) := by decide +kernel
theorem dX12_gets_177 : decode cX12_gets 177 = .ok (.iaload, 1) := by decide +kernel
theorem dX12_gets_178 : decode cX12_gets 178 = .ok (.iadd, 1) := by decide +kernel
theorem dX12_gets_179 : decode cX12_gets 179 = .ok (.iastore, 1) := by decide +kernel
theorem dX12_gets_180 : decode cX12_gets 180 = .ok (.dup, 1) := by decide +kernel
theorem dX12_gets_181 : decode cX12_gets 181 = .ok (.iconst 3, 1) := by decide +kernel
theorem dX12_gets_182 : decode cX12_gets 182 = .ok (.aload_n 0, 1) := by decide +kernel
theorem dX12_gets_183 : decode cX12_gets 183 = .ok (.getfield 67, 3) := by decide +kernel
theorem dX12_gets_186 : decode cX12_gets 186 = .ok (.iastore, 1) := by decide +kernel
theorem dX12_gets_187 : decode cX12_gets 187 = .ok (.invokestatic 78, 3) := by decide +kernel
theorem dX12_gets_190 : decode cX12_gets 190 = .ok (.putfield 39, 3) := by decide +kernel
theorem dX12_gets_193 : decode cX12_gets 193 = .ok (.aload_n 0, 1) := by decide +kernel
theorem dX12_gets_194 : decode cX12_gets 194 = .ok (.getfield 39, 3) := by decide +kernel
theorem dX12_gets_197 : decode cX12_gets 197 = .ok (.arraylength, 1) := by decide +kernel
theorem dX12_gets_198 : decode cX12_gets 198 = .ok (.bipush 30, 2) := by decide +kernel
theorem dX12_gets_200 : decode cX12_gets 200 = .ok (.if_icmp .le 15, 3) := by decide +kernel
theorem dX12_gets_203 : decode cX12_gets 203 = .ok (.aload_n 0, 1) := by decide +kernel
theorem dX12_gets_204 : decode cX12_gets 204 = .ok (.aload_n 0, 1) := by decide +kernel
theorem dX12_gets_205 : decode cX12_gets 205 = .ok (.getfield 39, 3) := by decide +kernel
theorem dX12_gets_208 : decode cX12_gets 208 = .ok (.iconst 0, 1) := by decide +kernel
theorem dX12_gets_209 : decode cX12_gets 209 = .ok (.invokestatic 93, 3) := by decide +kernel
theorem dX12_gets_212 : decode cX12_gets 212 = .ok (.putfield 39, 3) := by decide +kernel
theorem dX12_gets_215 : decode cX12_gets 215 = .ok (.aload_n 0, 1) := by decide +kernel
theorem dX12_gets_216 : decode cX12_gets 216 = .ok (.getfield 25, 3) := by decide +kernel
theorem dX12_gets_219 : decode cX12_gets 219 = .ok (.aload_n 1, 1) := by decide +kernel
theorem dX12_gets_220 : decode cX12_gets 220 = .ok (.iconst 2, 1) := by decide +kernel
theorem dX12_gets_221 : decode cX12_gets 221 = .ok (.iaload, 1) := by decide +kernel
theorem dX12_gets_222 : decode cX12_gets 222 = .ok (.iaload, 1) := by decide +kernel
theorem dX12_gets_223 : decode cX12_gets 223 = .ok (.ireturn, 1) := by decide +kernel
theorem dX12_valid_0 : decode cX12_valid 0 = .ok (.iconst 0, 1) := by decide +kernel
theorem dX12_valid_1 : decode cX12_valid 1 = .ok (.istore_n 1, 1) := by decide +kernel
theorem dX12_valid_2 : decode cX12_valid 2 = .ok (.aload_n 0, 1) := by decide +kernel
theorem dX12_valid_3 : decode cX12_valid 3 = .ok (.getfield 35, 3) := by decide +kernel
theorem dX12_valid_6 : decode cX12_valid 6 = .ok (.astore_n 2, 1) := by decide +kernel
theorem dX12_valid_7 : decode cX12_valid 7 = .ok (.aload_n 2, 1) := by decide +kernel
theorem dX12_valid_8 : decode cX12_valid 8 = .ok (.arraylength, 1) := by decide +kernel
theorem dX12_valid_9 : decode cX12_valid 9 = .ok (.istore_n 3, 1) := by decide +kernel
theorem dX12_valid_10 : decode cX12_valid 10 = .ok (.iconst 0, 1) := by decide +kernel
theorem dX12_valid_11 : decode cX12_valid 11 = .ok (.istore 4, 2) := by decide +kernel
theorem dX12_valid_13 : decode cX12_valid 13 = .ok (.iload 4, 2) := by decide +kernel
theorem dX12_valid_15 : decode cX12_valid 15 = .ok (.iload_n 3, 1) := by decide +kernel
theorem dX12_valid_16 : decode cX12_valid 16 = .ok (.if_icmp .ge 30, 3) := by decide +kernel
theorem dX12_valid_19 : decode cX12_valid 19 = .ok (.aload_n 2, 1) := by decide +kernel
theorem dX12_valid_20 : decode cX12_valid 20 = .ok (.iload 4, 2) := by decide +kernel
theorem dX12_valid_22 : decode cX12_valid 22 = .ok (.aaload, 1) := by decide +kernel
theorem dX12_valid_23 : decode cX12_valid 23 = .ok (.astore 5, 2) := by decide +kernel
theorem dX12_valid_25 : decode cX12_valid 25 = .ok (.aload_n 0, 1) := by decide +kernel
theorem dX12_valid_26 : decode cX12_valid 26 = .ok (.getfield 67, 3) := by decide +kernel
theorem dX12_valid_29 : decode cX12_valid 29 = .ok (.aload 5, 2) := by decide +kernel
theorem dX12_valid_31 : decode cX12_valid 31 = .ok (.bipush 6, 2) := by decide +kernel
theorem dX12_valid_33 : decode cX12_valid 33 = .ok (.iaload, 1) := by decide +kernel
theorem dX12_valid_34 : decode cX12_valid 34 = .ok (.if_icmp .ge 6, 3) := by decide +kernel
theorem dX12_valid_37 : decode cX12_valid 37 = .ok (.iinc 1 1, 3) := by decide +kernel
theorem dX12_valid_40 : decode cX12_valid 40 = .ok (.iinc 4 1, 3) := by decide +kernel
theorem dX12_valid_43 : decode cX12_valid 43 = .ok (.goto (-30), 3) := by decide +kernel
theorem dX12_valid_46 : decode cX12_valid 46 = .ok (.iload_n 1, 1) := by decide +kernel
theorem dX12_valid_47 : decode cX12_valid 47 = .ok (.ireturn, 1) := by decide +kernel
theorem dX12_acts_0 : decode cX12_acts 0 = .ok (.iload_n 2, 1) := by decide +kernel
theorem dX12_acts_1 : decode cX12_acts 1 = .ok (.bipush 32, 2) := by decide +kernel
theorem dX12_acts_3 : decode cX12_acts 3 = .ok (.idiv, 1) := by decide +kernel
theorem dX12_acts_4 : decode cX12_acts 4 = .ok (.istore_n 3, 1) := by decide +kernel
theorem dX12_acts_5 : decode cX12_acts 5 = .ok (.iload_n 3, 1) := by decide +kernel
theorem dX12_acts_6 : decode cX12_acts 6 = .ok (.iconst 3, 1) := by decide +kernel
theorem dX12_acts_7 : decode cX12_acts 7 = .ok (.irem, 1) := by decide +kernel
theorem dX12_acts_8 : decode cX12_acts 8 = .ok (.istore 4, 2) := by decide +kernel
theorem dX12_acts_10 : decode cX12_acts 10 = .ok (.iload_n 3, 1) := by decide +kernel
theorem dX12_acts_11 : decode cX12_acts 11 = .ok (.bipush 16, 2) := by decide +kernel
theorem dX12_acts_13 : decode cX12_acts 13 = .ok (.idiv, 1) := by decide +kernel
theorem dX12_acts_14 : decode cX12_acts 14 = .ok (.istore 5, 2) := by decide +kernel
theorem dX12_acts_16 : decode cX12_acts 16 = .ok (.iload_n 2, 1) := by decide +kernel
theorem dX12_acts_17 : decode cX12_acts 17 = .ok (.bipush 32, 2) := by decide +kernel
theorem dX12_acts_19 : decode cX12_acts 19 = .ok (.irem, 1) := by decide +kernel
theorem dX12_acts_20 : decode cX12_acts 20 = .ok (.bipush 7, 2) := by decide +kernel
theorem dX12_acts_22 : decode cX12_acts 22 = .ok (.if_icmp .lt 16, 3) := by decide +kernel
theorem dX12_acts_25 : decode cX12_acts 25 = .ok (.iload_n 2, 1) := by decide +kernel
theorem dX12_acts_26 : decode cX12_acts 26 = .ok (.bipush 32, 2) := by decide +kernel
theorem dX12_acts_28 : decode cX12_acts 28 = .ok (.irem, 1) := by decide +kernel
theorem dX12_acts_29 : decode cX12_acts 29 = .ok (.bipush 25, 2) := by decide +kernel
theorem dX12_acts_31 : decode cX12_acts 31 = .ok (.if_icmp .ge 7, 3) := by decide +kernel
theorem dX12_acts_34 : decode cX12_acts 34 = .ok (.iconst 1, 1) := by decide +kernel
theorem dX12_acts_35 : decode cX12_acts 35 = .ok (.goto 4, 3) := by decide +kernel
theorem dX12_acts_38 : decode cX12_acts 38 = .ok (.iconst 0, 1) := by decide +kernel
theorem dX12_acts_39 : decode cX12_acts 39 = .ok (.istore 6, 2) := by decide +kernel
theorem dX12_acts_41 : decode cX12_acts 41 = .ok (.iload 6, 2) := by decide +kernel
theorem dX12_acts_43 : decode cX12_acts 43 = .ok (.ifCond .eq 14, 3) := by decide +kernel
theorem dX12_acts_46 : decode cX12_acts 46 = .ok (.aload_n 0, 1) := by decide +kernel
theorem dX12_acts_47 : decode cX12_acts 47 = .ok (.getfield 35, 3) := by decide +kernel
theorem dX12_acts_50 : decode cX12_acts 50 = .ok (.arraylength, 1) := by decide +kernel
theorem dX12_acts_51 : decode cX12_acts 51 = .ok (.ifCond .ne 6, 3) := by decide +kernel
theorem dX12_acts_54 : decode cX12_acts 54 = .ok (.bipush (-8), 2) := by decide +kernel
theorem dX12_acts_56 : decode cX12_acts 56 = .ok (.ireturn, 1) := by decide +kernel
theorem dX12_acts_57 : decode cX12_acts 57 = .ok (.aload_n 0, 1) := by decide +kernel
theorem dX12_acts_58 : decode cX12_acts 58 = .ok (.getfield 35, 3) := by decide +kernel
theorem dX12_acts_61 : decode cX12_acts 61 = .ok (.arraylength, 1) := by decide +kernel
theorem dX12_acts_62 : decode cX12_acts 62 = .ok (.ifCond .ne 7, 3) := by decide +kernel
theorem dX12_acts_65 : decode cX12_acts 65 = .ok (.iconst 0, 1) := by decide +kernel
theorem dX12_acts_66 : decode cX12_acts 66 = .ok (.goto 10, 3) := by decide +kernel
theorem dX12_acts_69 : decode cX12_acts 69 = .ok (.iload_n 3, 1) := by decide +kernel
theorem dX12_acts_70 : decode cX12_acts 70 = .ok (.aload_n 0, 1) := by decide +kernel
theorem dX12_acts_71 : decode cX12_acts 71 = .ok (.getfield 35, 3) := by decide +kernel
theorem dX12_acts_74 : decode cX12_acts 74 = .ok (.arraylength, 1) := by decide +kernel
theorem dX12_acts_75 : decode cX12_acts 75 = .ok (.irem, 1) := by decide +kernel
theorem dX12_acts_76 : decode cX12_acts 76 = .ok (.istore 7, 2) := by decide +kernel
theorem dX12_acts_78 : decode cX12_acts 78 = .ok (.aload_n 0, 1) := by decide +kernel
theorem dX12_acts_79 : decode cX12_acts 79 = .ok (.getfield 35, 3) := by decide +kernel
theorem dX12_acts_82 : decode cX12_acts 82 = .ok (.arraylength, 1) := by decide +kernel
theorem dX12_acts_83 : decode cX12_acts 83 = .ok (.ifCond .ne 10, 3) := by decide +kernel
theorem dX12_acts_86 : decode cX12_acts 86 = .ok (.bipush 10, 2) := by decide +kernel
theorem dX12_acts_88 : decode cX12_acts 88 = .ok (.newarray .int, 2) := by decide +kernel
theorem dX12_acts_90 : decode cX12_acts 90 = .ok (.goto 10, 3) := by decide +kernel
theorem dX12_acts_93 : decode cX12_acts 93 = .ok (.aload_n 0, 1) := by decide +kernel
theorem dX12_acts_94 : decode cX12_acts 94 = .ok (.getfield 35, 3) := by decide +kernel
theorem dX12_acts_97 : decode cX12_acts 97 = .ok (.iload 7, 2) := by decide +kernel
theorem dX12_acts_99 : decode cX12_acts 99 = .ok (.aaload, 1) := by decide +kernel
theorem dX12_acts_100 : decode cX12_acts 100 = .ok (.astore 8, 2) := by decide +kernel
theorem dX12_acts_102 : decode cX12_acts 102 = .ok (.iload_n 2, 1) := by decide +kernel
theorem dX12_acts_103 : decode cX12_acts 103 = .ok (.bipush 32, 2) := by decide +kernel
theorem dX12_acts_105 : decode cX12_acts 105 = .ok (.irem, 1) := by decide +kernel
theorem dX12_acts_106 : decode cX12_acts 106 = .ok (.tableswitch 519 0 26 #[122, 122, 122, 122, 122, 122, 122, 223, 223, 223, 223, 274, 274, 274, 274, 329, 329, 329, 406, 406, 406, 406, 406, 406, 413, 432, 495], 122) := by decide +kernel
theorem dX12_acts_228 : decode cX12_acts 228 = .ok (.iload 5, 2) := by decide +kernel
theorem dX12_acts_230 : decode cX12_acts 230 = .ok (.bipush 8, 2) := by decide +kernel
theorem dX12_acts_232 : decode cX12_acts 232 = .ok (.irem, 1) := by decide +kernel
theorem dX12_acts_233 : decode cX12_acts 233 = .ok (.ifCond .eq 29, 3) := by decide +kernel
theorem dX12_acts_236 : decode cX12_acts 236 = .ok (.aload_n 0, 1) := by decide +kernel
theorem dX12_acts_237 : decode cX12_acts 237 = .ok (.iload 4, 2) := by decide +kernel
theorem dX12_acts_239 : decode cX12_acts 239 = .ok (.aload_n 0, 1) := by decide +kernel
theorem dX12_acts_240 : decode cX12_acts 240 = .ok (.getfield 19, 3) := by decide +kernel
theorem dX12_acts_243 : decode cX12_acts 243 = .ok (.iload 4, 2) := by decide +kernel
theorem dX12_acts_245 : decode cX12_acts 245 = .ok (.iaload, 1) := by decide +kernel
theorem dX12_acts_246 : decode cX12_acts 246 = .ok (.invokevirtual 82, 3) := by decide +kernel
theorem dX12_acts_249 : decode cX12_acts 249 = .ok (.ifCond .ne 13, 3) := by decide +kernel
theorem dX12_acts_252 : decode cX12_acts 252 = .ok (.aload_n 0, 1) := by decide +kernel
theorem dX12_acts_253 : decode cX12_acts 253 = .ok (.getfield 35, 3) := by decide +kernel
theorem dX12_acts_256 : decode cX12_acts 256 = .ok (.arraylength, 1) := by decide +kernel
theorem dX12_acts_257 : decode cX12_acts 257 = .ok (.bipush 24, 2) := by decide +kernel
theorem dX12_acts_259 : decode cX12_acts 259 = .ok (.if_icmp .ne 6, 3) := by decide +kernel
theorem dX12_acts_262 : decode cX12_acts 262 = .ok (.bipush (-9), 2) := by decide +kernel
theorem dX12_acts_264 : decode cX12_acts 264 = .ok (.ireturn, 1) := by decide +kernel
theorem dX12_acts_265 : decode cX12_acts 265 = .ok (.aload_n 0, 1) := by decide +kernel
theorem dX12_acts_266 : decode cX12_acts 266 = .ok (.iload 4, 2) := by decide +kernel
theorem dX12_acts_268 : decode cX12_acts 268 = .ok (.aload_n 0, 1) := by decide +kernel
theorem dX12_acts_269 : decode cX12_acts 269 = .ok (.getfield 19, 3) := by decide +kernel
theorem dX12_acts_272 : decode cX12_acts 272 = .ok (.iload 4, 2) := by decide +kernel
theorem dX12_acts_274 : decode cX12_acts 274 = .ok (.iaload, 1) := by decide +kernel
theorem dX12_acts_275 : decode cX12_acts 275 = .ok (.iconst (-1), 1) := by decide +kernel
theorem dX12_acts_276 : decode cX12_acts 276 = .ok (.aload_n 0, 1) := by decide +kernel
theorem dX12_acts_277 : decode cX12_acts 277 = .ok (.getfield 67, 3) := by decide +kernel
theorem dX12_acts_280 : decode cX12_acts 280 = .ok (.aload_n 0, 1) := by decide +kernel
theorem dX12_acts_281 : decode cX12_acts 281 = .ok (.getfield 7, 3) := by decide +kernel
theorem dX12_acts_284 : decode cX12_acts 284 = .ok (.aload_n 0, 1) := by decide +kernel
theorem dX12_acts_285 : decode cX12_acts 285 = .ok (.getfield 19, 3) := by decide +kernel
theorem dX12_acts_288 : decode cX12_acts 288 = .ok (.iload 4, 2) := by decide +kernel
theorem dX12_acts_290 : decode cX12_acts 290 = .ok (.iaload, 1) := by decide +kernel
theorem dX12_acts_291 : decode cX12_acts 291 = .ok (.iaload, 1) := by decide +kernel
theorem dX12_acts_292 : decode cX12_acts 292 = .ok (.iadd, 1) := by decide +kernel
theorem dX12_acts_293 : decode cX12_acts 293 = .ok (.aload_n 0, 1) := by decide +kernel
theorem dX12_acts_294 : decode cX12_acts 294 = .ok (.getfield 67, 3) := by decide +kernel
theorem dX12_acts_297 : decode cX12_acts 297 = .ok (.aload_n 0, 1) := by decide +kernel
theorem dX12_acts_298 : decode cX12_acts 298 = .ok (.getfield 13, 3) := by decide +kernel
theorem dX12_acts_301 : decode cX12_acts 301 = .ok (.aload_n 0, 1) := by decide +kernel
theorem dX12_acts_302 : decode cX12_acts 302 = .ok (.getfield 19, 3) := by decide +kernel
theorem dX12_acts_305 : decode cX12_acts 305 = .ok (.iload 4, 2) := by decide +kernel
theorem dX12_acts_307 : decode cX12_acts 307 = .ok (.iaload, 1) := by decide +kernel
theorem dX12_acts_308 : decode cX12_acts 308 = .ok (.iaload, 1) := by decide +kernel
theorem dX12_acts_309 : decode cX12_acts 309 = .ok (.iadd, 1) := by decide +kernel
theorem dX12_acts_310 : decode cX12_acts 310 = .ok (.iload 5, 2) := by decide +kernel
theorem dX12_acts_312 : decode cX12_acts 312 = .ok (.bipush 8, 2) := by decide +kernel
theorem dX12_acts_314 : decode cX12_acts 314 = .ok (.idiv, 1) := by decide +kernel
theorem dX12_acts_315 : decode cX12_acts 315 = .ok (.iconst 2, 1) := by decide +kernel
theorem dX12_acts_316 : decode cX12_acts 316 = .ok (.irem, 1) := by decide +kernel
theorem dX12_acts_317 : decode cX12_acts 317 = .ok (.ifCond .ne 7, 3) := by decide +kernel
theorem dX12_acts_320 : decode cX12_acts 320 = .ok (.iconst 1, 1) := by decide +kernel
theorem dX12_acts_321 : decode cX12_acts 321 = .ok (.goto 4, 3) := by decide +kernel
theorem dX12_acts_324 : decode cX12_acts 324 = .ok (.iconst 0, 1) := by decide +kernel
theorem dX12_acts_325 : decode cX12_acts 325 = .ok (.invokevirtual 89, 3) := by decide +kernel
theorem dX12_acts_328 : decode cX12_acts 328 = .ok (.ireturn, 1) := by decide +kernel
theorem dX12_acts_329 : decode cX12_acts 329 = .ok (.aload 8, 2) := by decide +kernel
theorem dX12_acts_331 : decode cX12_acts 331 = .ok (.iconst 1, 1) := by decide +kernel
theorem dX12_acts_332 : decode cX12_acts 332 = .ok (.iaload, 1) := by decide +kernel
theorem dX12_acts_333 : decode cX12_acts 333 = .ok (.ifCond .ne 30, 3) := by decide +kernel
theorem dX12_acts_336 : decode cX12_acts 336 = .ok (.aload_n 0, 1) := by decide +kernel
theorem dX12_acts_337 : decode cX12_acts 337 = .ok (.getfield 67, 3) := by decide +kernel
theorem dX12_acts_340 : decode cX12_acts 340 = .ok (.aload 8, 2) := by decide +kernel
theorem dX12_acts_342 : decode cX12_acts 342 = .ok (.bipush 6, 2) := by decide +kernel
theorem dX12_acts_344 : decode cX12_acts 344 = .ok (.iaload, 1) := by decide +kernel
theorem dX12_acts_345 : decode cX12_acts 345 = .ok (.if_icmp .ge 18, 3) := by decide +kernel
theorem dX12_acts_348 : decode cX12_acts 348 = .ok (.aload_n 1, 1) := by decide +kernel
theorem dX12_acts_349 : decode cX12_acts 349 = .ok (.aload 8, 2) := by decide +kernel
theorem dX12_acts_351 : decode cX12_acts 351 = .ok (.iconst 3, 1) := by decide +kernel
theorem dX12_acts_352 : decode cX12_acts 352 = .ok (.iaload, 1) := by decide +kernel
theorem dX12_acts_353 : decode cX12_acts 353 = .ok (.iload 5, 2) := by decide +kernel
theorem dX12_acts_355 : decode cX12_acts 355 = .ok (.iconst 3, 1) := by decide +kernel
theorem dX12_acts_356 : decode cX12_acts 356 = .ok (.irem, 1) := by decide +kernel
theorem dX12_acts_357 : decode cX12_acts 357 = .ok (.invokestatic 97, 3) := by decide +kernel
theorem dX12_acts_360 : decode cX12_acts 360 = .ok (.ifCond .ne 8, 3) := by decide +kernel
theorem dX12_acts_363 : decode cX12_acts 363 = .ok (.bipush (-9), 2) := by decide +kernel
theorem dX12_acts_365 : decode cX12_acts 365 = .ok (.goto 14, 3) := by decide +kernel
theorem dX12_acts_368 : decode cX12_acts 368 = .ok (.aload_n 0, 1) := by decide +kernel
theorem dX12_acts_369 : decode cX12_acts 369 = .ok (.aload 8, 2) := by decide +kernel
theorem dX12_acts_371 : decode cX12_acts 371 = .ok (.iload 5, 2) := by decide +kernel
theorem dX12_acts_373 : decode cX12_acts 373 = .ok (.iconst 3, 1) := by decide +kernel
theorem dX12_acts_374 : decode cX12_acts 374 = .ok (.irem, 1) := by decide +kernel
theorem dX12_acts_375 : decode cX12_acts 375 = .ok (.iconst (-1), 1) := by decide +kernel
theorem dX12_acts_376 : decode cX12_acts 376 = .ok (.invokevirtual 101, 3) := by decide +kernel
theorem dX12_acts_379 : decode cX12_acts 379 = .ok (.ireturn, 1) := by decide +kernel
theorem dX12_acts_380 : decode cX12_acts 380 = .ok (.aload 8, 2) := by decide +kernel
theorem dX12_acts_382 : decode cX12_acts 382 = .ok (.iconst 1, 1) := by decide +kernel
theorem dX12_acts_383 : decode cX12_acts 383 = .ok (.iaload, 1) := by decide +kernel
theorem dX12_acts_384 : decode cX12_acts 384 = .ok (.ifCond .ne 31, 3) := by decide +kernel
theorem dX12_acts_387 : decode cX12_acts 387 = .ok (.aload_n 0, 1) := by decide +kernel
theorem dX12_acts_388 : decode cX12_acts 388 = .ok (.getfield 67, 3) := by decide +kernel
theorem dX12_acts_391 : decode cX12_acts 391 = .ok (.aload 8, 2) := by decide +kernel
theorem dX12_acts_393 : decode cX12_acts 393 = .ok (.bipush 6, 2) := by decide +kernel
theorem dX12_acts_395 : decode cX12_acts 395 = .ok (.iaload, 1) := by decide +kernel
theorem dX12_acts_396 : decode cX12_acts 396 = .ok (.if_icmp .ge 19, 3) := by decide +kernel
theorem dX12_acts_399 : decode cX12_acts 399 = .ok (.aload 8, 2) := by decide +kernel
theorem dX12_acts_401 : decode cX12_acts 401 = .ok (.iconst 3, 1) := by decide +kernel
theorem dX12_acts_402 : decode cX12_acts 402 = .ok (.iaload, 1) := by decide +kernel
theorem dX12_acts_403 : decode cX12_acts 403 = .ok (.aload_n 0, 1) := by decide +kernel
theorem dX12_acts_404 : decode cX12_acts 404 = .ok (.getfield 28, 3) := by decide +kernel
theorem dX12_acts_407 : decode cX12_acts 407 = .ok (.iload 5, 2) := by decide +kernel
theorem dX12_acts_409 : decode cX12_acts 409 = .ok (.iconst 2, 1) := by decide +kernel
theorem dX12_acts_410 : decode cX12_acts 410 = .ok (.irem, 1) := by decide +kernel
theorem dX12_acts_411 : decode cX12_acts 411 = .ok (.iaload, 1) := by decide +kernel
theorem dX12_acts_412 : decode cX12_acts 412 = .ok (.if_icmp .eq 8, 3) := by decide +kernel
theorem dX12_acts_415 : decode cX12_acts 415 = .ok (.bipush (-9), 2) := by decide +kernel
theorem dX12_acts_417 : decode cX12_acts 417 = .ok (.goto 17, 3) := by decide +kernel
theorem dX12_acts_420 : decode cX12_acts 420 = .ok (.aload_n 0, 1) := by decide +kernel
theorem dX12_acts_421 : decode cX12_acts 421 = .ok (.aload 8, 2) := by decide +kernel
theorem dX12_acts_423 : decode cX12_acts 423 = .ok (.aload 8, 2) := by decide +kernel
theorem dX12_acts_425 : decode cX12_acts 425 = .ok (.iconst 3, 1) := by decide +kernel
theorem dX12_acts_426 : decode cX12_acts 426 = .ok (.iaload, 1) := by decide +kernel
theorem dX12_acts_427 : decode cX12_acts 427 = .ok (.iload 5, 2) := by decide +kernel
theorem dX12_acts_429 : decode cX12_acts 429 = .ok (.iconst 2, 1) := by decide +kernel
theorem dX12_acts_430 : decode cX12_acts 430 = .ok (.irem, 1) := by decide +kernel
theorem dX12_acts_431 : decode cX12_acts 431 = .ok (.invokevirtual 101, 3) := by decide +kernel
theorem dX12_acts_434 : decode cX12_acts 434 = .ok (.ireturn, 1) := by decide +kernel
theorem dX12_acts_435 : decode cX12_acts 435 = .ok (.aload_n 0, 1) := by decide +kernel
theorem dX12_acts_436 : decode cX12_acts 436 = .ok (.getfield 67, 3) := by decide +kernel
theorem dX12_acts_439 : decode cX12_acts 439 = .ok (.aload_n 0, 1) := by decide +kernel
theorem dX12_acts_440 : decode cX12_acts 440 = .ok (.getfield 7, 3) := by decide +kernel
theorem dX12_acts_443 : decode cX12_acts 443 = .ok (.aload 8, 2) := by decide +kernel
theorem dX12_acts_445 : decode cX12_acts 445 = .ok (.iconst 3, 1) := by decide +kernel
theorem dX12_acts_446 : decode cX12_acts 446 = .ok (.iaload, 1) := by decide +kernel
theorem dX12_acts_447 : decode cX12_acts 447 = .ok (.iaload, 1) := by decide +kernel
theorem dX12_acts_448 : decode cX12_acts 448 = .ok (.iadd, 1) := by decide +kernel
theorem dX12_acts_449 : decode cX12_acts 449 = .ok (.aload 8, 2) := by decide +kernel
theorem dX12_acts_451 : decode cX12_acts 451 = .ok (.bipush 7, 2) := by decide +kernel
theorem dX12_acts_453 : decode cX12_acts 453 = .ok (.iaload, 1) := by decide +kernel
theorem dX12_acts_454 : decode cX12_acts 454 = .ok (.invokestatic 86, 3) := by decide +kernel
theorem dX12_acts_457 : decode cX12_acts 457 = .ok (.istore 9, 2) := by decide +kernel
theorem dX12_acts_459 : decode cX12_acts 459 = .ok (.aload 8, 2) := by decide +kernel
theorem dX12_acts_461 : decode cX12_acts 461 = .ok (.bipush 9, 2) := by decide +kernel
theorem dX12_acts_463 : decode cX12_acts 463 = .ok (.iaload, 1) := by decide +kernel
theorem dX12_acts_464 : decode cX12_acts 464 = .ok (.iconst 1, 1) := by decide +kernel
theorem dX12_acts_465 : decode cX12_acts 465 = .ok (.if_icmp .ne 25, 3) := by decide +kernel
theorem dX12_acts_468 : decode cX12_acts 468 = .ok (.aload_n 0, 1) := by decide +kernel
theorem dX12_acts_469 : decode cX12_acts 469 = .ok (.getfield 67, 3) := by decide +kernel
theorem dX12_acts_472 : decode cX12_acts 472 = .ok (.aload 8, 2) := by decide +kernel
theorem dX12_acts_474 : decode cX12_acts 474 = .ok (.bipush 6, 2) := by decide +kernel
theorem dX12_acts_476 : decode cX12_acts 476 = .ok (.iaload, 1) := by decide +kernel
theorem dX12_acts_477 : decode cX12_acts 477 = .ok (.if_icmp .ge 13, 3) := by decide +kernel
theorem dX12_acts_480 : decode cX12_acts 480 = .ok (.iload 9, 2) := by decide +kernel
theorem dX12_acts_482 : decode cX12_acts 482 = .ok (.aload 8, 2) := by decide +kernel
theorem dX12_acts_484 : decode cX12_acts 484 = .ok (.bipush 6, 2) := by decide +kernel
theorem dX12_acts_486 : decode cX12_acts 486 = .ok (.iaload, 1) := by decide +kernel
theorem dX12_acts_487 : decode cX12_acts 487 = .ok (.if_icmp .gt 6, 3) := by decide +kernel
theorem dX12_acts_490 : decode cX12_acts 490 = .ok (.bipush (-9), 2) := by decide +kernel
theorem dX12_acts_492 : decode cX12_acts 492 = .ok (.ireturn, 1) := by decide +kernel
theorem dX12_acts_493 : decode cX12_acts 493 = .ok (.aload 8, 2) := by decide +kernel
theorem dX12_acts_495 : decode cX12_acts 495 = .ok (.bipush 6, 2) := by decide +kernel
theorem dX12_acts_497 : decode cX12_acts 497 = .ok (.iload 9, 2) := by decide +kernel
theorem dX12_acts_499 : decode cX12_acts 499 = .ok (.iastore, 1) := by decide +kernel
theorem dX12_acts_500 : decode cX12_acts 500 = .ok (.aload 8, 2) := by decide +kernel
theorem dX12_acts_502 : decode cX12_acts 502 = .ok (.bipush 8, 2) := by decide +kernel
theorem dX12_acts_504 : decode cX12_acts 504 = .ok (.aload_n 0, 1) := by decide +kernel
theorem dX12_acts_505 : decode cX12_acts 505 = .ok (.invokevirtual 74, 3) := by decide +kernel
theorem dX12_acts_508 : decode cX12_acts 508 = .ok (.iastore, 1) := by decide +kernel
theorem dX12_acts_509 : decode cX12_acts 509 = .ok (.iload 9, 2) := by decide +kernel
theorem dX12_acts_511 : decode cX12_acts 511 = .ok (.ireturn, 1) := by decide +kernel
theorem dX12_acts_512 : decode cX12_acts 512 = .ok (.aload_n 0, 1) := by decide +kernel
theorem dX12_acts_513 : decode cX12_acts 513 = .ok (.aload 8, 2) := by decide +kernel
theorem dX12_acts_515 : decode cX12_acts 515 = .ok (.invokevirtual 105, 3) := by decide +kernel
theorem dX12_acts_518 : decode cX12_acts 518 = .ok (.ireturn, 1) := by decide +kernel
theorem dX12_acts_519 : decode cX12_acts 519 = .ok (.aload_n 0, 1) := by decide +kernel
theorem dX12_acts_520 : decode cX12_acts 520 = .ok (.aload_n 0, 1) := by decide +kernel
theorem dX12_acts_521 : decode cX12_acts 521 = .ok (.getfield 35, 3) := by decide +kernel
theorem dX12_acts_524 : decode cX12_acts 524 = .ok (.iload 7, 2) := by decide +kernel
theorem dX12_acts_526 : decode cX12_acts 526 = .ok (.invokestatic 93, 3) := by decide +kernel
theorem dX12_acts_529 : decode cX12_acts 529 = .ok (.putfield 35, 3) := by decide +kernel
theorem dX12_acts_532 : decode cX12_acts 532 = .ok (.aload_n 0, 1) := by decide +kernel
theorem dX12_acts_533 : decode cX12_acts 533 = .ok (.getfield 35, 3) := by decide +kernel
theorem dX12_acts_536 : decode cX12_acts 536 = .ok (.arraylength, 1) := by decide +kernel
theorem dX12_acts_537 : decode cX12_acts 537 = .ok (.ireturn, 1) := by decide +kernel
theorem dX12_acts_538 : decode cX12_acts 538 = .ok (.aload_n 0, 1) := by decide +kernel
theorem dX12_acts_539 : decode cX12_acts 539 = .ok (.getfield 35, 3) := by decide +kernel
theorem dX12_acts_542 : decode cX12_acts 542 = .ok (.arraylength, 1) := by decide +kernel
theorem dX12_acts_543 : decode cX12_acts 543 = .ok (.istore 9, 2) := by decide +kernel
theorem dX12_acts_545 : decode cX12_acts 545 = .ok (.iload 9, 2) := by decide +kernel
theorem dX12_acts_547 : decode cX12_acts 547 = .ok (.iconst 1, 1) := by decide +kernel
theorem dX12_acts_548 : decode cX12_acts 548 = .ok (.isub, 1) := by decide +kernel
theorem dX12_acts_549 : decode cX12_acts 549 = .ok (.istore 10, 2) := by decide +kernel
theorem dX12_acts_551 : decode cX12_acts 551 = .ok (.iload 10, 2) := by decide +kernel
theorem dX12_acts_553 : decode cX12_acts 553 = .ok (.ifCond .lt 39, 3) := by decide +kernel
theorem dX12_acts_556 : decode cX12_acts 556 = .ok (.aload_n 0, 1) := by decide +kernel
theorem dX12_acts_557 : decode cX12_acts 557 = .ok (.getfield 67, 3) := by decide +kernel
theorem dX12_acts_560 : decode cX12_acts 560 = .ok (.aload_n 0, 1) := by decide +kernel
theorem dX12_acts_561 : decode cX12_acts 561 = .ok (.getfield 35, 3) := by decide +kernel
theorem dX12_acts_564 : decode cX12_acts 564 = .ok (.iload 10, 2) := by decide +kernel
theorem dX12_acts_566 : decode cX12_acts 566 = .ok (.aaload, 1) := by decide +kernel
theorem dX12_acts_567 : decode cX12_acts 567 = .ok (.bipush 6, 2) := by decide +kernel
theorem dX12_acts_569 : decode cX12_acts 569 = .ok (.iaload, 1) := by decide +kernel
theorem dX12_acts_570 : decode cX12_acts 570 = .ok (.if_icmp .lt 16, 3) := by decide +kernel
theorem dX12_acts_573 : decode cX12_acts 573 = .ok (.aload_n 0, 1) := by decide +kernel
theorem dX12_acts_574 : decode cX12_acts 574 = .ok (.aload_n 0, 1) := by decide +kernel
theorem dX12_acts_575 : decode cX12_acts 575 = .ok (.getfield 35, 3) := by decide +kernel
theorem dX12_acts_578 : decode cX12_acts 578 = .ok (.iload 10, 2) := by decide +kernel
theorem dX12_acts_580 : decode cX12_acts 580 = .ok (.invokestatic 93, 3) := by decide +kernel
theorem dX12_acts_583 : decode cX12_acts 583 = .ok (.putfield 35, 3) := by decide +kernel
theorem dX12_acts_586 : decode cX12_acts 586 = .ok (.iinc 10 (-1), 3) := by decide +kernel
theorem dX12_acts_589 : decode cX12_acts 589 = .ok (.goto (-38), 3) := by decide +kernel
theorem dX12_acts_592 : decode cX12_acts 592 = .ok (.iload 9, 2) := by decide +kernel
theorem dX12_acts_594 : decode cX12_acts 594 = .ok (.aload_n 0, 1) := by decide +kernel
theorem dX12_acts_595 : decode cX12_acts 595 = .ok (.getfield 35, 3) := by decide +kernel
theorem dX12_acts_598 : decode cX12_acts 598 = .ok (.arraylength, 1) := by decide +kernel
theorem dX12_acts_599 : decode cX12_acts 599 = .ok (.isub, 1) := by decide +kernel
theorem dX12_acts_600 : decode cX12_acts 600 = .ok (.ireturn, 1) := by decide +kernel
theorem dX12_acts_601 : decode cX12_acts 601 = .ok (.aload_n 0, 1) := by decide +kernel
theorem dX12_acts_602 : decode cX12_acts 602 = .ok (.getfield 22, 3) := by decide +kernel
theorem dX12_acts_605 : decode cX12_acts 605 = .ok (.iload 4, 2) := by decide +kernel
theorem dX12_acts_607 : decode cX12_acts 607 = .ok (.iaload, 1) := by decide +kernel
theorem dX12_acts_608 : decode cX12_acts 608 = .ok (.istore 9, 2) := by decide +kernel
theorem dX12_acts_610 : decode cX12_acts 610 = .ok (.aload_n 0, 1) := by decide +kernel
theorem dX12_acts_611 : decode cX12_acts 611 = .ok (.getfield 22, 3) := by decide +kernel
theorem dX12_acts_614 : decode cX12_acts 614 = .ok (.iload 4, 2) := by decide +kernel
theorem dX12_acts_616 : decode cX12_acts 616 = .ok (.iload 5, 2) := by decide +kernel
theorem dX12_acts_618 : decode cX12_acts 618 = .ok (.invokestatic 55, 3) := by decide +kernel
theorem dX12_acts_621 : decode cX12_acts 621 = .ok (.iastore, 1) := by decide +kernel
theorem dX12_acts_622 : decode cX12_acts 622 = .ok (.iload 9, 2) := by decide +kernel
theorem dX12_acts_624 : decode cX12_acts 624 = .ok (.ireturn, 1) := by decide +kernel
theorem dX12_acts_625 : decode cX12_acts 625 = .ok (.aload_n 0, 1) := by decide +kernel
theorem dX12_acts_626 : decode cX12_acts 626 = .ok (.invokevirtual 109, 3) := by decide +kernel
theorem dX12_acts_629 : decode cX12_acts 629 = .ok (.istore 9, 2) := by decide +kernel
theorem dX12_acts_631 : decode cX12_acts 631 = .ok (.aload_n 0, 1) := by decide +kernel
theorem dX12_acts_632 : decode cX12_acts 632 = .ok (.dup, 1) := by decide +kernel
theorem dX12_acts_633 : decode cX12_acts 633 = .ok (.getfield 67, 3) := by decide +kernel
theorem dX12_acts_636 : decode cX12_acts 636 = .ok (.iconst 1, 1) := by decide +kernel
theorem dX12_acts_637 : decode cX12_acts 637 = .ok (.iload 5, 2) := by decide +kernel
theorem dX12_acts_639 : decode cX12_acts 639 = .ok (.iload_n 2, 1) := by decide +kernel
theorem dX12_acts_640 : decode cX12_acts 640 = .ok (.bipush 32, 2) := by decide +kernel
theorem dX12_acts_642 : decode cX12_acts 642 = .ok (.irem, 1) := by decide +kernel
theorem dX12_acts_643 : decode cX12_acts 643 = .ok (.bipush 30, 2) := by decide +kernel
theorem dX12_acts_645 : decode cX12_acts 645 = .ok (.if_icmp .ge 7, 3) := by decide +kernel
theorem dX12_acts_648 : decode cX12_acts 648 = .ok (.iconst 4, 1) := by decide +kernel
theorem dX12_acts_649 : decode cX12_acts 649 = .ok (.goto 5, 3) := by decide +kernel
theorem dX12_acts_652 : decode cX12_acts 652 = .ok (.bipush 40, 2) := by decide +kernel
theorem dX12_acts_654 : decode cX12_acts 654 = .ok (.irem, 1) := by decide +kernel
theorem dX12_acts_655 : decode cX12_acts 655 = .ok (.iadd, 1) := by decide +kernel
theorem dX12_acts_656 : decode cX12_acts 656 = .ok (.iadd, 1) := by decide +kernel
theorem dX12_acts_657 : decode cX12_acts 657 = .ok (.putfield 67, 3) := by decide +kernel
theorem dX12_acts_660 : decode cX12_acts 660 = .ok (.aload_n 0, 1) := by decide +kernel
theorem dX12_acts_661 : decode cX12_acts 661 = .ok (.getfield 39, 3) := by decide +kernel
theorem dX12_acts_664 : decode cX12_acts 664 = .ok (.arraylength, 1) := by decide +kernel
theorem dX12_acts_665 : decode cX12_acts 665 = .ok (.iconst 1, 1) := by decide +kernel
theorem dX12_acts_666 : decode cX12_acts 666 = .ok (.isub, 1) := by decide +kernel
theorem dX12_acts_667 : decode cX12_acts 667 = .ok (.istore 10, 2) := by decide +kernel
theorem dX12_acts_669 : decode cX12_acts 669 = .ok (.iload 10, 2) := by decide +kernel
theorem dX12_acts_671 : decode cX12_acts 671 = .ok (.ifCond .lt 43, 3) := by decide +kernel
theorem dX12_acts_674 : decode cX12_acts 674 = .ok (.aload_n 0, 1) := by decide +kernel
theorem dX12_acts_675 : decode cX12_acts 675 = .ok (.getfield 67, 3) := by decide +kernel
theorem dX12_acts_678 : decode cX12_acts 678 = .ok (.aload_n 0, 1) := by decide +kernel
theorem dX12_acts_679 : decode cX12_acts 679 = .ok (.getfield 39, 3) := by decide +kernel
theorem dX12_acts_682 : decode cX12_acts 682 = .ok (.iload 10, 2) := by decide +kernel
theorem dX12_acts_684 : decode cX12_acts 684 = .ok (.aaload, 1) := by decide +kernel
theorem dX12_acts_685 : decode cX12_acts 685 = .ok (.iconst 3, 1) := by decide +kernel
theorem dX12_acts_686 : decode cX12_acts 686 = .ok (.iaload, 1) := by decide +kernel
theorem dX12_acts_687 : decode cX12_acts 687 = .ok (.isub, 1) := by decide +kernel
theorem dX12_acts_688 : decode cX12_acts 688 = .ok (.aload_n 0, 1) := by decide +kernel
theorem dX12_acts_689 : decode cX12_acts 689 = .ok (.getfield 48, 3) := by decide +kernel
theorem dX12_acts_692 : decode cX12_acts 692 = .ok (.if_icmp .le 16, 3) := by decide +kernel
theorem dX12_acts_695 : decode cX12_acts 695 = .ok (.aload_n 0, 1) := by decide +kernel
theorem dX12_acts_696 : decode cX12_acts 696 = .ok (.aload_n 0, 1) := by decide +kernel
theorem dX12_acts_697 : decode cX12_acts 697 = .ok (.getfield 39, 3) := by decide +kernel
theorem dX12_acts_700 : decode cX12_acts 700 = .ok (.iload 10, 2) := by decide +kernel
theorem dX12_acts_702 : decode cX12_acts 702 = .ok (.invokestatic 93, 3) := by decide +kernel
theorem dX12_acts_705 : decode cX12_acts 705 = .ok (.putfield 39, 3) := by decide +kernel
theorem dX12_acts_708 : decode cX12_acts 708 = .ok (.iinc 10 (-1), 3) := by decide +kernel
theorem dX12_acts_711 : decode cX12_acts 711 = .ok (.goto (-42), 3) := by decide +kernel
theorem dX12_acts_714 : decode cX12_acts 714 = .ok (.iload 9, 2) := by decide +kernel
theorem dX12_acts_716 : decode cX12_acts 716 = .ok (.aload_n 0, 1) := by decide +kernel
theorem dX12_acts_717 : decode cX12_acts 717 = .ok (.invokevirtual 109, 3) := by decide +kernel
theorem dX12_acts_720 : decode cX12_acts 720 = .ok (.isub, 1) := by decide +kernel
theorem dX12_acts_721 : decode cX12_acts 721 = .ok (.ireturn, 1) := by decide +kernel
theorem dX12_agrees_0 : decode cX12_agrees 0 = .ok (.aload_n 1, 1) := by decide +kernel
theorem dX12_agrees_1 : decode cX12_agrees 1 = .ok (.invokevirtual 112, 3) := by decide +kernel
theorem dX12_agrees_4 : decode cX12_agrees 4 = .ok (.aload_n 0, 1) := by decide +kernel
theorem dX12_agrees_5 : decode cX12_agrees 5 = .ok (.getfield 67, 3) := by decide +kernel
theorem dX12_agrees_8 : decode cX12_agrees 8 = .ok (.if_icmp .ne 49, 3) := by decide +kernel
theorem dX12_agrees_11 : decode cX12_agrees 11 = .ok (.aload_n 1, 1) := by decide +kernel
theorem dX12_agrees_12 : decode cX12_agrees 12 = .ok (.invokevirtual 116, 3) := by decide +kernel
theorem dX12_agrees_15 : decode cX12_agrees 15 = .ok (.aload_n 0, 1) := by decide +kernel
theorem dX12_agrees_16 : decode cX12_agrees 16 = .ok (.getfield 52, 3) := by decide +kernel
theorem dX12_agrees_19 : decode cX12_agrees 19 = .ok (.if_icmp .ne 38, 3) := by decide +kernel
theorem dX12_agrees_22 : decode cX12_agrees 22 = .ok (.aload_n 1, 1) := by decide +kernel
theorem dX12_agrees_23 : decode cX12_agrees 23 = .ok (.invokevirtual 118, 3) := by decide +kernel
theorem dX12_agrees_26 : decode cX12_agrees 26 = .ok (.aload_n 0, 1) := by decide +kernel
theorem dX12_agrees_27 : decode cX12_agrees 27 = .ok (.getfield 35, 3) := by decide +kernel
theorem dX12_agrees_30 : decode cX12_agrees 30 = .ok (.arraylength, 1) := by decide +kernel
theorem dX12_agrees_31 : decode cX12_agrees 31 = .ok (.if_icmp .ne 26, 3) := by decide +kernel
theorem dX12_agrees_34 : decode cX12_agrees 34 = .ok (.aload_n 1, 1) := by decide +kernel
theorem dX12_agrees_35 : decode cX12_agrees 35 = .ok (.invokevirtual 121, 3) := by decide +kernel
theorem dX12_agrees_38 : decode cX12_agrees 38 = .ok (.aload_n 0, 1) := by decide +kernel
theorem dX12_agrees_39 : decode cX12_agrees 39 = .ok (.getfield 39, 3) := by decide +kernel
theorem dX12_agrees_42 : decode cX12_agrees 42 = .ok (.arraylength, 1) := by decide +kernel
theorem dX12_agrees_43 : decode cX12_agrees 43 = .ok (.if_icmp .ne 14, 3) := by decide +kernel
theorem dX12_agrees_46 : decode cX12_agrees 46 = .ok (.aload_n 1, 1) := by decide +kernel
theorem dX12_agrees_47 : decode cX12_agrees 47 = .ok (.invokevirtual 124, 3) := by decide +kernel
theorem dX12_agrees_50 : decode cX12_agrees 50 = .ok (.aload_n 0, 1) := by decide +kernel
theorem dX12_agrees_51 : decode cX12_agrees 51 = .ok (.invokevirtual 109, 3) := by decide +kernel
theorem dX12_agrees_54 : decode cX12_agrees 54 = .ok (.if_icmp .eq 5, 3) := by decide +kernel
theorem dX12_agrees_57 : decode cX12_agrees 57 = .ok (.iconst 0, 1) := by decide +kernel
theorem dX12_agrees_58 : decode cX12_agrees 58 = .ok (.ireturn, 1) := by decide +kernel
theorem dX12_agrees_59 : decode cX12_agrees 59 = .ok (.iconst 0, 1) := by decide +kernel
theorem dX12_agrees_60 : decode cX12_agrees 60 = .ok (.istore_n 2, 1) := by decide +kernel
theorem dX12_agrees_61 : decode cX12_agrees 61 = .ok (.iload_n 2, 1) := by decide +kernel
theorem dX12_agrees_62 : decode cX12_agrees 62 = .ok (.aload_n 0, 1) := by decide +kernel
theorem dX12_agrees_63 : decode cX12_agrees 63 = .ok (.getfield 35, 3) := by decide +kernel
theorem dX12_agrees_66 : decode cX12_agrees 66 = .ok (.arraylength, 1) := by decide +kernel
theorem dX12_agrees_67 : decode cX12_agrees 67 = .ok (.if_icmp .ge 181, 3) := by decide +kernel
theorem dX12_agrees_70 : decode cX12_agrees 70 = .ok (.aload_n 0, 1) := by decide +kernel
theorem dX12_agrees_71 : decode cX12_agrees 71 = .ok (.getfield 35, 3) := by decide +kernel
theorem dX12_agrees_74 : decode cX12_agrees 74 = .ok (.iload_n 2, 1) := by decide +kernel
theorem dX12_agrees_75 : decode cX12_agrees 75 = .ok (.aaload, 1) := by decide +kernel
theorem dX12_agrees_76 : decode cX12_agrees 76 = .ok (.astore_n 3, 1) := by decide +kernel
theorem dX12_agrees_77 : decode cX12_agrees 77 = .ok (.aload_n 3, 1) := by decide +kernel
theorem dX12_agrees_78 : decode cX12_agrees 78 = .ok (.iconst 0, 1) := by decide +kernel
theorem dX12_agrees_79 : decode cX12_agrees 79 = .ok (.iaload, 1) := by decide +kernel
theorem dX12_agrees_80 : decode cX12_agrees 80 = .ok (.istore 4, 2) := by decide +kernel
theorem dX12_agrees_82 : decode cX12_agrees 82 = .ok (.aload_n 1, 1) := by decide +kernel
theorem dX12_agrees_83 : decode cX12_agrees 83 = .ok (.iload_n 2, 1) := by decide +kernel
theorem dX12_agrees_84 : decode cX12_agrees 84 = .ok (.invokevirtual 127, 3) := by decide +kernel
theorem dX12_agrees_87 : decode cX12_agrees 87 = .ok (.iload 4, 2) := by decide +kernel
theorem dX12_agrees_89 : decode cX12_agrees 89 = .ok (.if_icmp .ne 51, 3) := by decide +kernel
theorem dX12_agrees_92 : decode cX12_agrees 92 = .ok (.aload_n 1, 1) := by decide +kernel
theorem dX12_agrees_93 : decode cX12_agrees 93 = .ok (.iload 4, 2) := by decide +kernel
theorem dX12_agrees_95 : decode cX12_agrees 95 = .ok (.invokevirtual 130, 3) := by decide +kernel
theorem dX12_agrees_98 : decode cX12_agrees 98 = .ok (.aload_n 3, 1) := by decide +kernel
theorem dX12_agrees_99 : decode cX12_agrees 99 = .ok (.iconst 1, 1) := by decide +kernel
theorem dX12_agrees_100 : decode cX12_agrees 100 = .ok (.iaload, 1) := by decide +kernel
theorem dX12_agrees_101 : decode cX12_agrees 101 = .ok (.if_icmp .ne 39, 3) := by decide +kernel
theorem dX12_agrees_104 : decode cX12_agrees 104 = .ok (.aload_n 1, 1) := by decide +kernel
theorem dX12_agrees_105 : decode cX12_agrees 105 = .ok (.iload 4, 2) := by decide +kernel
theorem dX12_agrees_107 : decode cX12_agrees 107 = .ok (.invokevirtual 133, 3) := by decide +kernel
theorem dX12_agrees_110 : decode cX12_agrees 110 = .ok (.aload_n 3, 1) := by decide +kernel
theorem dX12_agrees_111 : decode cX12_agrees 111 = .ok (.iconst 2, 1) := by decide +kernel
theorem dX12_agrees_112 : decode cX12_agrees 112 = .ok (.iaload, 1) := by decide +kernel
theorem dX12_agrees_113 : decode cX12_agrees 113 = .ok (.if_icmp .ne 27, 3) := by decide +kernel
theorem dX12_agrees_116 : decode cX12_agrees 116 = .ok (.aload_n 1, 1) := by decide +kernel
theorem dX12_agrees_117 : decode cX12_agrees 117 = .ok (.iload 4, 2) := by decide +kernel
theorem dX12_agrees_119 : decode cX12_agrees 119 = .ok (.invokevirtual 136, 3) := by decide +kernel
theorem dX12_agrees_122 : decode cX12_agrees 122 = .ok (.aload_n 3, 1) := by decide +kernel
theorem dX12_agrees_123 : decode cX12_agrees 123 = .ok (.iconst 3, 1) := by decide +kernel
theorem dX12_agrees_124 : decode cX12_agrees 124 = .ok (.iaload, 1) := by decide +kernel
theorem dX12_agrees_125 : decode cX12_agrees 125 = .ok (.if_icmp .ne 15, 3) := by decide +kernel
theorem dX12_agrees_128 : decode cX12_agrees 128 = .ok (.aload_n 1, 1) := by decide +kernel
theorem dX12_agrees_129 : decode cX12_agrees 129 = .ok (.iload 4, 2) := by decide +kernel
theorem dX12_agrees_131 : decode cX12_agrees 131 = .ok (.invokevirtual 139, 3) := by decide +kernel
theorem dX12_agrees_134 : decode cX12_agrees 134 = .ok (.aload_n 3, 1) := by decide +kernel
theorem dX12_agrees_135 : decode cX12_agrees 135 = .ok (.iconst 4, 1) := by decide +kernel
theorem dX12_agrees_136 : decode cX12_agrees 136 = .ok (.iaload, 1) := by decide +kernel
theorem dX12_agrees_137 : decode cX12_agrees 137 = .ok (.if_icmp .eq 5, 3) := by decide +kernel
theorem dX12_agrees_140 : decode cX12_agrees 140 = .ok (.iconst 0, 1) := by decide +kernel
theorem dX12_agrees_141 : decode cX12_agrees 141 = .ok (.ireturn, 1) := by decide +kernel
theorem dX12_agrees_142 : decode cX12_agrees 142 = .ok (.aload_n 1, 1) := by decide +kernel
theorem dX12_agrees_143 : decode cX12_agrees 143 = .ok (.iload 4, 2) := by decide +kernel
theorem dX12_agrees_145 : decode cX12_agrees 145 = .ok (.invokevirtual 142, 3) := by decide +kernel
theorem dX12_agrees_148 : decode cX12_agrees 148 = .ok (.aload_n 3, 1) := by decide +kernel
theorem dX12_agrees_149 : decode cX12_agrees 149 = .ok (.iconst 5, 1) := by decide +kernel
theorem dX12_agrees_150 : decode cX12_agrees 150 = .ok (.iaload, 1) := by decide +kernel
theorem dX12_agrees_151 : decode cX12_agrees 151 = .ok (.if_icmp .ne 89, 3) := by decide +kernel
theorem dX12_agrees_154 : decode cX12_agrees 154 = .ok (.aload_n 1, 1) := by decide +kernel
theorem dX12_agrees_155 : decode cX12_agrees 155 = .ok (.iload 4, 2) := by decide +kernel
theorem dX12_agrees_157 : decode cX12_agrees 157 = .ok (.invokevirtual 145, 3) := by decide +kernel
theorem dX12_agrees_160 : decode cX12_agrees 160 = .ok (.aload_n 3, 1) := by decide +kernel
theorem dX12_agrees_161 : decode cX12_agrees 161 = .ok (.bipush 6, 2) := by decide +kernel
theorem dX12_agrees_163 : decode cX12_agrees 163 = .ok (.iaload, 1) := by decide +kernel
theorem dX12_agrees_164 : decode cX12_agrees 164 = .ok (.if_icmp .ne 76, 3) := by decide +kernel
theorem dX12_agrees_167 : decode cX12_agrees 167 = .ok (.aload_n 1, 1) := by decide +kernel
theorem dX12_agrees_168 : decode cX12_agrees 168 = .ok (.iload 4, 2) := by decide +kernel
theorem dX12_agrees_170 : decode cX12_agrees 170 = .ok (.invokevirtual 148, 3) := by decide +kernel
theorem dX12_agrees_173 : decode cX12_agrees 173 = .ok (.aload_n 3, 1) := by decide +kernel
theorem dX12_agrees_174 : decode cX12_agrees 174 = .ok (.bipush 7, 2) := by decide +kernel
theorem dX12_agrees_176 : decode cX12_agrees 176 = .ok (.iaload, 1) := by decide +kernel
theorem dX12_agrees_177 : decode cX12_agrees 177 = .ok (.if_icmp .ne 63, 3) := by decide +kernel
theorem dX12_agrees_180 : decode cX12_agrees 180 = .ok (.aload_n 1, 1) := by decide +kernel
theorem dX12_agrees_181 : decode cX12_agrees 181 = .ok (.iload 4, 2) := by decide +kernel
theorem dX12_agrees_183 : decode cX12_agrees 183 = .ok (.invokevirtual 151, 3) := by decide +kernel
theorem dX12_agrees_186 : decode cX12_agrees 186 = .ok (.aload_n 3, 1) := by decide +kernel
theorem dX12_agrees_187 : decode cX12_agrees 187 = .ok (.bipush 8, 2) := by decide +kernel
theorem dX12_agrees_189 : decode cX12_agrees 189 = .ok (.iaload, 1) := by decide +kernel
theorem dX12_agrees_190 : decode cX12_agrees 190 = .ok (.if_icmp .ne 50, 3) := by decide +kernel
theorem dX12_agrees_193 : decode cX12_agrees 193 = .ok (.aload_n 1, 1) := by decide +kernel
theorem dX12_agrees_194 : decode cX12_agrees 194 = .ok (.iload 4, 2) := by decide +kernel
theorem dX12_agrees_196 : decode cX12_agrees 196 = .ok (.invokevirtual 154, 3) := by decide +kernel
theorem dX12_agrees_199 : decode cX12_agrees 199 = .ok (.aload_n 3, 1) := by decide +kernel
theorem dX12_agrees_200 : decode cX12_agrees 200 = .ok (.bipush 9, 2) := by decide +kernel
theorem dX12_agrees_202 : decode cX12_agrees 202 = .ok (.iaload, 1) := by decide +kernel
theorem dX12_agrees_203 : decode cX12_agrees 203 = .ok (.iconst 1, 1) := by decide +kernel
theorem dX12_agrees_204 : decode cX12_agrees 204 = .ok (.if_icmp .ne 7, 3) := by decide +kernel
theorem dX12_agrees_207 : decode cX12_agrees 207 = .ok (.iconst 1, 1) := by decide +kernel
theorem dX12_agrees_208 : decode cX12_agrees 208 = .ok (.goto 4, 3) := by decide +kernel
theorem dX12_agrees_211 : decode cX12_agrees 211 = .ok (.iconst 0, 1) := by decide +kernel
theorem dX12_agrees_212 : decode cX12_agrees 212 = .ok (.if_icmp .ne 28, 3) := by decide +kernel
theorem dX12_agrees_215 : decode cX12_agrees 215 = .ok (.aload_n 1, 1) := by decide +kernel
theorem dX12_agrees_216 : decode cX12_agrees 216 = .ok (.iload 4, 2) := by decide +kernel
theorem dX12_agrees_218 : decode cX12_agrees 218 = .ok (.invokevirtual 158, 3) := by decide +kernel
theorem dX12_agrees_221 : decode cX12_agrees 221 = .ok (.aload_n 0, 1) := by decide +kernel
theorem dX12_agrees_222 : decode cX12_agrees 222 = .ok (.getfield 67, 3) := by decide +kernel
theorem dX12_agrees_225 : decode cX12_agrees 225 = .ok (.aload_n 3, 1) := by decide +kernel
theorem dX12_agrees_226 : decode cX12_agrees 226 = .ok (.bipush 6, 2) := by decide +kernel
theorem dX12_agrees_228 : decode cX12_agrees 228 = .ok (.iaload, 1) := by decide +kernel
theorem dX12_agrees_229 : decode cX12_agrees 229 = .ok (.if_icmp .ge 7, 3) := by decide +kernel
theorem dX12_agrees_232 : decode cX12_agrees 232 = .ok (.iconst 1, 1) := by decide +kernel
theorem dX12_agrees_233 : decode cX12_agrees 233 = .ok (.goto 4, 3) := by decide +kernel
theorem dX12_agrees_236 : decode cX12_agrees 236 = .ok (.iconst 0, 1) := by decide +kernel
theorem dX12_agrees_237 : decode cX12_agrees 237 = .ok (.if_icmp .eq 5, 3) := by decide +kernel
theorem dX12_agrees_240 : decode cX12_agrees 240 = .ok (.iconst 0, 1) := by decide +kernel
theorem dX12_agrees_241 : decode cX12_agrees 241 = .ok (.ireturn, 1) := by decide +kernel
theorem dX12_agrees_242 : decode cX12_agrees 242 = .ok (.iinc 2 1, 3) := by decide +kernel
theorem dX12_agrees_245 : decode cX12_agrees 245 = .ok (.goto (-184), 3) := by decide +kernel
theorem dX12_agrees_248 : decode cX12_agrees 248 = .ok (.iconst 0, 1) := by decide +kernel
theorem dX12_agrees_249 : decode cX12_agrees 249 = .ok (.istore_n 2, 1) := by decide +kernel
theorem dX12_agrees_250 : decode cX12_agrees 250 = .ok (.iload_n 2, 1) := by decide +kernel
theorem dX12_agrees_251 : decode cX12_agrees 251 = .ok (.iconst 3, 1) := by decide +kernel
theorem dX12_agrees_252 : decode cX12_agrees 252 = .ok (.if_icmp .ge 44, 3) := by decide +kernel
theorem dX12_agrees_255 : decode cX12_agrees 255 = .ok (.aload_n 1, 1) := by decide +kernel
theorem dX12_agrees_256 : decode cX12_agrees 256 = .ok (.iload_n 2, 1) := by decide +kernel
theorem dX12_agrees_257 : decode cX12_agrees 257 = .ok (.invokevirtual 161, 3) := by decide +kernel
theorem dX12_agrees_260 : decode cX12_agrees 260 = .ok (.aload_n 0, 1) := by decide +kernel
theorem dX12_agrees_261 : decode cX12_agrees 261 = .ok (.getfield 25, 3) := by decide +kernel
theorem dX12_agrees_264 : decode cX12_agrees 264 = .ok (.iload_n 2, 1) := by decide +kernel
theorem dX12_agrees_265 : decode cX12_agrees 265 = .ok (.iaload, 1) := by decide +kernel
theorem dX12_agrees_266 : decode cX12_agrees 266 = .ok (.if_icmp .ne 22, 3) := by decide +kernel
theorem dX12_agrees_269 : decode cX12_agrees 269 = .ok (.aload_n 1, 1) := by decide +kernel
theorem dX12_agrees_270 : decode cX12_agrees 270 = .ok (.iload_n 2, 1) := by decide +kernel
theorem dX12_agrees_271 : decode cX12_agrees 271 = .ok (.invokevirtual 164, 3) := by decide +kernel
theorem dX12_agrees_274 : decode cX12_agrees 274 = .ok (.aload_n 0, 1) := by decide +kernel
theorem dX12_agrees_275 : decode cX12_agrees 275 = .ok (.getfield 67, 3) := by decide +kernel
theorem dX12_agrees_278 : decode cX12_agrees 278 = .ok (.aload_n 0, 1) := by decide +kernel
theorem dX12_agrees_279 : decode cX12_agrees 279 = .ok (.getfield 16, 3) := by decide +kernel
theorem dX12_agrees_282 : decode cX12_agrees 282 = .ok (.iload_n 2, 1) := by decide +kernel
theorem dX12_agrees_283 : decode cX12_agrees 283 = .ok (.iaload, 1) := by decide +kernel
theorem dX12_agrees_284 : decode cX12_agrees 284 = .ok (.iadd, 1) := by decide +kernel
theorem dX12_agrees_285 : decode cX12_agrees 285 = .ok (.if_icmp .eq 5, 3) := by decide +kernel
theorem dX12_agrees_288 : decode cX12_agrees 288 = .ok (.iconst 0, 1) := by decide +kernel
theorem dX12_agrees_289 : decode cX12_agrees 289 = .ok (.ireturn, 1) := by decide +kernel
theorem dX12_agrees_290 : decode cX12_agrees 290 = .ok (.iinc 2 1, 3) := by decide +kernel
theorem dX12_agrees_293 : decode cX12_agrees 293 = .ok (.goto (-43), 3) := by decide +kernel
theorem dX12_agrees_296 : decode cX12_agrees 296 = .ok (.aload_n 1, 1) := by decide +kernel
theorem dX12_agrees_297 : decode cX12_agrees 297 = .ok (.iconst 0, 1) := by decide +kernel
theorem dX12_agrees_298 : decode cX12_agrees 298 = .ok (.invokevirtual 167, 3) := by decide +kernel
theorem dX12_agrees_301 : decode cX12_agrees 301 = .ok (.aload_n 0, 1) := by decide +kernel
theorem dX12_agrees_302 : decode cX12_agrees 302 = .ok (.getfield 31, 3) := by decide +kernel
theorem dX12_agrees_305 : decode cX12_agrees 305 = .ok (.iconst 0, 1) := by decide +kernel
theorem dX12_agrees_306 : decode cX12_agrees 306 = .ok (.iaload, 1) := by decide +kernel
theorem dX12_agrees_307 : decode cX12_agrees 307 = .ok (.if_icmp .ne 21, 3) := by decide +kernel
theorem dX12_agrees_310 : decode cX12_agrees 310 = .ok (.aload_n 1, 1) := by decide +kernel
theorem dX12_agrees_311 : decode cX12_agrees 311 = .ok (.iconst 1, 1) := by decide +kernel
theorem dX12_agrees_312 : decode cX12_agrees 312 = .ok (.invokevirtual 167, 3) := by decide +kernel
theorem dX12_agrees_315 : decode cX12_agrees 315 = .ok (.aload_n 0, 1) := by decide +kernel
theorem dX12_agrees_316 : decode cX12_agrees 316 = .ok (.getfield 31, 3) := by decide +kernel
theorem dX12_agrees_319 : decode cX12_agrees 319 = .ok (.iconst 1, 1) := by decide +kernel
theorem dX12_agrees_320 : decode cX12_agrees 320 = .ok (.iaload, 1) := by decide +kernel
theorem dX12_agrees_321 : decode cX12_agrees 321 = .ok (.if_icmp .ne 7, 3) := by decide +kernel
theorem dX12_agrees_324 : decode cX12_agrees 324 = .ok (.iconst 1, 1) := by decide +kernel
theorem dX12_agrees_325 : decode cX12_agrees 325 = .ok (.goto 4, 3) := by decide +kernel
theorem dX12_agrees_328 : decode cX12_agrees 328 = .ok (.iconst 0, 1) := by decide +kernel
theorem dX12_agrees_329 : decode cX12_agrees 329 = .ok (.ireturn, 1) := by decide +kernel
