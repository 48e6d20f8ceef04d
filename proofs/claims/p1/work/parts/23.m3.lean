theorem t_667 : Cond.methodLink "ContentLibraryModel" 109 (⟨"ContentLibraryModel", "isBelow", "(JII)Z"⟩ : MethodName) ∈ x_big := x_bt 667 (by decide +kernel) (by decide +kernel)
theorem t_668 : Cond.static (⟨"ContentLibraryModel", "isBelow", "(JII)Z"⟩ : MethodName) ∈ x_big := x_bt 668 (by decide +kernel) (by decide +kernel)
theorem t_669 : Cond.code (⟨"ContentLibraryModel", "isBelow", "(JII)Z"⟩ : MethodName) prog_7_method_4_code 26 (some .boolean) ∈ x_big := x_bt 669 (by decide +kernel) (by decide +kernel)
theorem t_670 : Cond.constantLong "ContentLibraryModel" 105 4294967295 ∈ x_big := x_bt 670 (by decide +kernel) (by decide +kernel)
theorem t_671 : Cond.constantLong "ContentLibraryModel" 107 2 ∈ x_big := x_bt 671 (by decide +kernel) (by decide +kernel)
theorem d_M_isPrime_0 : decode prog_7_method_3_code 0 = .ok (.iconst 1, 1) := by decide +kernel
theorem d_M_isPrime_1 : decode prog_7_method_3_code 1 = .ok (.istore_n 1, 1) := by decide +kernel
theorem d_M_isPrime_2 : decode prog_7_method_3_code 2 = .ok (.iconst 2, 1) := by decide +kernel
theorem d_M_isPrime_3 : decode prog_7_method_3_code 3 = .ok (.istore_n 2, 1) := by decide +kernel
theorem d_M_isPrime_4 : decode prog_7_method_3_code 4 = .ok (.iload_n 2, 1) := by decide +kernel
theorem d_M_isPrime_5 : decode prog_7_method_3_code 5 = .ok (.iload_n 2, 1) := by decide +kernel
theorem d_M_isPrime_6 : decode prog_7_method_3_code 6 = .ok (.imul, 1) := by decide +kernel
theorem d_M_isPrime_7 : decode prog_7_method_3_code 7 = .ok (.iload_n 0, 1) := by decide +kernel
theorem d_M_isPrime_8 : decode prog_7_method_3_code 8 = .ok (.if_icmp .gt 25, 3) := by decide +kernel
theorem d_M_isPrime_11 : decode prog_7_method_3_code 11 = .ok (.iload_n 1, 1) := by decide +kernel
theorem d_M_isPrime_12 : decode prog_7_method_3_code 12 = .ok (.ifCond .eq 13, 3) := by decide +kernel
theorem d_M_isPrime_15 : decode prog_7_method_3_code 15 = .ok (.iload_n 0, 1) := by decide +kernel
theorem d_M_isPrime_16 : decode prog_7_method_3_code 16 = .ok (.iload_n 2, 1) := by decide +kernel
theorem d_M_isPrime_17 : decode prog_7_method_3_code 17 = .ok (.irem, 1) := by decide +kernel
theorem d_M_isPrime_18 : decode prog_7_method_3_code 18 = .ok (.ifCond .eq 7, 3) := by decide +kernel
theorem d_M_isPrime_21 : decode prog_7_method_3_code 21 = .ok (.iconst 1, 1) := by decide +kernel
theorem d_M_isPrime_22 : decode prog_7_method_3_code 22 = .ok (.goto 4, 3) := by decide +kernel
theorem d_M_isPrime_26 : decode prog_7_method_3_code 26 = .ok (.istore_n 1, 1) := by decide +kernel
theorem d_M_isPrime_27 : decode prog_7_method_3_code 27 = .ok (.iinc 2 1, 3) := by decide +kernel
theorem d_M_isPrime_30 : decode prog_7_method_3_code 30 = .ok (.goto (-26), 3) := by decide +kernel
theorem d_M_isPrime_25 : decode prog_7_method_3_code 25 = .ok (.iconst 0, 1) := by decide +kernel
theorem d_M_isPrime_33 : decode prog_7_method_3_code 33 = .ok (.iload_n 1, 1) := by decide +kernel
theorem d_M_isPrime_34 : decode prog_7_method_3_code 34 = .ok (.ireturn, 1) := by decide +kernel
theorem d_M_isBelow_0 : decode prog_7_method_4_code 0 = .ok (.lload_n 0, 1) := by decide +kernel
theorem d_M_isBelow_1 : decode prog_7_method_4_code 1 = .ok (.ldc2_w 105, 3) := by decide +kernel
theorem d_M_isBelow_4 : decode prog_7_method_4_code 4 = .ok (.land, 1) := by decide +kernel
theorem d_M_isBelow_5 : decode prog_7_method_4_code 5 = .ok (.lstore 4, 2) := by decide +kernel
theorem d_M_isBelow_7 : decode prog_7_method_4_code 7 = .ok (.lload_n 0, 1) := by decide +kernel
theorem d_M_isBelow_8 : decode prog_7_method_4_code 8 = .ok (.bipush 32, 2) := by decide +kernel
theorem d_M_isBelow_10 : decode prog_7_method_4_code 10 = .ok (.lushr, 1) := by decide +kernel
theorem d_M_isBelow_11 : decode prog_7_method_4_code 11 = .ok (.lstore 6, 2) := by decide +kernel
theorem d_M_isBelow_13 : decode prog_7_method_4_code 13 = .ok (.lload 4, 2) := by decide +kernel
theorem d_M_isBelow_15 : decode prog_7_method_4_code 15 = .ok (.lload 4, 2) := by decide +kernel
theorem d_M_isBelow_17 : decode prog_7_method_4_code 17 = .ok (.lmul, 1) := by decide +kernel
theorem d_M_isBelow_18 : decode prog_7_method_4_code 18 = .ok (.lstore 8, 2) := by decide +kernel
theorem d_M_isBelow_20 : decode prog_7_method_4_code 20 = .ok (.ldc2_w 107, 3) := by decide +kernel
theorem d_M_isBelow_23 : decode prog_7_method_4_code 23 = .ok (.lload 4, 2) := by decide +kernel
theorem d_M_isBelow_25 : decode prog_7_method_4_code 25 = .ok (.lmul, 1) := by decide +kernel
theorem d_M_isBelow_26 : decode prog_7_method_4_code 26 = .ok (.lload 6, 2) := by decide +kernel
theorem d_M_isBelow_28 : decode prog_7_method_4_code 28 = .ok (.lmul, 1) := by decide +kernel
theorem d_M_isBelow_29 : decode prog_7_method_4_code 29 = .ok (.lload 8, 2) := by decide +kernel
theorem d_M_isBelow_31 : decode prog_7_method_4_code 31 = .ok (.bipush 32, 2) := by decide +kernel
theorem d_M_isBelow_33 : decode prog_7_method_4_code 33 = .ok (.lushr, 1) := by decide +kernel
theorem d_M_isBelow_34 : decode prog_7_method_4_code 34 = .ok (.ladd, 1) := by decide +kernel
theorem d_M_isBelow_35 : decode prog_7_method_4_code 35 = .ok (.lstore 10, 2) := by decide +kernel
theorem d_M_isBelow_37 : decode prog_7_method_4_code 37 = .ok (.lload 6, 2) := by decide +kernel
theorem d_M_isBelow_39 : decode prog_7_method_4_code 39 = .ok (.lload 6, 2) := by decide +kernel
theorem d_M_isBelow_41 : decode prog_7_method_4_code 41 = .ok (.lmul, 1) := by decide +kernel
theorem d_M_isBelow_42 : decode prog_7_method_4_code 42 = .ok (.lload 10, 2) := by decide +kernel
theorem d_M_isBelow_44 : decode prog_7_method_4_code 44 = .ok (.bipush 32, 2) := by decide +kernel
theorem d_M_isBelow_46 : decode prog_7_method_4_code 46 = .ok (.lushr, 1) := by decide +kernel
theorem d_M_isBelow_47 : decode prog_7_method_4_code 47 = .ok (.ladd, 1) := by decide +kernel
theorem d_M_isBelow_48 : decode prog_7_method_4_code 48 = .ok (.lstore 12, 2) := by decide +kernel
theorem d_M_isBelow_50 : decode prog_7_method_4_code 50 = .ok (.lload 8, 2) := by decide +kernel
theorem d_M_isBelow_52 : decode prog_7_method_4_code 52 = .ok (.ldc2_w 105, 3) := by decide +kernel
theorem d_M_isBelow_55 : decode prog_7_method_4_code 55 = .ok (.land, 1) := by decide +kernel
theorem d_M_isBelow_56 : decode prog_7_method_4_code 56 = .ok (.lstore 8, 2) := by decide +kernel
theorem d_M_isBelow_58 : decode prog_7_method_4_code 58 = .ok (.lload 10, 2) := by decide +kernel
theorem d_M_isBelow_60 : decode prog_7_method_4_code 60 = .ok (.ldc2_w 105, 3) := by decide +kernel
theorem d_M_isBelow_63 : decode prog_7_method_4_code 63 = .ok (.land, 1) := by decide +kernel
theorem d_M_isBelow_64 : decode prog_7_method_4_code 64 = .ok (.lstore 10, 2) := by decide +kernel
theorem d_M_isBelow_66 : decode prog_7_method_4_code 66 = .ok (.iload_n 2, 1) := by decide +kernel
theorem d_M_isBelow_67 : decode prog_7_method_4_code 67 = .ok (.iconst 2, 1) := by decide +kernel
theorem d_M_isBelow_68 : decode prog_7_method_4_code 68 = .ok (.if_icmp .ne 39, 3) := by decide +kernel
theorem d_M_isBelow_71 : decode prog_7_method_4_code 71 = .ok (.lload 12, 2) := by decide +kernel
theorem d_M_isBelow_73 : decode prog_7_method_4_code 73 = .ok (.iload_n 3, 1) := by decide +kernel
theorem d_M_isBelow_74 : decode prog_7_method_4_code 74 = .ok (.i2l, 1) := by decide +kernel
theorem d_M_isBelow_75 : decode prog_7_method_4_code 75 = .ok (.lcmp, 1) := by decide +kernel
theorem d_M_isBelow_76 : decode prog_7_method_4_code 76 = .ok (.ifCond .lt 25, 3) := by decide +kernel
theorem d_M_isBelow_79 : decode prog_7_method_4_code 79 = .ok (.lload 12, 2) := by decide +kernel
theorem d_M_isBelow_81 : decode prog_7_method_4_code 81 = .ok (.iload_n 3, 1) := by decide +kernel
theorem d_M_isBelow_82 : decode prog_7_method_4_code 82 = .ok (.i2l, 1) := by decide +kernel
theorem d_M_isBelow_83 : decode prog_7_method_4_code 83 = .ok (.lcmp, 1) := by decide +kernel
theorem d_M_isBelow_84 : decode prog_7_method_4_code 84 = .ok (.ifCond .ne 21, 3) := by decide +kernel
theorem d_M_isBelow_87 : decode prog_7_method_4_code 87 = .ok (.lload 8, 2) := by decide +kernel
theorem d_M_isBelow_89 : decode prog_7_method_4_code 89 = .ok (.lconst 0, 1) := by decide +kernel
theorem d_M_isBelow_90 : decode prog_7_method_4_code 90 = .ok (.lcmp, 1) := by decide +kernel
theorem d_M_isBelow_91 : decode prog_7_method_4_code 91 = .ok (.ifCond .ne 14, 3) := by decide +kernel
theorem d_M_isBelow_94 : decode prog_7_method_4_code 94 = .ok (.lload 10, 2) := by decide +kernel
theorem d_M_isBelow_96 : decode prog_7_method_4_code 96 = .ok (.lconst 0, 1) := by decide +kernel
theorem d_M_isBelow_97 : decode prog_7_method_4_code 97 = .ok (.lcmp, 1) := by decide +kernel
theorem d_M_isBelow_98 : decode prog_7_method_4_code 98 = .ok (.ifCond .ne 7, 3) := by decide +kernel
theorem d_M_isBelow_101 : decode prog_7_method_4_code 101 = .ok (.iconst 1, 1) := by decide +kernel
theorem d_M_isBelow_102 : decode prog_7_method_4_code 102 = .ok (.goto 4, 3) := by decide +kernel
theorem d_M_isBelow_106 : decode prog_7_method_4_code 106 = .ok (.ireturn, 1) := by decide +kernel
theorem d_M_isBelow_105 : decode prog_7_method_4_code 105 = .ok (.iconst 0, 1) := by decide +kernel
theorem d_M_isBelow_107 : decode prog_7_method_4_code 107 = .ok (.lload 8, 2) := by decide +kernel
theorem d_M_isBelow_109 : decode prog_7_method_4_code 109 = .ok (.lload 4, 2) := by decide +kernel
theorem d_M_isBelow_111 : decode prog_7_method_4_code 111 = .ok (.lmul, 1) := by decide +kernel
theorem d_M_isBelow_112 : decode prog_7_method_4_code 112 = .ok (.lstore 14, 2) := by decide +kernel
theorem d_M_isBelow_114 : decode prog_7_method_4_code 114 = .ok (.lload 8, 2) := by decide +kernel
theorem d_M_isBelow_116 : decode prog_7_method_4_code 116 = .ok (.lload 6, 2) := by decide +kernel
theorem d_M_isBelow_118 : decode prog_7_method_4_code 118 = .ok (.lmul, 1) := by decide +kernel
theorem d_M_isBelow_119 : decode prog_7_method_4_code 119 = .ok (.lload 14, 2) := by decide +kernel
theorem d_M_isBelow_121 : decode prog_7_method_4_code 121 = .ok (.bipush 32, 2) := by decide +kernel
theorem d_M_isBelow_123 : decode prog_7_method_4_code 123 = .ok (.lushr, 1) := by decide +kernel
theorem d_M_isBelow_124 : decode prog_7_method_4_code 124 = .ok (.ladd, 1) := by decide +kernel
theorem d_M_isBelow_125 : decode prog_7_method_4_code 125 = .ok (.lstore 16, 2) := by decide +kernel
theorem d_M_isBelow_127 : decode prog_7_method_4_code 127 = .ok (.lload 10, 2) := by decide +kernel
theorem d_M_isBelow_129 : decode prog_7_method_4_code 129 = .ok (.lload 4, 2) := by decide +kernel
theorem d_M_isBelow_131 : decode prog_7_method_4_code 131 = .ok (.lmul, 1) := by decide +kernel
theorem d_M_isBelow_132 : decode prog_7_method_4_code 132 = .ok (.lstore 18, 2) := by decide +kernel
theorem d_M_isBelow_134 : decode prog_7_method_4_code 134 = .ok (.lload 16, 2) := by decide +kernel
theorem d_M_isBelow_136 : decode prog_7_method_4_code 136 = .ok (.ldc2_w 105, 3) := by decide +kernel
theorem d_M_isBelow_139 : decode prog_7_method_4_code 139 = .ok (.land, 1) := by decide +kernel
theorem d_M_isBelow_140 : decode prog_7_method_4_code 140 = .ok (.lload 18, 2) := by decide +kernel
theorem d_M_isBelow_142 : decode prog_7_method_4_code 142 = .ok (.ldc2_w 105, 3) := by decide +kernel
theorem d_M_isBelow_145 : decode prog_7_method_4_code 145 = .ok (.land, 1) := by decide +kernel
theorem d_M_isBelow_146 : decode prog_7_method_4_code 146 = .ok (.ladd, 1) := by decide +kernel
theorem d_M_isBelow_147 : decode prog_7_method_4_code 147 = .ok (.lstore 20, 2) := by decide +kernel
theorem d_M_isBelow_149 : decode prog_7_method_4_code 149 = .ok (.lload 10, 2) := by decide +kernel
theorem d_M_isBelow_151 : decode prog_7_method_4_code 151 = .ok (.lload 6, 2) := by decide +kernel
theorem d_M_isBelow_153 : decode prog_7_method_4_code 153 = .ok (.lmul, 1) := by decide +kernel
theorem d_M_isBelow_154 : decode prog_7_method_4_code 154 = .ok (.lload 12, 2) := by decide +kernel
theorem d_M_isBelow_156 : decode prog_7_method_4_code 156 = .ok (.lload 4, 2) := by decide +kernel
theorem d_M_isBelow_158 : decode prog_7_method_4_code 158 = .ok (.lmul, 1) := by decide +kernel
theorem d_M_isBelow_159 : decode prog_7_method_4_code 159 = .ok (.ladd, 1) := by decide +kernel
theorem d_M_isBelow_160 : decode prog_7_method_4_code 160 = .ok (.lload 16, 2) := by decide +kernel
theorem d_M_isBelow_162 : decode prog_7_method_4_code 162 = .ok (.bipush 32, 2) := by decide +kernel
theorem d_M_isBelow_164 : decode prog_7_method_4_code 164 = .ok (.lushr, 1) := by decide +kernel
theorem d_M_isBelow_165 : decode prog_7_method_4_code 165 = .ok (.ladd, 1) := by decide +kernel
theorem d_M_isBelow_166 : decode prog_7_method_4_code 166 = .ok (.lload 18, 2) := by decide +kernel
theorem d_M_isBelow_168 : decode prog_7_method_4_code 168 = .ok (.bipush 32, 2) := by decide +kernel
theorem d_M_isBelow_170 : decode prog_7_method_4_code 170 = .ok (.lushr, 1) := by decide +kernel
theorem d_M_isBelow_171 : decode prog_7_method_4_code 171 = .ok (.ladd, 1) := by decide +kernel
theorem d_M_isBelow_172 : decode prog_7_method_4_code 172 = .ok (.lload 20, 2) := by decide +kernel
theorem d_M_isBelow_174 : decode prog_7_method_4_code 174 = .ok (.bipush 32, 2) := by decide +kernel
theorem d_M_isBelow_176 : decode prog_7_method_4_code 176 = .ok (.lushr, 1) := by decide +kernel
theorem d_M_isBelow_177 : decode prog_7_method_4_code 177 = .ok (.ladd, 1) := by decide +kernel
theorem d_M_isBelow_178 : decode prog_7_method_4_code 178 = .ok (.lstore 22, 2) := by decide +kernel
theorem d_M_isBelow_180 : decode prog_7_method_4_code 180 = .ok (.lload 12, 2) := by decide +kernel
theorem d_M_isBelow_182 : decode prog_7_method_4_code 182 = .ok (.lload 6, 2) := by decide +kernel
theorem d_M_isBelow_184 : decode prog_7_method_4_code 184 = .ok (.lmul, 1) := by decide +kernel
theorem d_M_isBelow_185 : decode prog_7_method_4_code 185 = .ok (.lload 22, 2) := by decide +kernel
theorem d_M_isBelow_187 : decode prog_7_method_4_code 187 = .ok (.bipush 32, 2) := by decide +kernel
theorem d_M_isBelow_189 : decode prog_7_method_4_code 189 = .ok (.lushr, 1) := by decide +kernel
theorem d_M_isBelow_190 : decode prog_7_method_4_code 190 = .ok (.ladd, 1) := by decide +kernel
theorem d_M_isBelow_191 : decode prog_7_method_4_code 191 = .ok (.lstore 24, 2) := by decide +kernel
theorem d_M_isBelow_193 : decode prog_7_method_4_code 193 = .ok (.lload 14, 2) := by decide +kernel
theorem d_M_isBelow_195 : decode prog_7_method_4_code 195 = .ok (.ldc2_w 105, 3) := by decide +kernel
theorem d_M_isBelow_198 : decode prog_7_method_4_code 198 = .ok (.land, 1) := by decide +kernel
theorem d_M_isBelow_199 : decode prog_7_method_4_code 199 = .ok (.lstore 14, 2) := by decide +kernel
theorem d_M_isBelow_201 : decode prog_7_method_4_code 201 = .ok (.lload 20, 2) := by decide +kernel
theorem d_M_isBelow_203 : decode prog_7_method_4_code 203 = .ok (.ldc2_w 105, 3) := by decide +kernel
theorem d_M_isBelow_206 : decode prog_7_method_4_code 206 = .ok (.land, 1) := by decide +kernel
theorem d_M_isBelow_207 : decode prog_7_method_4_code 207 = .ok (.lstore 20, 2) := by decide +kernel
theorem d_M_isBelow_209 : decode prog_7_method_4_code 209 = .ok (.lload 22, 2) := by decide +kernel
theorem d_M_isBelow_211 : decode prog_7_method_4_code 211 = .ok (.ldc2_w 105, 3) := by decide +kernel
theorem d_M_isBelow_214 : decode prog_7_method_4_code 214 = .ok (.land, 1) := by decide +kernel
theorem d_M_isBelow_215 : decode prog_7_method_4_code 215 = .ok (.lstore 22, 2) := by decide +kernel
theorem d_M_isBelow_217 : decode prog_7_method_4_code 217 = .ok (.lload 24, 2) := by decide +kernel
theorem d_M_isBelow_219 : decode prog_7_method_4_code 219 = .ok (.iload_n 3, 1) := by decide +kernel
theorem d_M_isBelow_220 : decode prog_7_method_4_code 220 = .ok (.i2l, 1) := by decide +kernel
theorem d_M_isBelow_221 : decode prog_7_method_4_code 221 = .ok (.lcmp, 1) := by decide +kernel
theorem d_M_isBelow_222 : decode prog_7_method_4_code 222 = .ok (.ifCond .lt 32, 3) := by decide +kernel
theorem d_M_isBelow_225 : decode prog_7_method_4_code 225 = .ok (.lload 24, 2) := by decide +kernel
theorem d_M_isBelow_227 : decode prog_7_method_4_code 227 = .ok (.iload_n 3, 1) := by decide +kernel
theorem d_M_isBelow_228 : decode prog_7_method_4_code 228 = .ok (.i2l, 1) := by decide +kernel
theorem d_M_isBelow_229 : decode prog_7_method_4_code 229 = .ok (.lcmp, 1) := by decide +kernel
theorem d_M_isBelow_230 : decode prog_7_method_4_code 230 = .ok (.ifCond .ne 28, 3) := by decide +kernel
theorem d_M_isBelow_233 : decode prog_7_method_4_code 233 = .ok (.lload 14, 2) := by decide +kernel
theorem d_M_isBelow_235 : decode prog_7_method_4_code 235 = .ok (.lconst 0, 1) := by decide +kernel
theorem d_M_isBelow_236 : decode prog_7_method_4_code 236 = .ok (.lcmp, 1) := by decide +kernel
theorem d_M_isBelow_237 : decode prog_7_method_4_code 237 = .ok (.ifCond .ne 21, 3) := by decide +kernel
theorem d_M_isBelow_240 : decode prog_7_method_4_code 240 = .ok (.lload 20, 2) := by decide +kernel
theorem d_M_isBelow_242 : decode prog_7_method_4_code 242 = .ok (.lconst 0, 1) := by decide +kernel
theorem d_M_isBelow_243 : decode prog_7_method_4_code 243 = .ok (.lcmp, 1) := by decide +kernel
theorem d_M_isBelow_244 : decode prog_7_method_4_code 244 = .ok (.ifCond .ne 14, 3) := by decide +kernel
theorem d_M_isBelow_247 : decode prog_7_method_4_code 247 = .ok (.lload 22, 2) := by decide +kernel
theorem d_M_isBelow_249 : decode prog_7_method_4_code 249 = .ok (.lconst 0, 1) := by decide +kernel
theorem d_M_isBelow_250 : decode prog_7_method_4_code 250 = .ok (.lcmp, 1) := by decide +kernel
theorem d_M_isBelow_251 : decode prog_7_method_4_code 251 = .ok (.ifCond .ne 7, 3) := by decide +kernel
theorem d_M_isBelow_254 : decode prog_7_method_4_code 254 = .ok (.iconst 1, 1) := by decide +kernel
theorem d_M_isBelow_255 : decode prog_7_method_4_code 255 = .ok (.goto 4, 3) := by decide +kernel
theorem d_M_isBelow_259 : decode prog_7_method_4_code 259 = .ok (.ireturn, 1) := by decide +kernel
theorem d_M_isBelow_258 : decode prog_7_method_4_code 258 = .ok (.iconst 0, 1) := by decide +kernel
theorem d_M_rootOf_0 : decode prog_7_method_5_code 0 = .ok (.lconst 0, 1) := by decide +kernel
theorem d_M_rootOf_1 : decode prog_7_method_5_code 1 = .ok (.lstore_n 2, 1) := by decide +kernel
theorem d_M_rootOf_2 : decode prog_7_method_5_code 2 = .ok (.bipush 39, 2) := by decide +kernel
theorem d_M_rootOf_4 : decode prog_7_method_5_code 4 = .ok (.istore 4, 2) := by decide +kernel
theorem d_M_rootOf_6 : decode prog_7_method_5_code 6 = .ok (.iload 4, 2) := by decide +kernel
theorem d_M_rootOf_8 : decode prog_7_method_5_code 8 = .ok (.ifCond .lt 34, 3) := by decide +kernel
theorem d_M_rootOf_11 : decode prog_7_method_5_code 11 = .ok (.lload_n 2, 1) := by decide +kernel
theorem d_M_rootOf_12 : decode prog_7_method_5_code 12 = .ok (.lload_n 2, 1) := by decide +kernel
theorem d_M_rootOf_13 : decode prog_7_method_5_code 13 = .ok (.lconst 1, 1) := by decide +kernel
theorem d_M_rootOf_14 : decode prog_7_method_5_code 14 = .ok (.iload 4, 2) := by decide +kernel
theorem d_M_rootOf_16 : decode prog_7_method_5_code 16 = .ok (.lshl, 1) := by decide +kernel
theorem d_M_rootOf_17 : decode prog_7_method_5_code 17 = .ok (.ladd, 1) := by decide +kernel
theorem d_M_rootOf_18 : decode prog_7_method_5_code 18 = .ok (.iload_n 1, 1) := by decide +kernel
theorem d_M_rootOf_19 : decode prog_7_method_5_code 19 = .ok (.iload_n 0, 1) := by decide +kernel
theorem d_M_rootOf_20 : decode prog_7_method_5_code 20 = .ok (.invokestatic 109, 3) := by decide +kernel
theorem d_M_rootOf_23 : decode prog_7_method_5_code 23 = .ok (.ifCond .eq 10, 3) := by decide +kernel
theorem d_M_rootOf_26 : decode prog_7_method_5_code 26 = .ok (.lconst 1, 1) := by decide +kernel
theorem d_M_rootOf_27 : decode prog_7_method_5_code 27 = .ok (.iload 4, 2) := by decide +kernel
theorem d_M_rootOf_29 : decode prog_7_method_5_code 29 = .ok (.lshl, 1) := by decide +kernel
theorem d_M_rootOf_30 : decode prog_7_method_5_code 30 = .ok (.goto 4, 3) := by decide +kernel
theorem d_M_rootOf_34 : decode prog_7_method_5_code 34 = .ok (.ladd, 1) := by decide +kernel
theorem d_M_rootOf_35 : decode prog_7_method_5_code 35 = .ok (.lstore_n 2, 1) := by decide +kernel
theorem d_M_rootOf_36 : decode prog_7_method_5_code 36 = .ok (.iinc 4 (-1), 3) := by decide +kernel
theorem d_M_rootOf_39 : decode prog_7_method_5_code 39 = .ok (.goto (-33), 3) := by decide +kernel
theorem d_M_rootOf_33 : decode prog_7_method_5_code 33 = .ok (.lconst 0, 1) := by decide +kernel
theorem d_M_rootOf_42 : decode prog_7_method_5_code 42 = .ok (.lload_n 2, 1) := by decide +kernel
theorem d_M_rootOf_43 : decode prog_7_method_5_code 43 = .ok (.l2i, 1) := by decide +kernel
theorem d_M_rootOf_44 : decode prog_7_method_5_code 44 = .ok (.ireturn, 1) := by decide +kernel
def f_M_isPrime_33 (xn : Nat) (a1 : Int32) (z0 : x_St) : Option (Int32 × x_St) :=
  (x_ckb a1
  (some (a1, z0)))
def f_M_isPrime_4 (xn : Nat) : Nat → Int32 → Int32 → Int32 → x_St → Option (Int32 × x_St)
  | 0, _, _, _, _ => none
  | fu + 1, a0, a1, a2, z0 =>
    (if a0 < (a2 * a2) then
    (f_M_isPrime_33 xn a1 z0)
    else
    (if a1 = 0 then
    (f_M_isPrime_4 xn fu a0 (0 : Int32) (a2 + (1 : Int32)) z0)
    else
    (x_nz a2
    (if (a0 - a0 / a2 * a2) = 0 then
    (f_M_isPrime_4 xn fu a0 (0 : Int32) (a2 + (1 : Int32)) z0)
    else
    (f_M_isPrime_4 xn fu a0 (1 : Int32) (a2 + (1 : Int32)) z0)))))
def f_M_isPrime (xn : Nat) (p1 : Int32) (z0 : x_St) : Option (Int32 × x_St) :=
  (f_M_isPrime_4 xn x_FU p1 (1 : Int32) (2 : Int32) z0)
def f_M_isBelow_254 (xn : Nat)  (z0 : x_St) : Option (Int32 × x_St) :=
  (some ((1 : Int32), z0))
def f_M_isBelow_101 (xn : Nat)  (z0 : x_St) : Option (Int32 × x_St) :=
  (some ((1 : Int32), z0))
def f_M_isBelow (xn : Nat) (p1 : Int64) (p2 : Int32) (p3 : Int32) (z0 : x_St) : Option (Int32 × x_St) :=
  (if p2 = (2 : Int32) then
  (if (lg_cmp (((x_lushr p1 (32 : Int32)) * (x_lushr p1 (32 : Int32))) + (x_lushr ((((2 : Int64) * (p1 &&& (4294967295 : Int64))) * (x_lushr p1 (32 : Int32))) + (x_lushr ((p1 &&& (4294967295 : Int64)) * (p1 &&& (4294967295 : Int64))) (32 : Int32))) (32 : Int32))) ((p3).toInt64)) < 0 then
  (f_M_isBelow_101 xn z0)
  else
  (if (lg_cmp (((x_lushr p1 (32 : Int32)) * (x_lushr p1 (32 : Int32))) + (x_lushr ((((2 : Int64) * (p1 &&& (4294967295 : Int64))) * (x_lushr p1 (32 : Int32))) + (x_lushr ((p1 &&& (4294967295 : Int64)) * (p1 &&& (4294967295 : Int64))) (32 : Int32))) (32 : Int32))) ((p3).toInt64)) = 0 then
  (if (lg_cmp (((p1 &&& (4294967295 : Int64)) * (p1 &&& (4294967295 : Int64))) &&& (4294967295 : Int64)) (0 : Int64)) = 0 then
  (if (lg_cmp (((((2 : Int64) * (p1 &&& (4294967295 : Int64))) * (x_lushr p1 (32 : Int32))) + (x_lushr ((p1 &&& (4294967295 : Int64)) * (p1 &&& (4294967295 : Int64))) (32 : Int32))) &&& (4294967295 : Int64)) (0 : Int64)) = 0 then
  (f_M_isBelow_101 xn z0)
  else
  (some ((0 : Int32), z0)))
  else
  (some ((0 : Int32), z0)))
  else
  (some ((0 : Int32), z0))))
  else
  (if (lg_cmp (((((x_lushr p1 (32 : Int32)) * (x_lushr p1 (32 : Int32))) + (x_lushr ((((2 : Int64) * (p1 &&& (4294967295 : Int64))) * (x_lushr p1 (32 : Int32))) + (x_lushr ((p1 &&& (4294967295 : Int64)) * (p1 &&& (4294967295 : Int64))) (32 : Int32))) (32 : Int32))) * (x_lushr p1 (32 : Int32))) + (x_lushr ((((((((((2 : Int64) * (p1 &&& (4294967295 : Int64))) * (x_lushr p1 (32 : Int32))) + (x_lushr ((p1 &&& (4294967295 : Int64)) * (p1 &&& (4294967295 : Int64))) (32 : Int32))) &&& (4294967295 : Int64)) * (x_lushr p1 (32 : Int32))) + ((((x_lushr p1 (32 : Int32)) * (x_lushr p1 (32 : Int32))) + (x_lushr ((((2 : Int64) * (p1 &&& (4294967295 : Int64))) * (x_lushr p1 (32 : Int32))) + (x_lushr ((p1 &&& (4294967295 : Int64)) * (p1 &&& (4294967295 : Int64))) (32 : Int32))) (32 : Int32))) * (p1 &&& (4294967295 : Int64)))) + (x_lushr (((((p1 &&& (4294967295 : Int64)) * (p1 &&& (4294967295 : Int64))) &&& (4294967295 : Int64)) * (x_lushr p1 (32 : Int32))) + (x_lushr ((((p1 &&& (4294967295 : Int64)) * (p1 &&& (4294967295 : Int64))) &&& (4294967295 : Int64)) * (p1 &&& (4294967295 : Int64))) (32 : Int32))) (32 : Int32))) + (x_lushr ((((((2 : Int64) * (p1 &&& (4294967295 : Int64))) * (x_lushr p1 (32 : Int32))) + (x_lushr ((p1 &&& (4294967295 : Int64)) * (p1 &&& (4294967295 : Int64))) (32 : Int32))) &&& (4294967295 : Int64)) * (p1 &&& (4294967295 : Int64))) (32 : Int32))) + (x_lushr (((((((p1 &&& (4294967295 : Int64)) * (p1 &&& (4294967295 : Int64))) &&& (4294967295 : Int64)) * (x_lushr p1 (32 : Int32))) + (x_lushr ((((p1 &&& (4294967295 : Int64)) * (p1 &&& (4294967295 : Int64))) &&& (4294967295 : Int64)) * (p1 &&& (4294967295 : Int64))) (32 : Int32))) &&& (4294967295 : Int64)) + (((((((2 : Int64) * (p1 &&& (4294967295 : Int64))) * (x_lushr p1 (32 : Int32))) + (x_lushr ((p1 &&& (4294967295 : Int64)) * (p1 &&& (4294967295 : Int64))) (32 : Int32))) &&& (4294967295 : Int64)) * (p1 &&& (4294967295 : Int64))) &&& (4294967295 : Int64))) (32 : Int32))) (32 : Int32))) ((p3).toInt64)) < 0 then
  (f_M_isBelow_254 xn z0)
  else
  (if (lg_cmp (((((x_lushr p1 (32 : Int32)) * (x_lushr p1 (32 : Int32))) + (x_lushr ((((2 : Int64) * (p1 &&& (4294967295 : Int64))) * (x_lushr p1 (32 : Int32))) + (x_lushr ((p1 &&& (4294967295 : Int64)) * (p1 &&& (4294967295 : Int64))) (32 : Int32))) (32 : Int32))) * (x_lushr p1 (32 : Int32))) + (x_lushr ((((((((((2 : Int64) * (p1 &&& (4294967295 : Int64))) * (x_lushr p1 (32 : Int32))) + (x_lushr ((p1 &&& (4294967295 : Int64)) * (p1 &&& (4294967295 : Int64))) (32 : Int32))) &&& (4294967295 : Int64)) * (x_lushr p1 (32 : Int32))) + ((((x_lushr p1 (32 : Int32)) * (x_lushr p1 (32 : Int32))) + (x_lushr ((((2 : Int64) * (p1 &&& (4294967295 : Int64))) * (x_lushr p1 (32 : Int32))) + (x_lushr ((p1 &&& (4294967295 : Int64)) * (p1 &&& (4294967295 : Int64))) (32 : Int32))) (32 : Int32))) * (p1 &&& (4294967295 : Int64)))) + (x_lushr (((((p1 &&& (4294967295 : Int64)) * (p1 &&& (4294967295 : Int64))) &&& (4294967295 : Int64)) * (x_lushr p1 (32 : Int32))) + (x_lushr ((((p1 &&& (4294967295 : Int64)) * (p1 &&& (4294967295 : Int64))) &&& (4294967295 : Int64)) * (p1 &&& (4294967295 : Int64))) (32 : Int32))) (32 : Int32))) + (x_lushr ((((((2 : Int64) * (p1 &&& (4294967295 : Int64))) * (x_lushr p1 (32 : Int32))) + (x_lushr ((p1 &&& (4294967295 : Int64)) * (p1 &&& (4294967295 : Int64))) (32 : Int32))) &&& (4294967295 : Int64)) * (p1 &&& (4294967295 : Int64))) (32 : Int32))) + (x_lushr (((((((p1 &&& (4294967295 : Int64)) * (p1 &&& (4294967295 : Int64))) &&& (4294967295 : Int64)) * (x_lushr p1 (32 : Int32))) + (x_lushr ((((p1 &&& (4294967295 : Int64)) * (p1 &&& (4294967295 : Int64))) &&& (4294967295 : Int64)) * (p1 &&& (4294967295 : Int64))) (32 : Int32))) &&& (4294967295 : Int64)) + (((((((2 : Int64) * (p1 &&& (4294967295 : Int64))) * (x_lushr p1 (32 : Int32))) + (x_lushr ((p1 &&& (4294967295 : Int64)) * (p1 &&& (4294967295 : Int64))) (32 : Int32))) &&& (4294967295 : Int64)) * (p1 &&& (4294967295 : Int64))) &&& (4294967295 : Int64))) (32 : Int32))) (32 : Int32))) ((p3).toInt64)) = 0 then
  (if (lg_cmp (((((p1 &&& (4294967295 : Int64)) * (p1 &&& (4294967295 : Int64))) &&& (4294967295 : Int64)) * (p1 &&& (4294967295 : Int64))) &&& (4294967295 : Int64)) (0 : Int64)) = 0 then
  (if (lg_cmp ((((((((p1 &&& (4294967295 : Int64)) * (p1 &&& (4294967295 : Int64))) &&& (4294967295 : Int64)) * (x_lushr p1 (32 : Int32))) + (x_lushr ((((p1 &&& (4294967295 : Int64)) * (p1 &&& (4294967295 : Int64))) &&& (4294967295 : Int64)) * (p1 &&& (4294967295 : Int64))) (32 : Int32))) &&& (4294967295 : Int64)) + (((((((2 : Int64) * (p1 &&& (4294967295 : Int64))) * (x_lushr p1 (32 : Int32))) + (x_lushr ((p1 &&& (4294967295 : Int64)) * (p1 &&& (4294967295 : Int64))) (32 : Int32))) &&& (4294967295 : Int64)) * (p1 &&& (4294967295 : Int64))) &&& (4294967295 : Int64))) &&& (4294967295 : Int64)) (0 : Int64)) = 0 then
  (if (lg_cmp (((((((((((2 : Int64) * (p1 &&& (4294967295 : Int64))) * (x_lushr p1 (32 : Int32))) + (x_lushr ((p1 &&& (4294967295 : Int64)) * (p1 &&& (4294967295 : Int64))) (32 : Int32))) &&& (4294967295 : Int64)) * (x_lushr p1 (32 : Int32))) + ((((x_lushr p1 (32 : Int32)) * (x_lushr p1 (32 : Int32))) + (x_lushr ((((2 : Int64) * (p1 &&& (4294967295 : Int64))) * (x_lushr p1 (32 : Int32))) + (x_lushr ((p1 &&& (4294967295 : Int64)) * (p1 &&& (4294967295 : Int64))) (32 : Int32))) (32 : Int32))) * (p1 &&& (4294967295 : Int64)))) + (x_lushr (((((p1 &&& (4294967295 : Int64)) * (p1 &&& (4294967295 : Int64))) &&& (4294967295 : Int64)) * (x_lushr p1 (32 : Int32))) + (x_lushr ((((p1 &&& (4294967295 : Int64)) * (p1 &&& (4294967295 : Int64))) &&& (4294967295 : Int64)) * (p1 &&& (4294967295 : Int64))) (32 : Int32))) (32 : Int32))) + (x_lushr ((((((2 : Int64) * (p1 &&& (4294967295 : Int64))) * (x_lushr p1 (32 : Int32))) + (x_lushr ((p1 &&& (4294967295 : Int64)) * (p1 &&& (4294967295 : Int64))) (32 : Int32))) &&& (4294967295 : Int64)) * (p1 &&& (4294967295 : Int64))) (32 : Int32))) + (x_lushr (((((((p1 &&& (4294967295 : Int64)) * (p1 &&& (4294967295 : Int64))) &&& (4294967295 : Int64)) * (x_lushr p1 (32 : Int32))) + (x_lushr ((((p1 &&& (4294967295 : Int64)) * (p1 &&& (4294967295 : Int64))) &&& (4294967295 : Int64)) * (p1 &&& (4294967295 : Int64))) (32 : Int32))) &&& (4294967295 : Int64)) + (((((((2 : Int64) * (p1 &&& (4294967295 : Int64))) * (x_lushr p1 (32 : Int32))) + (x_lushr ((p1 &&& (4294967295 : Int64)) * (p1 &&& (4294967295 : Int64))) (32 : Int32))) &&& (4294967295 : Int64)) * (p1 &&& (4294967295 : Int64))) &&& (4294967295 : Int64))) (32 : Int32))) &&& (4294967295 : Int64)) (0 : Int64)) = 0 then
  (f_M_isBelow_254 xn z0)
  else
  (some ((0 : Int32), z0)))
  else
  (some ((0 : Int32), z0)))
  else
  (some ((0 : Int32), z0)))
  else
  (some ((0 : Int32), z0)))))
def f_M_rootOf_42 (xn : Nat) (a2 : Int64) (z0 : x_St) : Option (Int32 × x_St) :=
  (some (((a2).toInt32), z0))
def f_M_rootOf_6 (xn : Nat) : Nat → Int32 → Int32 → Int64 → Int32 → x_St → Option (Int32 × x_St)
  | 0, _, _, _, _, _ => none
  | fu + 1, a0, a1, a2, a4, z0 =>
    (if a4 < 0 then
    (f_M_rootOf_42 xn a2 z0)
    else
    (x_cl (f_M_isBelow xn (a2 + (x_lshl (1 : Int64) a4)) a1 a0 z0) (fun r2 z2 =>
    (if r2 = 0 then
    (f_M_rootOf_6 xn fu a0 a1 (a2 + (0 : Int64)) (a4 + (-1 : Int32)) z2)
    else
    (f_M_rootOf_6 xn fu a0 a1 (a2 + (x_lshl (1 : Int64) a4)) (a4 + (-1 : Int32)) z2)))))
def f_M_rootOf (xn : Nat) (p1 : Int32) (p2 : Int32) (z0 : x_St) : Option (Int32 × x_St) :=
  (f_M_rootOf_6 xn x_FU p1 p2 (0 : Int64) (39 : Int32) z0)
abbrev rm_M_isPrime : Room := { frames := 0, cells := 0, slots := 0, locals := 0 }
set_option maxHeartbeats 4000000 in
set_option maxRecDepth 100000 in
theorem w_M_isPrime_33 (l : Launch) (G : x_G) {p : Program} {e : Env} {s : State} {m : MethodId} {args : Array Value} {below : List Frame} {meth : Method} {c : Code} (C0 : m_Ctx G p s m args meth c prog_7_method_3_code "ContentLibraryModel" 3 (some .boolean)) (r : Int32) (zo : x_St) : ∀ (a1 : Int32) (z0 : x_St), f_M_isPrime_33 (x_n G) a1 z0 = some (r, zo) → ∀ (H : Heap) (locs : List Loc) (ls : Array Slot), va_P (x_D G) vwCl (m_Wd G z0) H → va_D (x_A G) (m_Wd G z0) → va_S (x_A G) s.heap H locs → lv_has ls 3 [(1, .int a1)] → W p l e rm_M_isPrime s m args below meth c H locs 0 0 (MQ below (va_Qi (fun a u => r = a ∧ zo = u) (m_PW G) (x_A G)) args s 0 0 (x_A G)) (F0 m 33 ls []) := by
  obtain ⟨hx, hb, hr, hml, hown, hts, hlocks, hz, hK, hG⟩ := id C0
  intro a1 z0 hf H locs ls hP hD hS hl
  rw [f_M_isPrime_33] at hf
  refine lv_iload_n hx hb d_M_isPrime_33 rfl (lv_at hl 0 rfl) ?_
  obtain ⟨hbo, hf⟩ := x_ckb_some hf
  obtain ⟨rfl, rfl⟩ := x_ret hf
  exact W.zret (v := a1) hx hb hr (x_nb hbo) (fun t ht hW => ⟨⟨_, _, rfl, ⟨rfl, rfl⟩, m_pw hP hD hK hG hS hz ht hW⟩, hS.F ht⟩) hS.2.2 d_M_isPrime_34
set_option maxHeartbeats 4000000 in
set_option maxRecDepth 100000 in
theorem w_M_isPrime_4 (l : Launch) (G : x_G) {p : Program} {e : Env} {s : State} {m : MethodId} {args : Array Value} {below : List Frame} {meth : Method} {c : Code} (C0 : m_Ctx G p s m args meth c prog_7_method_3_code "ContentLibraryModel" 3 (some .boolean)) (r : Int32) (zo : x_St) : ∀ (fu : Nat), ∀ (a0 : Int32) (a1 : Int32) (a2 : Int32) (z0 : x_St), f_M_isPrime_4 (x_n G) fu a0 a1 a2 z0 = some (r, zo) → ∀ (H : Heap) (locs : List Loc) (ls : Array Slot), va_P (x_D G) vwCl (m_Wd G z0) H → va_D (x_A G) (m_Wd G z0) → va_S (x_A G) s.heap H locs → lv_has ls 3 [(0, .int a0), (1, .int a1), (2, .int a2)] → W p l e rm_M_isPrime s m args below meth c H locs 0 0 (MQ below (va_Qi (fun a u => r = a ∧ zo = u) (m_PW G) (x_A G)) args s 0 0 (x_A G)) (F0 m 4 ls []) := by
  obtain ⟨hx, hb, hr, hml, hown, hts, hlocks, hz, hK, hG⟩ := id C0
  intro fu
  induction fu with
  | zero =>
    intro a0 a1 a2 z0 hf
    rw [f_M_isPrime_4] at hf
    cases hf
  | succ fu ih =>
    intro a0 a1 a2 z0 hf H locs ls hP hD hS hl
    rw [f_M_isPrime_4] at hf
    refine lv_iload_n hx hb d_M_isPrime_4 rfl (lv_at hl 2 rfl) ?_
    refine lv_iload_n hx hb d_M_isPrime_5 rfl (lv_at hl 2 rfl) ?_
    refine lv_imul hx hb d_M_isPrime_6 ?_
    refine lv_iload_n hx hb d_M_isPrime_7 rfl (lv_at hl 0 rfl) ?_
    refine lv_icmp_gt (tgt := 33) hx hb d_M_isPrime_8 (by decide) (fun hc1 => ?_) (fun hc1 => ?_)
    · have hf := x_br_t hf hc1
      exact w_M_isPrime_33 l G C0 r zo a1 z0 hf _ _ _ hP hD hS (lv_sub hl [1] rfl)
    · have hf := x_br_f hf hc1
      refine lv_iload_n hx hb d_M_isPrime_11 rfl (lv_at hl 1 rfl) ?_
      refine lv_if_eq (tgt := 25) hx hb d_M_isPrime_12 (by decide) (fun hc2 => ?_) (fun hc2 => ?_)
      · have hf := x_br_t hf hc2
        refine lv_iconst (v := (0 : Int32)) hx hb d_M_isPrime_25 (by decide) ?_
        refine lv_istore_n (lv' := [(1, .int (0 : Int32)), (0, .int a0), (2, .int a2)]) hx hb d_M_isPrime_26 rfl hl (by decide) rfl (fun ls hl => ?_)
        refine lv_iinc (v := (a2 + (1 : Int32))) (lv' := [(2, .int (a2 + (1 : Int32))), (1, .int (0 : Int32)), (0, .int a0)]) hx hb d_M_isPrime_27 hl (k := 2) rfl rfl (by decide) rfl (fun ls hl => ?_)
        refine lv_goto (tgt := 4) hx hb d_M_isPrime_30 (by decide) ?_
        exact ih a0 (0 : Int32) (a2 + (1 : Int32)) z0 hf _ _ _ hP hD hS (lv_sub hl [2, 1, 0] rfl)
      · have hf := x_br_f hf hc2
        refine lv_iload_n hx hb d_M_isPrime_15 rfl (lv_at hl 0 rfl) ?_
        refine lv_iload_n hx hb d_M_isPrime_16 rfl (lv_at hl 2 rfl) ?_
        obtain ⟨hnz, hf⟩ := x_nz_some hf
        refine lv_irem hx hb d_M_isPrime_17 hnz ?_
        refine lv_if_eq (tgt := 25) hx hb d_M_isPrime_18 (by decide) (fun hc3 => ?_) (fun hc3 => ?_)
        · have hf := x_br_t hf hc3
          refine lv_iconst (v := (0 : Int32)) hx hb d_M_isPrime_25 (by decide) ?_
          refine lv_istore_n (lv' := [(1, .int (0 : Int32)), (0, .int a0), (2, .int a2)]) hx hb d_M_isPrime_26 rfl hl (by decide) rfl (fun ls hl => ?_)
          refine lv_iinc (v := (a2 + (1 : Int32))) (lv' := [(2, .int (a2 + (1 : Int32))), (1, .int (0 : Int32)), (0, .int a0)]) hx hb d_M_isPrime_27 hl (k := 2) rfl rfl (by decide) rfl (fun ls hl => ?_)
          refine lv_goto (tgt := 4) hx hb d_M_isPrime_30 (by decide) ?_
          exact ih a0 (0 : Int32) (a2 + (1 : Int32)) z0 hf _ _ _ hP hD hS (lv_sub hl [2, 1, 0] rfl)
        · have hf := x_br_f hf hc3
          refine lv_iconst (v := (1 : Int32)) hx hb d_M_isPrime_21 (by decide) ?_
          refine lv_goto (tgt := 26) hx hb d_M_isPrime_22 (by decide) ?_
          refine lv_istore_n (lv' := [(1, .int (1 : Int32)), (0, .int a0), (2, .int a2)]) hx hb d_M_isPrime_26 rfl hl (by decide) rfl (fun ls hl => ?_)
          refine lv_iinc (v := (a2 + (1 : Int32))) (lv' := [(2, .int (a2 + (1 : Int32))), (1, .int (1 : Int32)), (0, .int a0)]) hx hb d_M_isPrime_27 hl (k := 2) rfl rfl (by decide) rfl (fun ls hl => ?_)
          refine lv_goto (tgt := 4) hx hb d_M_isPrime_30 (by decide) ?_
          exact ih a0 (1 : Int32) (a2 + (1 : Int32)) z0 hf _ _ _ hP hD hS (lv_sub hl [2, 1, 0] rfl)
set_option maxHeartbeats 4000000 in
set_option maxRecDepth 100000 in
theorem c_M_isPrime (l : Launch) (G : x_G) (p1 : Int32) (z0 : x_St) (r : Int32) (zo : x_St) (hf : f_M_isPrime (x_n G) p1 z0 = some (r, zo)) : Met l (⟨"ContentLibraryModel", "isPrime", "(I)Z"⟩ : MethodName) (x_ws (⟨"ContentLibraryModel", "isPrime", "(I)Z"⟩ : MethodName) prog_7_method_3_code 3 (some .boolean)) rm_M_isPrime (va_Pc [.int p1] (m_PW G z0)) (va_Qi (fun a u => r = a ∧ zo = u) (m_PW G) (x_A G)) 0 0 (x_A G) := by
  refine Met.ofW (cc := prog_7_method_3_code) (maxL := 3) (ret := (some .boolean)) (by decide) rfl ?_
  intro p e s m args below meth c s₁ B hml hv
  obtain ⟨rfl, hz, hP, hD, hK, hG⟩ := hv
  have C0 : m_Ctx G p s m _ meth c prog_7_method_3_code "ContentLibraryModel" 3 (some .boolean) := ⟨B.exec, B.bytes, B.returns, hml, findClass_of_methodNamed B.named, fun w h => atoms_spec (ws := (x_ws (⟨"ContentLibraryModel", "isPrime", "(I)Z"⟩ : MethodName) prog_7_method_3_code 3 (some .boolean))) B.pre w (List.mem_cons_of_mem _ h), B.notSynchronized, hz, hK, hG⟩
  obtain ⟨hx, hb, hr, hml, hown, hts, hlocks, hz, hK, hG⟩ := id C0
  have hS : va_S (x_A G) s.heap s.heap [] := va_S.rf
  have hl := lv_entry ([.int p1]) (n := 3) (Nat.le_of_ble_eq_true rfl)
  rw [lg_entry_eq]
  generalize (lg_sl ([.int p1]) ++ List.replicate (3 - (lg_sl ([.int p1])).length) Slot.unset).toArray = ls at hl ⊢
  have hl : lv_has ls 3 [(0, .int p1)] := hl
  rw [f_M_isPrime] at hf
  refine lv_iconst (v := (1 : Int32)) hx hb d_M_isPrime_0 (by decide) ?_
  refine lv_istore_n (lv' := [(1, .int (1 : Int32)), (0, .int p1)]) hx hb d_M_isPrime_1 rfl hl (by decide) rfl (fun ls hl => ?_)
  refine lv_iconst (v := (2 : Int32)) hx hb d_M_isPrime_2 (by decide) ?_
  refine lv_istore_n (lv' := [(2, .int (2 : Int32)), (1, .int (1 : Int32)), (0, .int p1)]) hx hb d_M_isPrime_3 rfl hl (by decide) rfl (fun ls hl => ?_)
  exact w_M_isPrime_4 l G C0 r zo x_FU p1 (1 : Int32) (2 : Int32) z0 hf _ _ _ hP hD hS (lv_sub hl [2, 1, 0] rfl)
abbrev rm_M_isBelow : Room := { frames := 0, cells := 0, slots := 0, locals := 0 }
set_option maxHeartbeats 4000000 in
set_option maxRecDepth 100000 in
theorem w_M_isBelow_254 (l : Launch) (G : x_G) {p : Program} {e : Env} {s : State} {m : MethodId} {args : Array Value} {below : List Frame} {meth : Method} {c : Code} (C0 : m_Ctx G p s m args meth c prog_7_method_4_code "ContentLibraryModel" 26 (some .boolean)) (r : Int32) (zo : x_St) : ∀ (z0 : x_St), f_M_isBelow_254 (x_n G)  z0 = some (r, zo) → ∀ (H : Heap) (locs : List Loc) (ls : Array Slot), va_P (x_D G) vwCl (m_Wd G z0) H → va_D (x_A G) (m_Wd G z0) → va_S (x_A G) s.heap H locs → lv_has ls 26 [] → W p l e rm_M_isBelow s m args below meth c H locs 0 0 (MQ below (va_Qi (fun a u => r = a ∧ zo = u) (m_PW G) (x_A G)) args s 0 0 (x_A G)) (F0 m 254 ls []) := by
  obtain ⟨hx, hb, hr, hml, hown, hts, hlocks, hz, hK, hG⟩ := id C0
  intro  z0 hf H locs ls hP hD hS hl
  rw [f_M_isBelow_254] at hf
  refine lv_iconst (v := (1 : Int32)) hx hb d_M_isBelow_254 (by decide) ?_
  refine lv_goto (tgt := 259) hx hb d_M_isBelow_255 (by decide) ?_
  obtain ⟨rfl, rfl⟩ := x_ret hf
  exact W.zret (v := (1 : Int32)) hx hb hr rfl (fun t ht hW => ⟨⟨_, _, rfl, ⟨rfl, rfl⟩, m_pw hP hD hK hG hS hz ht hW⟩, hS.F ht⟩) hS.2.2 d_M_isBelow_259
set_option maxHeartbeats 4000000 in
set_option maxRecDepth 100000 in
theorem w_M_isBelow_101 (l : Launch) (G : x_G) {p : Program} {e : Env} {s : State} {m : MethodId} {args : Array Value} {below : List Frame} {meth : Method} {c : Code} (C0 : m_Ctx G p s m args meth c prog_7_method_4_code "ContentLibraryModel" 26 (some .boolean)) (r : Int32) (zo : x_St) : ∀ (z0 : x_St), f_M_isBelow_101 (x_n G)  z0 = some (r, zo) → ∀ (H : Heap) (locs : List Loc) (ls : Array Slot), va_P (x_D G) vwCl (m_Wd G z0) H → va_D (x_A G) (m_Wd G z0) → va_S (x_A G) s.heap H locs → lv_has ls 26 [] → W p l e rm_M_isBelow s m args below meth c H locs 0 0 (MQ below (va_Qi (fun a u => r = a ∧ zo = u) (m_PW G) (x_A G)) args s 0 0 (x_A G)) (F0 m 101 ls []) := by
  obtain ⟨hx, hb, hr, hml, hown, hts, hlocks, hz, hK, hG⟩ := id C0
  intro  z0 hf H locs ls hP hD hS hl
  rw [f_M_isBelow_101] at hf
  refine lv_iconst (v := (1 : Int32)) hx hb d_M_isBelow_101 (by decide) ?_
  refine lv_goto (tgt := 106) hx hb d_M_isBelow_102 (by decide) ?_
  obtain ⟨rfl, rfl⟩ := x_ret hf
  exact W.zret (v := (1 : Int32)) hx hb hr rfl (fun t ht hW => ⟨⟨_, _, rfl, ⟨rfl, rfl⟩, m_pw hP hD hK hG hS hz ht hW⟩, hS.F ht⟩) hS.2.2 d_M_isBelow_106
set_option maxHeartbeats 4000000 in
set_option maxRecDepth 100000 in
theorem c_M_isBelow (l : Launch) (G : x_G) (p1 : Int64) (p2 : Int32) (p3 : Int32) (z0 : x_St) (r : Int32) (zo : x_St) (hf : f_M_isBelow (x_n G) p1 p2 p3 z0 = some (r, zo)) : Met l (⟨"ContentLibraryModel", "isBelow", "(JII)Z"⟩ : MethodName) (x_ws (⟨"ContentLibraryModel", "isBelow", "(JII)Z"⟩ : MethodName) prog_7_method_4_code 26 (some .boolean)) rm_M_isBelow (va_Pc [.long p1, .int p2, .int p3] (m_PW G z0)) (va_Qi (fun a u => r = a ∧ zo = u) (m_PW G) (x_A G)) 0 0 (x_A G) := by
  refine Met.ofW (cc := prog_7_method_4_code) (maxL := 26) (ret := (some .boolean)) (by decide) rfl ?_
  intro p e s m args below meth c s₁ B hml hv
  obtain ⟨rfl, hz, hP, hD, hK, hG⟩ := hv
  have C0 : m_Ctx G p s m _ meth c prog_7_method_4_code "ContentLibraryModel" 26 (some .boolean) := ⟨B.exec, B.bytes, B.returns, hml, findClass_of_methodNamed B.named, fun w h => atoms_spec (ws := (x_ws (⟨"ContentLibraryModel", "isBelow", "(JII)Z"⟩ : MethodName) prog_7_method_4_code 26 (some .boolean))) B.pre w (List.mem_cons_of_mem _ h), B.notSynchronized, hz, hK, hG⟩
  obtain ⟨hx, hb, hr, hml, hown, hts, hlocks, hz, hK, hG⟩ := id C0
  have hS : va_S (x_A G) s.heap s.heap [] := va_S.rf
  have hl := lv_entry ([.long p1, .int p2, .int p3]) (n := 26) (Nat.le_of_ble_eq_true rfl)
  rw [lg_entry_eq]
  generalize (lg_sl ([.long p1, .int p2, .int p3]) ++ List.replicate (26 - (lg_sl ([.long p1, .int p2, .int p3])).length) Slot.unset).toArray = ls at hl ⊢
  have hl : lv_has ls 26 [(0, .long p1), (2, .int p2), (3, .int p3)] := hl
  rw [f_M_isBelow] at hf
  refine lv_lload_n hx hb d_M_isBelow_0 rfl (lv_at hl 0 rfl) ?_
  refine lv_ldc2 (v := (4294967295 : Int64)) hx hb hown (hts _ t_670) d_M_isBelow_1 ?_
  refine lv_land hx hb d_M_isBelow_4 ?_
  refine lv_lstore (lv' := [(4, .long (p1 &&& (4294967295 : Int64))), (0, .long p1), (2, .int p2), (3, .int p3)]) hx hb d_M_isBelow_5 hl (by decide) rfl (fun ls hl => ?_)
  refine lv_lload_n hx hb d_M_isBelow_7 rfl (lv_at hl 1 rfl) ?_
  refine lv_bipush (v := (32 : Int32)) hx hb d_M_isBelow_8 (by decide) ?_
  refine lv_lushr (v := (x_lushr p1 (32 : Int32))) hx hb d_M_isBelow_10 rfl ?_
  refine lv_lstore (lv' := [(6, .long (x_lushr p1 (32 : Int32))), (4, .long (p1 &&& (4294967295 : Int64))), (0, .long p1), (2, .int p2), (3, .int p3)]) hx hb d_M_isBelow_11 hl (by decide) rfl (fun ls hl => ?_)
  refine lv_lload hx hb d_M_isBelow_13 (lv_at hl 1 rfl) ?_
  refine lv_lload hx hb d_M_isBelow_15 (lv_at hl 1 rfl) ?_
  refine lv_lmul hx hb d_M_isBelow_17 ?_
  refine lv_lstore (lv' := [(8, .long ((p1 &&& (4294967295 : Int64)) * (p1 &&& (4294967295 : Int64)))), (6, .long (x_lushr p1 (32 : Int32))), (4, .long (p1 &&& (4294967295 : Int64))), (0, .long p1), (2, .int p2), (3, .int p3)]) hx hb d_M_isBelow_18 hl (by decide) rfl (fun ls hl => ?_)
  refine lv_ldc2 (v := (2 : Int64)) hx hb hown (hts _ t_671) d_M_isBelow_20 ?_
  refine lv_lload hx hb d_M_isBelow_23 (lv_at hl 2 rfl) ?_
  refine lv_lmul hx hb d_M_isBelow_25 ?_
  refine lv_lload hx hb d_M_isBelow_26 (lv_at hl 1 rfl) ?_
  refine lv_lmul hx hb d_M_isBelow_28 ?_
  refine lv_lload hx hb d_M_isBelow_29 (lv_at hl 0 rfl) ?_
  refine lv_bipush (v := (32 : Int32)) hx hb d_M_isBelow_31 (by decide) ?_
  refine lv_lushr (v := (x_lushr ((p1 &&& (4294967295 : Int64)) * (p1 &&& (4294967295 : Int64))) (32 : Int32))) hx hb d_M_isBelow_33 rfl ?_
  refine lv_ladd hx hb d_M_isBelow_34 ?_
  refine lv_lstore (lv' := [(10, .long ((((2 : Int64) * (p1 &&& (4294967295 : Int64))) * (x_lushr p1 (32 : Int32))) + (x_lushr ((p1 &&& (4294967295 : Int64)) * (p1 &&& (4294967295 : Int64))) (32 : Int32)))), (8, .long ((p1 &&& (4294967295 : Int64)) * (p1 &&& (4294967295 : Int64)))), (6, .long (x_lushr p1 (32 : Int32))), (4, .long (p1 &&& (4294967295 : Int64))), (0, .long p1), (2, .int p2), (3, .int p3)]) hx hb d_M_isBelow_35 hl (by decide) rfl (fun ls hl => ?_)
  refine lv_lload hx hb d_M_isBelow_37 (lv_at hl 2 rfl) ?_
  refine lv_lload hx hb d_M_isBelow_39 (lv_at hl 2 rfl) ?_
  refine lv_lmul hx hb d_M_isBelow_41 ?_
  refine lv_lload hx hb d_M_isBelow_42 (lv_at hl 0 rfl) ?_
  refine lv_bipush (v := (32 : Int32)) hx hb d_M_isBelow_44 (by decide) ?_
  refine lv_lushr (v := (x_lushr ((((2 : Int64) * (p1 &&& (4294967295 : Int64))) * (x_lushr p1 (32 : Int32))) + (x_lushr ((p1 &&& (4294967295 : Int64)) * (p1 &&& (4294967295 : Int64))) (32 : Int32))) (32 : Int32))) hx hb d_M_isBelow_46 rfl ?_
  refine lv_ladd hx hb d_M_isBelow_47 ?_
  refine lv_lstore (lv' := [(12, .long (((x_lushr p1 (32 : Int32)) * (x_lushr p1 (32 : Int32))) + (x_lushr ((((2 : Int64) * (p1 &&& (4294967295 : Int64))) * (x_lushr p1 (32 : Int32))) + (x_lushr ((p1 &&& (4294967295 : Int64)) * (p1 &&& (4294967295 : Int64))) (32 : Int32))) (32 : Int32)))), (10, .long ((((2 : Int64) * (p1 &&& (4294967295 : Int64))) * (x_lushr p1 (32 : Int32))) + (x_lushr ((p1 &&& (4294967295 : Int64)) * (p1 &&& (4294967295 : Int64))) (32 : Int32)))), (8, .long ((p1 &&& (4294967295 : Int64)) * (p1 &&& (4294967295 : Int64)))), (6, .long (x_lushr p1 (32 : Int32))), (4, .long (p1 &&& (4294967295 : Int64))), (0, .long p1), (2, .int p2), (3, .int p3)]) hx hb d_M_isBelow_48 hl (by decide) rfl (fun ls hl => ?_)
  refine lv_lload hx hb d_M_isBelow_50 (lv_at hl 2 rfl) ?_
  refine lv_ldc2 (v := (4294967295 : Int64)) hx hb hown (hts _ t_670) d_M_isBelow_52 ?_
  refine lv_land hx hb d_M_isBelow_55 ?_
  refine lv_lstore (lv' := [(8, .long (((p1 &&& (4294967295 : Int64)) * (p1 &&& (4294967295 : Int64))) &&& (4294967295 : Int64))), (12, .long (((x_lushr p1 (32 : Int32)) * (x_lushr p1 (32 : Int32))) + (x_lushr ((((2 : Int64) * (p1 &&& (4294967295 : Int64))) * (x_lushr p1 (32 : Int32))) + (x_lushr ((p1 &&& (4294967295 : Int64)) * (p1 &&& (4294967295 : Int64))) (32 : Int32))) (32 : Int32)))), (10, .long ((((2 : Int64) * (p1 &&& (4294967295 : Int64))) * (x_lushr p1 (32 : Int32))) + (x_lushr ((p1 &&& (4294967295 : Int64)) * (p1 &&& (4294967295 : Int64))) (32 : Int32)))), (6, .long (x_lushr p1 (32 : Int32))), (4, .long (p1 &&& (4294967295 : Int64))), (0, .long p1), (2, .int p2), (3, .int p3)]) hx hb d_M_isBelow_56 hl (by decide) rfl (fun ls hl => ?_)
  refine lv_lload hx hb d_M_isBelow_58 (lv_at hl 2 rfl) ?_
  refine lv_ldc2 (v := (4294967295 : Int64)) hx hb hown (hts _ t_670) d_M_isBelow_60 ?_
  refine lv_land hx hb d_M_isBelow_63 ?_
  refine lv_lstore (lv' := [(10, .long (((((2 : Int64) * (p1 &&& (4294967295 : Int64))) * (x_lushr p1 (32 : Int32))) + (x_lushr ((p1 &&& (4294967295 : Int64)) * (p1 &&& (4294967295 : Int64))) (32 : Int32))) &&& (4294967295 : Int64))), (8, .long (((p1 &&& (4294967295 : Int64)) * (p1 &&& (4294967295 : Int64))) &&& (4294967295 : Int64))), (12, .long (((x_lushr p1 (32 : Int32)) * (x_lushr p1 (32 : Int32))) + (x_lushr ((((2 : Int64) * (p1 &&& (4294967295 : Int64))) * (x_lushr p1 (32 : Int32))) + (x_lushr ((p1 &&& (4294967295 : Int64)) * (p1 &&& (4294967295 : Int64))) (32 : Int32))) (32 : Int32)))), (6, .long (x_lushr p1 (32 : Int32))), (4, .long (p1 &&& (4294967295 : Int64))), (0, .long p1), (2, .int p2), (3, .int p3)]) hx hb d_M_isBelow_64 hl (by decide) rfl (fun ls hl => ?_)
  refine lv_iload_n hx hb d_M_isBelow_66 rfl (lv_at hl 6 rfl) ?_
  refine lv_iconst (v := (2 : Int32)) hx hb d_M_isBelow_67 (by decide) ?_
  refine lv_icmp_ne (tgt := 107) hx hb d_M_isBelow_68 (by decide) (fun hc1 => ?_) (fun hc1 => ?_)
  · have hf := x_br_f hf hc1
    refine lv_lload hx hb d_M_isBelow_107 (lv_at hl 1 rfl) ?_
    refine lv_lload hx hb d_M_isBelow_109 (lv_at hl 4 rfl) ?_
    refine lv_lmul hx hb d_M_isBelow_111 ?_
    refine lv_lstore (lv' := [(14, .long ((((p1 &&& (4294967295 : Int64)) * (p1 &&& (4294967295 : Int64))) &&& (4294967295 : Int64)) * (p1 &&& (4294967295 : Int64)))), (10, .long (((((2 : Int64) * (p1 &&& (4294967295 : Int64))) * (x_lushr p1 (32 : Int32))) + (x_lushr ((p1 &&& (4294967295 : Int64)) * (p1 &&& (4294967295 : Int64))) (32 : Int32))) &&& (4294967295 : Int64))), (8, .long (((p1 &&& (4294967295 : Int64)) * (p1 &&& (4294967295 : Int64))) &&& (4294967295 : Int64))), (12, .long (((x_lushr p1 (32 : Int32)) * (x_lushr p1 (32 : Int32))) + (x_lushr ((((2 : Int64) * (p1 &&& (4294967295 : Int64))) * (x_lushr p1 (32 : Int32))) + (x_lushr ((p1 &&& (4294967295 : Int64)) * (p1 &&& (4294967295 : Int64))) (32 : Int32))) (32 : Int32)))), (6, .long (x_lushr p1 (32 : Int32))), (4, .long (p1 &&& (4294967295 : Int64))), (0, .long p1), (2, .int p2), (3, .int p3)]) hx hb d_M_isBelow_112 hl (by decide) rfl (fun ls hl => ?_)
    refine lv_lload hx hb d_M_isBelow_114 (lv_at hl 2 rfl) ?_
    refine lv_lload hx hb d_M_isBelow_116 (lv_at hl 4 rfl) ?_
    refine lv_lmul hx hb d_M_isBelow_118 ?_
    refine lv_lload hx hb d_M_isBelow_119 (lv_at hl 0 rfl) ?_
    refine lv_bipush (v := (32 : Int32)) hx hb d_M_isBelow_121 (by decide) ?_
    refine lv_lushr (v := (x_lushr ((((p1 &&& (4294967295 : Int64)) * (p1 &&& (4294967295 : Int64))) &&& (4294967295 : Int64)) * (p1 &&& (4294967295 : Int64))) (32 : Int32))) hx hb d_M_isBelow_123 rfl ?_
    refine lv_ladd hx hb d_M_isBelow_124 ?_
    refine lv_lstore (lv' := [(16, .long (((((p1 &&& (4294967295 : Int64)) * (p1 &&& (4294967295 : Int64))) &&& (4294967295 : Int64)) * (x_lushr p1 (32 : Int32))) + (x_lushr ((((p1 &&& (4294967295 : Int64)) * (p1 &&& (4294967295 : Int64))) &&& (4294967295 : Int64)) * (p1 &&& (4294967295 : Int64))) (32 : Int32)))), (14, .long ((((p1 &&& (4294967295 : Int64)) * (p1 &&& (4294967295 : Int64))) &&& (4294967295 : Int64)) * (p1 &&& (4294967295 : Int64)))), (10, .long (((((2 : Int64) * (p1 &&& (4294967295 : Int64))) * (x_lushr p1 (32 : Int32))) + (x_lushr ((p1 &&& (4294967295 : Int64)) * (p1 &&& (4294967295 : Int64))) (32 : Int32))) &&& (4294967295 : Int64))), (8, .long (((p1 &&& (4294967295 : Int64)) * (p1 &&& (4294967295 : Int64))) &&& (4294967295 : Int64))), (12, .long (((x_lushr p1 (32 : Int32)) * (x_lushr p1 (32 : Int32))) + (x_lushr ((((2 : Int64) * (p1 &&& (4294967295 : Int64))) * (x_lushr p1 (32 : Int32))) + (x_lushr ((p1 &&& (4294967295 : Int64)) * (p1 &&& (4294967295 : Int64))) (32 : Int32))) (32 : Int32)))), (6, .long (x_lushr p1 (32 : Int32))), (4, .long (p1 &&& (4294967295 : Int64))), (0, .long p1), (2, .int p2), (3, .int p3)]) hx hb d_M_isBelow_125 hl (by decide) rfl (fun ls hl => ?_)
    refine lv_lload hx hb d_M_isBelow_127 (lv_at hl 2 rfl) ?_
    refine lv_lload hx hb d_M_isBelow_129 (lv_at hl 6 rfl) ?_
    refine lv_lmul hx hb d_M_isBelow_131 ?_
    refine lv_lstore (lv' := [(18, .long ((((((2 : Int64) * (p1 &&& (4294967295 : Int64))) * (x_lushr p1 (32 : Int32))) + (x_lushr ((p1 &&& (4294967295 : Int64)) * (p1 &&& (4294967295 : Int64))) (32 : Int32))) &&& (4294967295 : Int64)) * (p1 &&& (4294967295 : Int64)))), (16, .long (((((p1 &&& (4294967295 : Int64)) * (p1 &&& (4294967295 : Int64))) &&& (4294967295 : Int64)) * (x_lushr p1 (32 : Int32))) + (x_lushr ((((p1 &&& (4294967295 : Int64)) * (p1 &&& (4294967295 : Int64))) &&& (4294967295 : Int64)) * (p1 &&& (4294967295 : Int64))) (32 : Int32)))), (14, .long ((((p1 &&& (4294967295 : Int64)) * (p1 &&& (4294967295 : Int64))) &&& (4294967295 : Int64)) * (p1 &&& (4294967295 : Int64)))), (10, .long (((((2 : Int64) * (p1 &&& (4294967295 : Int64))) * (x_lushr p1 (32 : Int32))) + (x_lushr ((p1 &&& (4294967295 : Int64)) * (p1 &&& (4294967295 : Int64))) (32 : Int32))) &&& (4294967295 : Int64))), (8, .long (((p1 &&& (4294967295 : Int64)) * (p1 &&& (4294967295 : Int64))) &&& (4294967295 : Int64))), (12, .long (((x_lushr p1 (32 : Int32)) * (x_lushr p1 (32 : Int32))) + (x_lushr ((((2 : Int64) * (p1 &&& (4294967295 : Int64))) * (x_lushr p1 (32 : Int32))) + (x_lushr ((p1 &&& (4294967295 : Int64)) * (p1 &&& (4294967295 : Int64))) (32 : Int32))) (32 : Int32)))), (6, .long (x_lushr p1 (32 : Int32))), (4, .long (p1 &&& (4294967295 : Int64))), (0, .long p1), (2, .int p2), (3, .int p3)]) hx hb d_M_isBelow_132 hl (by decide) rfl (fun ls hl => ?_)
    refine lv_lload hx hb d_M_isBelow_134 (lv_at hl 1 rfl) ?_
    refine lv_ldc2 (v := (4294967295 : Int64)) hx hb hown (hts _ t_670) d_M_isBelow_136 ?_
    refine lv_land hx hb d_M_isBelow_139 ?_
    refine lv_lload hx hb d_M_isBelow_140 (lv_at hl 0 rfl) ?_
    refine lv_ldc2 (v := (4294967295 : Int64)) hx hb hown (hts _ t_670) d_M_isBelow_142 ?_
    refine lv_land hx hb d_M_isBelow_145 ?_
    refine lv_ladd hx hb d_M_isBelow_146 ?_
    refine lv_lstore (lv' := [(20, .long (((((((p1 &&& (4294967295 : Int64)) * (p1 &&& (4294967295 : Int64))) &&& (4294967295 : Int64)) * (x_lushr p1 (32 : Int32))) + (x_lushr ((((p1 &&& (4294967295 : Int64)) * (p1 &&& (4294967295 : Int64))) &&& (4294967295 : Int64)) * (p1 &&& (4294967295 : Int64))) (32 : Int32))) &&& (4294967295 : Int64)) + (((((((2 : Int64) * (p1 &&& (4294967295 : Int64))) * (x_lushr p1 (32 : Int32))) + (x_lushr ((p1 &&& (4294967295 : Int64)) * (p1 &&& (4294967295 : Int64))) (32 : Int32))) &&& (4294967295 : Int64)) * (p1 &&& (4294967295 : Int64))) &&& (4294967295 : Int64)))), (18, .long ((((((2 : Int64) * (p1 &&& (4294967295 : Int64))) * (x_lushr p1 (32 : Int32))) + (x_lushr ((p1 &&& (4294967295 : Int64)) * (p1 &&& (4294967295 : Int64))) (32 : Int32))) &&& (4294967295 : Int64)) * (p1 &&& (4294967295 : Int64)))), (16, .long (((((p1 &&& (4294967295 : Int64)) * (p1 &&& (4294967295 : Int64))) &&& (4294967295 : Int64)) * (x_lushr p1 (32 : Int32))) + (x_lushr ((((p1 &&& (4294967295 : Int64)) * (p1 &&& (4294967295 : Int64))) &&& (4294967295 : Int64)) * (p1 &&& (4294967295 : Int64))) (32 : Int32)))), (14, .long ((((p1 &&& (4294967295 : Int64)) * (p1 &&& (4294967295 : Int64))) &&& (4294967295 : Int64)) * (p1 &&& (4294967295 : Int64)))), (10, .long (((((2 : Int64) * (p1 &&& (4294967295 : Int64))) * (x_lushr p1 (32 : Int32))) + (x_lushr ((p1 &&& (4294967295 : Int64)) * (p1 &&& (4294967295 : Int64))) (32 : Int32))) &&& (4294967295 : Int64))), (8, .long (((p1 &&& (4294967295 : Int64)) * (p1 &&& (4294967295 : Int64))) &&& (4294967295 : Int64))), (12, .long (((x_lushr p1 (32 : Int32)) * (x_lushr p1 (32 : Int32))) + (x_lushr ((((2 : Int64) * (p1 &&& (4294967295 : Int64))) * (x_lushr p1 (32 : Int32))) + (x_lushr ((p1 &&& (4294967295 : Int64)) * (p1 &&& (4294967295 : Int64))) (32 : Int32))) (32 : Int32)))), (6, .long (x_lushr p1 (32 : Int32))), (4, .long (p1 &&& (4294967295 : Int64))), (0, .long p1), (2, .int p2), (3, .int p3)]) hx hb d_M_isBelow_147 hl (by decide) rfl (fun ls hl => ?_)
    refine lv_lload hx hb d_M_isBelow_149 (lv_at hl 4 rfl) ?_
    refine lv_lload hx hb d_M_isBelow_151 (lv_at hl 7 rfl) ?_
    refine lv_lmul hx hb d_M_isBelow_153 ?_
    refine lv_lload hx hb d_M_isBelow_154 (lv_at hl 6 rfl) ?_
    refine lv_lload hx hb d_M_isBelow_156 (lv_at hl 8 rfl) ?_
    refine lv_lmul hx hb d_M_isBelow_158 ?_
    refine lv_ladd hx hb d_M_isBelow_159 ?_
    refine lv_lload hx hb d_M_isBelow_160 (lv_at hl 2 rfl) ?_
    refine lv_bipush (v := (32 : Int32)) hx hb d_M_isBelow_162 (by decide) ?_
    refine lv_lushr (v := (x_lushr (((((p1 &&& (4294967295 : Int64)) * (p1 &&& (4294967295 : Int64))) &&& (4294967295 : Int64)) * (x_lushr p1 (32 : Int32))) + (x_lushr ((((p1 &&& (4294967295 : Int64)) * (p1 &&& (4294967295 : Int64))) &&& (4294967295 : Int64)) * (p1 &&& (4294967295 : Int64))) (32 : Int32))) (32 : Int32))) hx hb d_M_isBelow_164 rfl ?_
    refine lv_ladd hx hb d_M_isBelow_165 ?_
    refine lv_lload hx hb d_M_isBelow_166 (lv_at hl 1 rfl) ?_
    refine lv_bipush (v := (32 : Int32)) hx hb d_M_isBelow_168 (by decide) ?_
    refine lv_lushr (v := (x_lushr ((((((2 : Int64) * (p1 &&& (4294967295 : Int64))) * (x_lushr p1 (32 : Int32))) + (x_lushr ((p1 &&& (4294967295 : Int64)) * (p1 &&& (4294967295 : Int64))) (32 : Int32))) &&& (4294967295 : Int64)) * (p1 &&& (4294967295 : Int64))) (32 : Int32))) hx hb d_M_isBelow_170 rfl ?_
    refine lv_ladd hx hb d_M_isBelow_171 ?_
    refine lv_lload hx hb d_M_isBelow_172 (lv_at hl 0 rfl) ?_
    refine lv_bipush (v := (32 : Int32)) hx hb d_M_isBelow_174 (by decide) ?_
    refine lv_lushr (v := (x_lushr (((((((p1 &&& (4294967295 : Int64)) * (p1 &&& (4294967295 : Int64))) &&& (4294967295 : Int64)) * (x_lushr p1 (32 : Int32))) + (x_lushr ((((p1 &&& (4294967295 : Int64)) * (p1 &&& (4294967295 : Int64))) &&& (4294967295 : Int64)) * (p1 &&& (4294967295 : Int64))) (32 : Int32))) &&& (4294967295 : Int64)) + (((((((2 : Int64) * (p1 &&& (4294967295 : Int64))) * (x_lushr p1 (32 : Int32))) + (x_lushr ((p1 &&& (4294967295 : Int64)) * (p1 &&& (4294967295 : Int64))) (32 : Int32))) &&& (4294967295 : Int64)) * (p1 &&& (4294967295 : Int64))) &&& (4294967295 : Int64))) (32 : Int32))) hx hb d_M_isBelow_176 rfl ?_
    refine lv_ladd hx hb d_M_isBelow_177 ?_
    refine lv_lstore (lv' := [(22, .long ((((((((((2 : Int64) * (p1 &&& (4294967295 : Int64))) * (x_lushr p1 (32 : Int32))) + (x_lushr ((p1 &&& (4294967295 : Int64)) * (p1 &&& (4294967295 : Int64))) (32 : Int32))) &&& (4294967295 : Int64)) * (x_lushr p1 (32 : Int32))) + ((((x_lushr p1 (32 : Int32)) * (x_lushr p1 (32 : Int32))) + (x_lushr ((((2 : Int64) * (p1 &&& (4294967295 : Int64))) * (x_lushr p1 (32 : Int32))) + (x_lushr ((p1 &&& (4294967295 : Int64)) * (p1 &&& (4294967295 : Int64))) (32 : Int32))) (32 : Int32))) * (p1 &&& (4294967295 : Int64)))) + (x_lushr (((((p1 &&& (4294967295 : Int64)) * (p1 &&& (4294967295 : Int64))) &&& (4294967295 : Int64)) * (x_lushr p1 (32 : Int32))) + (x_lushr ((((p1 &&& (4294967295 : Int64)) * (p1 &&& (4294967295 : Int64))) &&& (4294967295 : Int64)) * (p1 &&& (4294967295 : Int64))) (32 : Int32))) (32 : Int32))) + (x_lushr ((((((2 : Int64) * (p1 &&& (4294967295 : Int64))) * (x_lushr p1 (32 : Int32))) + (x_lushr ((p1 &&& (4294967295 : Int64)) * (p1 &&& (4294967295 : Int64))) (32 : Int32))) &&& (4294967295 : Int64)) * (p1 &&& (4294967295 : Int64))) (32 : Int32))) + (x_lushr (((((((p1 &&& (4294967295 : Int64)) * (p1 &&& (4294967295 : Int64))) &&& (4294967295 : Int64)) * (x_lushr p1 (32 : Int32))) + (x_lushr ((((p1 &&& (4294967295 : Int64)) * (p1 &&& (4294967295 : Int64))) &&& (4294967295 : Int64)) * (p1 &&& (4294967295 : Int64))) (32 : Int32))) &&& (4294967295 : Int64)) + (((((((2 : Int64) * (p1 &&& (4294967295 : Int64))) * (x_lushr p1 (32 : Int32))) + (x_lushr ((p1 &&& (4294967295 : Int64)) * (p1 &&& (4294967295 : Int64))) (32 : Int32))) &&& (4294967295 : Int64)) * (p1 &&& (4294967295 : Int64))) &&& (4294967295 : Int64))) (32 : Int32)))), (20, .long (((((((p1 &&& (4294967295 : Int64)) * (p1 &&& (4294967295 : Int64))) &&& (4294967295 : Int64)) * (x_lushr p1 (32 : Int32))) + (x_lushr ((((p1 &&& (4294967295 : Int64)) * (p1 &&& (4294967295 : Int64))) &&& (4294967295 : Int64)) * (p1 &&& (4294967295 : Int64))) (32 : Int32))) &&& (4294967295 : Int64)) + (((((((2 : Int64) * (p1 &&& (4294967295 : Int64))) * (x_lushr p1 (32 : Int32))) + (x_lushr ((p1 &&& (4294967295 : Int64)) * (p1 &&& (4294967295 : Int64))) (32 : Int32))) &&& (4294967295 : Int64)) * (p1 &&& (4294967295 : Int64))) &&& (4294967295 : Int64)))), (18, .long ((((((2 : Int64) * (p1 &&& (4294967295 : Int64))) * (x_lushr p1 (32 : Int32))) + (x_lushr ((p1 &&& (4294967295 : Int64)) * (p1 &&& (4294967295 : Int64))) (32 : Int32))) &&& (4294967295 : Int64)) * (p1 &&& (4294967295 : Int64)))), (16, .long (((((p1 &&& (4294967295 : Int64)) * (p1 &&& (4294967295 : Int64))) &&& (4294967295 : Int64)) * (x_lushr p1 (32 : Int32))) + (x_lushr ((((p1 &&& (4294967295 : Int64)) * (p1 &&& (4294967295 : Int64))) &&& (4294967295 : Int64)) * (p1 &&& (4294967295 : Int64))) (32 : Int32)))), (14, .long ((((p1 &&& (4294967295 : Int64)) * (p1 &&& (4294967295 : Int64))) &&& (4294967295 : Int64)) * (p1 &&& (4294967295 : Int64)))), (10, .long (((((2 : Int64) * (p1 &&& (4294967295 : Int64))) * (x_lushr p1 (32 : Int32))) + (x_lushr ((p1 &&& (4294967295 : Int64)) * (p1 &&& (4294967295 : Int64))) (32 : Int32))) &&& (4294967295 : Int64))), (8, .long (((p1 &&& (4294967295 : Int64)) * (p1 &&& (4294967295 : Int64))) &&& (4294967295 : Int64))), (12, .long (((x_lushr p1 (32 : Int32)) * (x_lushr p1 (32 : Int32))) + (x_lushr ((((2 : Int64) * (p1 &&& (4294967295 : Int64))) * (x_lushr p1 (32 : Int32))) + (x_lushr ((p1 &&& (4294967295 : Int64)) * (p1 &&& (4294967295 : Int64))) (32 : Int32))) (32 : Int32)))), (6, .long (x_lushr p1 (32 : Int32))), (4, .long (p1 &&& (4294967295 : Int64))), (0, .long p1), (2, .int p2), (3, .int p3)]) hx hb d_M_isBelow_178 hl (by decide) rfl (fun ls hl => ?_)
    refine lv_lload hx hb d_M_isBelow_180 (lv_at hl 7 rfl) ?_
    refine lv_lload hx hb d_M_isBelow_182 (lv_at hl 8 rfl) ?_
    refine lv_lmul hx hb d_M_isBelow_184 ?_
    refine lv_lload hx hb d_M_isBelow_185 (lv_at hl 0 rfl) ?_
    refine lv_bipush (v := (32 : Int32)) hx hb d_M_isBelow_187 (by decide) ?_
    refine lv_lushr (v := (x_lushr ((((((((((2 : Int64) * (p1 &&& (4294967295 : Int64))) * (x_lushr p1 (32 : Int32))) + (x_lushr ((p1 &&& (4294967295 : Int64)) * (p1 &&& (4294967295 : Int64))) (32 : Int32))) &&& (4294967295 : Int64)) * (x_lushr p1 (32 : Int32))) + ((((x_lushr p1 (32 : Int32)) * (x_lushr p1 (32 : Int32))) + (x_lushr ((((2 : Int64) * (p1 &&& (4294967295 : Int64))) * (x_lushr p1 (32 : Int32))) + (x_lushr ((p1 &&& (4294967295 : Int64)) * (p1 &&& (4294967295 : Int64))) (32 : Int32))) (32 : Int32))) * (p1 &&& (4294967295 : Int64)))) + (x_lushr (((((p1 &&& (4294967295 : Int64)) * (p1 &&& (4294967295 : Int64))) &&& (4294967295 : Int64)) * (x_lushr p1 (32 : Int32))) + (x_lushr ((((p1 &&& (4294967295 : Int64)) * (p1 &&& (4294967295 : Int64))) &&& (4294967295 : Int64)) * (p1 &&& (4294967295 : Int64))) (32 : Int32))) (32 : Int32))) + (x_lushr ((((((2 : Int64) * (p1 &&& (4294967295 : Int64))) * (x_lushr p1 (32 : Int32))) + (x_lushr ((p1 &&& (4294967295 : Int64)) * (p1 &&& (4294967295 : Int64))) (32 : Int32))) &&& (4294967295 : Int64)) * (p1 &&& (4294967295 : Int64))) (32 : Int32))) + (x_lushr (((((((p1 &&& (4294967295 : Int64)) * (p1 &&& (4294967295 : Int64))) &&& (4294967295 : Int64)) * (x_lushr p1 (32 : Int32))) + (x_lushr ((((p1 &&& (4294967295 : Int64)) * (p1 &&& (4294967295 : Int64))) &&& (4294967295 : Int64)) * (p1 &&& (4294967295 : Int64))) (32 : Int32))) &&& (4294967295 : Int64)) + (((((((2 : Int64) * (p1 &&& (4294967295 : Int64))) * (x_lushr p1 (32 : Int32))) + (x_lushr ((p1 &&& (4294967295 : Int64)) * (p1 &&& (4294967295 : Int64))) (32 : Int32))) &&& (4294967295 : Int64)) * (p1 &&& (4294967295 : Int64))) &&& (4294967295 : Int64))) (32 : Int32))) (32 : Int32))) hx hb d_M_isBelow_189 rfl ?_
    refine lv_ladd hx hb d_M_isBelow_190 ?_
    refine lv_lstore (lv' := [(24, .long (((((x_lushr p1 (32 : Int32)) * (x_lushr p1 (32 : Int32))) + (x_lushr ((((2 : Int64) * (p1 &&& (4294967295 : Int64))) * (x_lushr p1 (32 : Int32))) + (x_lushr ((p1 &&& (4294967295 : Int64)) * (p1 &&& (4294967295 : Int64))) (32 : Int32))) (32 : Int32))) * (x_lushr p1 (32 : Int32))) + (x_lushr ((((((((((2 : Int64) * (p1 &&& (4294967295 : Int64))) * (x_lushr p1 (32 : Int32))) + (x_lushr ((p1 &&& (4294967295 : Int64)) * (p1 &&& (4294967295 : Int64))) (32 : Int32))) &&& (4294967295 : Int64)) * (x_lushr p1 (32 : Int32))) + ((((x_lushr p1 (32 : Int32)) * (x_lushr p1 (32 : Int32))) + (x_lushr ((((2 : Int64) * (p1 &&& (4294967295 : Int64))) * (x_lushr p1 (32 : Int32))) + (x_lushr ((p1 &&& (4294967295 : Int64)) * (p1 &&& (4294967295 : Int64))) (32 : Int32))) (32 : Int32))) * (p1 &&& (4294967295 : Int64)))) + (x_lushr (((((p1 &&& (4294967295 : Int64)) * (p1 &&& (4294967295 : Int64))) &&& (4294967295 : Int64)) * (x_lushr p1 (32 : Int32))) + (x_lushr ((((p1 &&& (4294967295 : Int64)) * (p1 &&& (4294967295 : Int64))) &&& (4294967295 : Int64)) * (p1 &&& (4294967295 : Int64))) (32 : Int32))) (32 : Int32))) + (x_lushr ((((((2 : Int64) * (p1 &&& (4294967295 : Int64))) * (x_lushr p1 (32 : Int32))) + (x_lushr ((p1 &&& (4294967295 : Int64)) * (p1 &&& (4294967295 : Int64))) (32 : Int32))) &&& (4294967295 : Int64)) * (p1 &&& (4294967295 : Int64))) (32 : Int32))) + (x_lushr (((((((p1 &&& (4294967295 : Int64)) * (p1 &&& (4294967295 : Int64))) &&& (4294967295 : Int64)) * (x_lushr p1 (32 : Int32))) + (x_lushr ((((p1 &&& (4294967295 : Int64)) * (p1 &&& (4294967295 : Int64))) &&& (4294967295 : Int64)) * (p1 &&& (4294967295 : Int64))) (32 : Int32))) &&& (4294967295 : Int64)) + (((((((2 : Int64) * (p1 &&& (4294967295 : Int64))) * (x_lushr p1 (32 : Int32))) + (x_lushr ((p1 &&& (4294967295 : Int64)) * (p1 &&& (4294967295 : Int64))) (32 : Int32))) &&& (4294967295 : Int64)) * (p1 &&& (4294967295 : Int64))) &&& (4294967295 : Int64))) (32 : Int32))) (32 : Int32)))), (22, .long ((((((((((2 : Int64) * (p1 &&& (4294967295 : Int64))) * (x_lushr p1 (32 : Int32))) + (x_lushr ((p1 &&& (4294967295 : Int64)) * (p1 &&& (4294967295 : Int64))) (32 : Int32))) &&& (4294967295 : Int64)) * (x_lushr p1 (32 : Int32))) + ((((x_lushr p1 (32 : Int32)) * (x_lushr p1 (32 : Int32))) + (x_lushr ((((2 : Int64) * (p1 &&& (4294967295 : Int64))) * (x_lushr p1 (32 : Int32))) + (x_lushr ((p1 &&& (4294967295 : Int64)) * (p1 &&& (4294967295 : Int64))) (32 : Int32))) (32 : Int32))) * (p1 &&& (4294967295 : Int64)))) + (x_lushr (((((p1 &&& (4294967295 : Int64)) * (p1 &&& (4294967295 : Int64))) &&& (4294967295 : Int64)) * (x_lushr p1 (32 : Int32))) + (x_lushr ((((p1 &&& (4294967295 : Int64)) * (p1 &&& (4294967295 : Int64))) &&& (4294967295 : Int64)) * (p1 &&& (4294967295 : Int64))) (32 : Int32))) (32 : Int32))) + (x_lushr ((((((2 : Int64) * (p1 &&& (4294967295 : Int64))) * (x_lushr p1 (32 : Int32))) + (x_lushr ((p1 &&& (4294967295 : Int64)) * (p1 &&& (4294967295 : Int64))) (32 : Int32))) &&& (4294967295 : Int64)) * (p1 &&& (4294967295 : Int64))) (32 : Int32))) + (x_lushr (((((((p1 &&& (4294967295 : Int64)) * (p1 &&& (4294967295 : Int64))) &&& (4294967295 : Int64)) * (x_lushr p1 (32 : Int32))) + (x_lushr ((((p1 &&& (4294967295 : Int64)) * (p1 &&& (4294967295 : Int64))) &&& (4294967295 : Int64)) * (p1 &&& (4294967295 : Int64))) (32 : Int32))) &&& (4294967295 : Int64)) + (((((((2 : Int64) * (p1 &&& (4294967295 : Int64))) * (x_lushr p1 (32 : Int32))) + (x_lushr ((p1 &&& (4294967295 : Int64)) * (p1 &&& (4294967295 : Int64))) (32 : Int32))) &&& (4294967295 : Int64)) * (p1 &&& (4294967295 : Int64))) &&& (4294967295 : Int64))) (32 : Int32)))), (20, .long (((((((p1 &&& (4294967295 : Int64)) * (p1 &&& (4294967295 : Int64))) &&& (4294967295 : Int64)) * (x_lushr p1 (32 : Int32))) + (x_lushr ((((p1 &&& (4294967295 : Int64)) * (p1 &&& (4294967295 : Int64))) &&& (4294967295 : Int64)) * (p1 &&& (4294967295 : Int64))) (32 : Int32))) &&& (4294967295 : Int64)) + (((((((2 : Int64) * (p1 &&& (4294967295 : Int64))) * (x_lushr p1 (32 : Int32))) + (x_lushr ((p1 &&& (4294967295 : Int64)) * (p1 &&& (4294967295 : Int64))) (32 : Int32))) &&& (4294967295 : Int64)) * (p1 &&& (4294967295 : Int64))) &&& (4294967295 : Int64)))), (18, .long ((((((2 : Int64) * (p1 &&& (4294967295 : Int64))) * (x_lushr p1 (32 : Int32))) + (x_lushr ((p1 &&& (4294967295 : Int64)) * (p1 &&& (4294967295 : Int64))) (32 : Int32))) &&& (4294967295 : Int64)) * (p1 &&& (4294967295 : Int64)))), (16, .long (((((p1 &&& (4294967295 : Int64)) * (p1 &&& (4294967295 : Int64))) &&& (4294967295 : Int64)) * (x_lushr p1 (32 : Int32))) + (x_lushr ((((p1 &&& (4294967295 : Int64)) * (p1 &&& (4294967295 : Int64))) &&& (4294967295 : Int64)) * (p1 &&& (4294967295 : Int64))) (32 : Int32)))), (14, .long ((((p1 &&& (4294967295 : Int64)) * (p1 &&& (4294967295 : Int64))) &&& (4294967295 : Int64)) * (p1 &&& (4294967295 : Int64)))), (10, .long (((((2 : Int64) * (p1 &&& (4294967295 : Int64))) * (x_lushr p1 (32 : Int32))) + (x_lushr ((p1 &&& (4294967295 : Int64)) * (p1 &&& (4294967295 : Int64))) (32 : Int32))) &&& (4294967295 : Int64))), (8, .long (((p1 &&& (4294967295 : Int64)) * (p1 &&& (4294967295 : Int64))) &&& (4294967295 : Int64))), (12, .long (((x_lushr p1 (32 : Int32)) * (x_lushr p1 (32 : Int32))) + (x_lushr ((((2 : Int64) * (p1 &&& (4294967295 : Int64))) * (x_lushr p1 (32 : Int32))) + (x_lushr ((p1 &&& (4294967295 : Int64)) * (p1 &&& (4294967295 : Int64))) (32 : Int32))) (32 : Int32)))), (6, .long (x_lushr p1 (32 : Int32))), (4, .long (p1 &&& (4294967295 : Int64))), (0, .long p1), (2, .int p2), (3, .int p3)]) hx hb d_M_isBelow_191 hl (by decide) rfl (fun ls hl => ?_)
    refine lv_lload hx hb d_M_isBelow_193 (lv_at hl 5 rfl) ?_
    refine lv_ldc2 (v := (4294967295 : Int64)) hx hb hown (hts _ t_670) d_M_isBelow_195 ?_
    refine lv_land hx hb d_M_isBelow_198 ?_
    refine lv_lstore (lv' := [(14, .long (((((p1 &&& (4294967295 : Int64)) * (p1 &&& (4294967295 : Int64))) &&& (4294967295 : Int64)) * (p1 &&& (4294967295 : Int64))) &&& (4294967295 : Int64))), (24, .long (((((x_lushr p1 (32 : Int32)) * (x_lushr p1 (32 : Int32))) + (x_lushr ((((2 : Int64) * (p1 &&& (4294967295 : Int64))) * (x_lushr p1 (32 : Int32))) + (x_lushr ((p1 &&& (4294967295 : Int64)) * (p1 &&& (4294967295 : Int64))) (32 : Int32))) (32 : Int32))) * (x_lushr p1 (32 : Int32))) + (x_lushr ((((((((((2 : Int64) * (p1 &&& (4294967295 : Int64))) * (x_lushr p1 (32 : Int32))) + (x_lushr ((p1 &&& (4294967295 : Int64)) * (p1 &&& (4294967295 : Int64))) (32 : Int32))) &&& (4294967295 : Int64)) * (x_lushr p1 (32 : Int32))) + ((((x_lushr p1 (32 : Int32)) * (x_lushr p1 (32 : Int32))) + (x_lushr ((((2 : Int64) * (p1 &&& (4294967295 : Int64))) * (x_lushr p1 (32 : Int32))) + (x_lushr ((p1 &&& (4294967295 : Int64)) * (p1 &&& (4294967295 : Int64))) (32 : Int32))) (32 : Int32))) * (p1 &&& (4294967295 : Int64)))) + (x_lushr (((((p1 &&& (4294967295 : Int64)) * (p1 &&& (4294967295 : Int64))) &&& (4294967295 : Int64)) * (x_lushr p1 (32 : Int32))) + (x_lushr ((((p1 &&& (4294967295 : Int64)) * (p1 &&& (4294967295 : Int64))) &&& (4294967295 : Int64)) * (p1 &&& (4294967295 : Int64))) (32 : Int32))) (32 : Int32))) + (x_lushr ((((((2 : Int64) * (p1 &&& (4294967295 : Int64))) * (x_lushr p1 (32 : Int32))) + (x_lushr ((p1 &&& (4294967295 : Int64)) * (p1 &&& (4294967295 : Int64))) (32 : Int32))) &&& (4294967295 : Int64)) * (p1 &&& (4294967295 : Int64))) (32 : Int32))) + (x_lushr (((((((p1 &&& (4294967295 : Int64)) * (p1 &&& (4294967295 : Int64))) &&& (4294967295 : Int64)) * (x_lushr p1 (32 : Int32))) + (x_lushr ((((p1 &&& (4294967295 : Int64)) * (p1 &&& (4294967295 : Int64))) &&& (4294967295 : Int64)) * (p1 &&& (4294967295 : Int64))) (32 : Int32))) &&& (4294967295 : Int64)) + (((((((2 : Int64) * (p1 &&& (4294967295 : Int64))) * (x_lushr p1 (32 : Int32))) + (x_lushr ((p1 &&& (4294967295 : Int64)) * (p1 &&& (4294967295 : Int64))) (32 : Int32))) &&& (4294967295 : Int64)) * (p1 &&& (4294967295 : Int64))) &&& (4294967295 : Int64))) (32 : Int32))) (32 : Int32)))), (22, .long ((((((((((2 : Int64) * (p1 &&& (4294967295 : Int64))) * (x_lushr p1 (32 : Int32))) + (x_lushr ((p1 &&& (4294967295 : Int64)) * (p1 &&& (4294967295 : Int64))) (32 : Int32))) &&& (4294967295 : Int64)) * (x_lushr p1 (32 : Int32))) + ((((x_lushr p1 (32 : Int32)) * (x_lushr p1 (32 : Int32))) + (x_lushr ((((2 : Int64) * (p1 &&& (4294967295 : Int64))) * (x_lushr p1 (32 : Int32))) + (x_lushr ((p1 &&& (4294967295 : Int64)) * (p1 &&& (4294967295 : Int64))) (32 : Int32))) (32 : Int32))) * (p1 &&& (4294967295 : Int64)))) + (x_lushr (((((p1 &&& (4294967295 : Int64)) * (p1 &&& (4294967295 : Int64))) &&& (4294967295 : Int64)) * (x_lushr p1 (32 : Int32))) + (x_lushr ((((p1 &&& (4294967295 : Int64)) * (p1 &&& (4294967295 : Int64))) &&& (4294967295 : Int64)) * (p1 &&& (4294967295 : Int64))) (32 : Int32))) (32 : Int32))) + (x_lushr ((((((2 : Int64) * (p1 &&& (4294967295 : Int64))) * (x_lushr p1 (32 : Int32))) + (x_lushr ((p1 &&& (4294967295 : Int64)) * (p1 &&& (4294967295 : Int64))) (32 : Int32))) &&& (4294967295 : Int64)) * (p1 &&& (4294967295 : Int64))) (32 : Int32))) + (x_lushr (((((((p1 &&& (4294967295 : Int64)) * (p1 &&& (4294967295 : Int64))) &&& (4294967295 : Int64)) * (x_lushr p1 (32 : Int32))) + (x_lushr ((((p1 &&& (4294967295 : Int64)) * (p1 &&& (4294967295 : Int64))) &&& (4294967295 : Int64)) * (p1 &&& (4294967295 : Int64))) (32 : Int32))) &&& (4294967295 : Int64)) + (((((((2 : Int64) * (p1 &&& (4294967295 : Int64))) * (x_lushr p1 (32 : Int32))) + (x_lushr ((p1 &&& (4294967295 : Int64)) * (p1 &&& (4294967295 : Int64))) (32 : Int32))) &&& (4294967295 : Int64)) * (p1 &&& (4294967295 : Int64))) &&& (4294967295 : Int64))) (32 : Int32)))), (20, .long (((((((p1 &&& (4294967295 : Int64)) * (p1 &&& (4294967295 : Int64))) &&& (4294967295 : Int64)) * (x_lushr p1 (32 : Int32))) + (x_lushr ((((p1 &&& (4294967295 : Int64)) * (p1 &&& (4294967295 : Int64))) &&& (4294967295 : Int64)) * (p1 &&& (4294967295 : Int64))) (32 : Int32))) &&& (4294967295 : Int64)) + (((((((2 : Int64) * (p1 &&& (4294967295 : Int64))) * (x_lushr p1 (32 : Int32))) + (x_lushr ((p1 &&& (4294967295 : Int64)) * (p1 &&& (4294967295 : Int64))) (32 : Int32))) &&& (4294967295 : Int64)) * (p1 &&& (4294967295 : Int64))) &&& (4294967295 : Int64)))), (18, .long ((((((2 : Int64) * (p1 &&& (4294967295 : Int64))) * (x_lushr p1 (32 : Int32))) + (x_lushr ((p1 &&& (4294967295 : Int64)) * (p1 &&& (4294967295 : Int64))) (32 : Int32))) &&& (4294967295 : Int64)) * (p1 &&& (4294967295 : Int64)))), (16, .long (((((p1 &&& (4294967295 : Int64)) * (p1 &&& (4294967295 : Int64))) &&& (4294967295 : Int64)) * (x_lushr p1 (32 : Int32))) + (x_lushr ((((p1 &&& (4294967295 : Int64)) * (p1 &&& (4294967295 : Int64))) &&& (4294967295 : Int64)) * (p1 &&& (4294967295 : Int64))) (32 : Int32)))), (10, .long (((((2 : Int64) * (p1 &&& (4294967295 : Int64))) * (x_lushr p1 (32 : Int32))) + (x_lushr ((p1 &&& (4294967295 : Int64)) * (p1 &&& (4294967295 : Int64))) (32 : Int32))) &&& (4294967295 : Int64))), (8, .long (((p1 &&& (4294967295 : Int64)) * (p1 &&& (4294967295 : Int64))) &&& (4294967295 : Int64))), (12, .long (((x_lushr p1 (32 : Int32)) * (x_lushr p1 (32 : Int32))) + (x_lushr ((((2 : Int64) * (p1 &&& (4294967295 : Int64))) * (x_lushr p1 (32 : Int32))) + (x_lushr ((p1 &&& (4294967295 : Int64)) * (p1 &&& (4294967295 : Int64))) (32 : Int32))) (32 : Int32)))), (6, .long (x_lushr p1 (32 : Int32))), (4, .long (p1 &&& (4294967295 : Int64))), (0, .long p1), (2, .int p2), (3, .int p3)]) hx hb d_M_isBelow_199 hl (by decide) rfl (fun ls hl => ?_)
    refine lv_lload hx hb d_M_isBelow_201 (lv_at hl 3 rfl) ?_
    refine lv_ldc2 (v := (4294967295 : Int64)) hx hb hown (hts _ t_670) d_M_isBelow_203 ?_
    refine lv_land hx hb d_M_isBelow_206 ?_
    refine lv_lstore (lv' := [(20, .long ((((((((p1 &&& (4294967295 : Int64)) * (p1 &&& (4294967295 : Int64))) &&& (4294967295 : Int64)) * (x_lushr p1 (32 : Int32))) + (x_lushr ((((p1 &&& (4294967295 : Int64)) * (p1 &&& (4294967295 : Int64))) &&& (4294967295 : Int64)) * (p1 &&& (4294967295 : Int64))) (32 : Int32))) &&& (4294967295 : Int64)) + (((((((2 : Int64) * (p1 &&& (4294967295 : Int64))) * (x_lushr p1 (32 : Int32))) + (x_lushr ((p1 &&& (4294967295 : Int64)) * (p1 &&& (4294967295 : Int64))) (32 : Int32))) &&& (4294967295 : Int64)) * (p1 &&& (4294967295 : Int64))) &&& (4294967295 : Int64))) &&& (4294967295 : Int64))), (14, .long (((((p1 &&& (4294967295 : Int64)) * (p1 &&& (4294967295 : Int64))) &&& (4294967295 : Int64)) * (p1 &&& (4294967295 : Int64))) &&& (4294967295 : Int64))), (24, .long (((((x_lushr p1 (32 : Int32)) * (x_lushr p1 (32 : Int32))) + (x_lushr ((((2 : Int64) * (p1 &&& (4294967295 : Int64))) * (x_lushr p1 (32 : Int32))) + (x_lushr ((p1 &&& (4294967295 : Int64)) * (p1 &&& (4294967295 : Int64))) (32 : Int32))) (32 : Int32))) * (x_lushr p1 (32 : Int32))) + (x_lushr ((((((((((2 : Int64) * (p1 &&& (4294967295 : Int64))) * (x_lushr p1 (32 : Int32))) + (x_lushr ((p1 &&& (4294967295 : Int64)) * (p1 &&& (4294967295 : Int64))) (32 : Int32))) &&& (4294967295 : Int64)) * (x_lushr p1 (32 : Int32))) + ((((x_lushr p1 (32 : Int32)) * (x_lushr p1 (32 : Int32))) + (x_lushr ((((2 : Int64) * (p1 &&& (4294967295 : Int64))) * (x_lushr p1 (32 : Int32))) + (x_lushr ((p1 &&& (4294967295 : Int64)) * (p1 &&& (4294967295 : Int64))) (32 : Int32))) (32 : Int32))) * (p1 &&& (4294967295 : Int64)))) + (x_lushr (((((p1 &&& (4294967295 : Int64)) * (p1 &&& (4294967295 : Int64))) &&& (4294967295 : Int64)) * (x_lushr p1 (32 : Int32))) + (x_lushr ((((p1 &&& (4294967295 : Int64)) * (p1 &&& (4294967295 : Int64))) &&& (4294967295 : Int64)) * (p1 &&& (4294967295 : Int64))) (32 : Int32))) (32 : Int32))) + (x_lushr ((((((2 : Int64) * (p1 &&& (4294967295 : Int64))) * (x_lushr p1 (32 : Int32))) + (x_lushr ((p1 &&& (4294967295 : Int64)) * (p1 &&& (4294967295 : Int64))) (32 : Int32))) &&& (4294967295 : Int64)) * (p1 &&& (4294967295 : Int64))) (32 : Int32))) + (x_lushr (((((((p1 &&& (4294967295 : Int64)) * (p1 &&& (4294967295 : Int64))) &&& (4294967295 : Int64)) * (x_lushr p1 (32 : Int32))) + (x_lushr ((((p1 &&& (4294967295 : Int64)) * (p1 &&& (4294967295 : Int64))) &&& (4294967295 : Int64)) * (p1 &&& (4294967295 : Int64))) (32 : Int32))) &&& (4294967295 : Int64)) + (((((((2 : Int64) * (p1 &&& (4294967295 : Int64))) * (x_lushr p1 (32 : Int32))) + (x_lushr ((p1 &&& (4294967295 : Int64)) * (p1 &&& (4294967295 : Int64))) (32 : Int32))) &&& (4294967295 : Int64)) * (p1 &&& (4294967295 : Int64))) &&& (4294967295 : Int64))) (32 : Int32))) (32 : Int32)))), (22, .long ((((((((((2 : Int64) * (p1 &&& (4294967295 : Int64))) * (x_lushr p1 (32 : Int32))) + (x_lushr ((p1 &&& (4294967295 : Int64)) * (p1 &&& (4294967295 : Int64))) (32 : Int32))) &&& (4294967295 : Int64)) * (x_lushr p1 (32 : Int32))) + ((((x_lushr p1 (32 : Int32)) * (x_lushr p1 (32 : Int32))) + (x_lushr ((((2 : Int64) * (p1 &&& (4294967295 : Int64))) * (x_lushr p1 (32 : Int32))) + (x_lushr ((p1 &&& (4294967295 : Int64)) * (p1 &&& (4294967295 : Int64))) (32 : Int32))) (32 : Int32))) * (p1 &&& (4294967295 : Int64)))) + (x_lushr (((((p1 &&& (4294967295 : Int64)) * (p1 &&& (4294967295 : Int64))) &&& (4294967295 : Int64)) * (x_lushr p1 (32 : Int32))) + (x_lushr ((((p1 &&& (4294967295 : Int64)) * (p1 &&& (4294967295 : Int64))) &&& (4294967295 : Int64)) * (p1 &&& (4294967295 : Int64))) (32 : Int32))) (32 : Int32))) + (x_lushr ((((((2 : Int64) * (p1 &&& (4294967295 : Int64))) * (x_lushr p1 (32 : Int32))) + (x_lushr ((p1 &&& (4294967295 : Int64)) * (p1 &&& (4294967295 : Int64))) (32 : Int32))) &&& (4294967295 : Int64)) * (p1 &&& (4294967295 : Int64))) (32 : Int32))) + (x_lushr (((((((p1 &&& (4294967295 : Int64)) * (p1 &&& (4294967295 : Int64))) &&& (4294967295 : Int64)) * (x_lushr p1 (32 : Int32))) + (x_lushr ((((p1 &&& (4294967295 : Int64)) * (p1 &&& (4294967295 : Int64))) &&& (4294967295 : Int64)) * (p1 &&& (4294967295 : Int64))) (32 : Int32))) &&& (4294967295 : Int64)) + (((((((2 : Int64) * (p1 &&& (4294967295 : Int64))) * (x_lushr p1 (32 : Int32))) + (x_lushr ((p1 &&& (4294967295 : Int64)) * (p1 &&& (4294967295 : Int64))) (32 : Int32))) &&& (4294967295 : Int64)) * (p1 &&& (4294967295 : Int64))) &&& (4294967295 : Int64))) (32 : Int32)))), (18, .long ((((((2 : Int64) * (p1 &&& (4294967295 : Int64))) * (x_lushr p1 (32 : Int32))) + (x_lushr ((p1 &&& (4294967295 : Int64)) * (p1 &&& (4294967295 : Int64))) (32 : Int32))) &&& (4294967295 : Int64)) * (p1 &&& (4294967295 : Int64)))), (16, .long (((((p1 &&& (4294967295 : Int64)) * (p1 &&& (4294967295 : Int64))) &&& (4294967295 : Int64)) * (x_lushr p1 (32 : Int32))) + (x_lushr ((((p1 &&& (4294967295 : Int64)) * (p1 &&& (4294967295 : Int64))) &&& (4294967295 : Int64)) * (p1 &&& (4294967295 : Int64))) (32 : Int32)))), (10, .long (((((2 : Int64) * (p1 &&& (4294967295 : Int64))) * (x_lushr p1 (32 : Int32))) + (x_lushr ((p1 &&& (4294967295 : Int64)) * (p1 &&& (4294967295 : Int64))) (32 : Int32))) &&& (4294967295 : Int64))), (8, .long (((p1 &&& (4294967295 : Int64)) * (p1 &&& (4294967295 : Int64))) &&& (4294967295 : Int64))), (12, .long (((x_lushr p1 (32 : Int32)) * (x_lushr p1 (32 : Int32))) + (x_lushr ((((2 : Int64) * (p1 &&& (4294967295 : Int64))) * (x_lushr p1 (32 : Int32))) + (x_lushr ((p1 &&& (4294967295 : Int64)) * (p1 &&& (4294967295 : Int64))) (32 : Int32))) (32 : Int32)))), (6, .long (x_lushr p1 (32 : Int32))), (4, .long (p1 &&& (4294967295 : Int64))), (0, .long p1), (2, .int p2), (3, .int p3)]) hx hb d_M_isBelow_207 hl (by decide) rfl (fun ls hl => ?_)
    refine lv_lload hx hb d_M_isBelow_209 (lv_at hl 3 rfl) ?_
    refine lv_ldc2 (v := (4294967295 : Int64)) hx hb hown (hts _ t_670) d_M_isBelow_211 ?_
    refine lv_land hx hb d_M_isBelow_214 ?_
    refine lv_lstore (lv' := [(22, .long (((((((((((2 : Int64) * (p1 &&& (4294967295 : Int64))) * (x_lushr p1 (32 : Int32))) + (x_lushr ((p1 &&& (4294967295 : Int64)) * (p1 &&& (4294967295 : Int64))) (32 : Int32))) &&& (4294967295 : Int64)) * (x_lushr p1 (32 : Int32))) + ((((x_lushr p1 (32 : Int32)) * (x_lushr p1 (32 : Int32))) + (x_lushr ((((2 : Int64) * (p1 &&& (4294967295 : Int64))) * (x_lushr p1 (32 : Int32))) + (x_lushr ((p1 &&& (4294967295 : Int64)) * (p1 &&& (4294967295 : Int64))) (32 : Int32))) (32 : Int32))) * (p1 &&& (4294967295 : Int64)))) + (x_lushr (((((p1 &&& (4294967295 : Int64)) * (p1 &&& (4294967295 : Int64))) &&& (4294967295 : Int64)) * (x_lushr p1 (32 : Int32))) + (x_lushr ((((p1 &&& (4294967295 : Int64)) * (p1 &&& (4294967295 : Int64))) &&& (4294967295 : Int64)) * (p1 &&& (4294967295 : Int64))) (32 : Int32))) (32 : Int32))) + (x_lushr ((((((2 : Int64) * (p1 &&& (4294967295 : Int64))) * (x_lushr p1 (32 : Int32))) + (x_lushr ((p1 &&& (4294967295 : Int64)) * (p1 &&& (4294967295 : Int64))) (32 : Int32))) &&& (4294967295 : Int64)) * (p1 &&& (4294967295 : Int64))) (32 : Int32))) + (x_lushr (((((((p1 &&& (4294967295 : Int64)) * (p1 &&& (4294967295 : Int64))) &&& (4294967295 : Int64)) * (x_lushr p1 (32 : Int32))) + (x_lushr ((((p1 &&& (4294967295 : Int64)) * (p1 &&& (4294967295 : Int64))) &&& (4294967295 : Int64)) * (p1 &&& (4294967295 : Int64))) (32 : Int32))) &&& (4294967295 : Int64)) + (((((((2 : Int64) * (p1 &&& (4294967295 : Int64))) * (x_lushr p1 (32 : Int32))) + (x_lushr ((p1 &&& (4294967295 : Int64)) * (p1 &&& (4294967295 : Int64))) (32 : Int32))) &&& (4294967295 : Int64)) * (p1 &&& (4294967295 : Int64))) &&& (4294967295 : Int64))) (32 : Int32))) &&& (4294967295 : Int64))), (20, .long ((((((((p1 &&& (4294967295 : Int64)) * (p1 &&& (4294967295 : Int64))) &&& (4294967295 : Int64)) * (x_lushr p1 (32 : Int32))) + (x_lushr ((((p1 &&& (4294967295 : Int64)) * (p1 &&& (4294967295 : Int64))) &&& (4294967295 : Int64)) * (p1 &&& (4294967295 : Int64))) (32 : Int32))) &&& (4294967295 : Int64)) + (((((((2 : Int64) * (p1 &&& (4294967295 : Int64))) * (x_lushr p1 (32 : Int32))) + (x_lushr ((p1 &&& (4294967295 : Int64)) * (p1 &&& (4294967295 : Int64))) (32 : Int32))) &&& (4294967295 : Int64)) * (p1 &&& (4294967295 : Int64))) &&& (4294967295 : Int64))) &&& (4294967295 : Int64))), (14, .long (((((p1 &&& (4294967295 : Int64)) * (p1 &&& (4294967295 : Int64))) &&& (4294967295 : Int64)) * (p1 &&& (4294967295 : Int64))) &&& (4294967295 : Int64))), (24, .long (((((x_lushr p1 (32 : Int32)) * (x_lushr p1 (32 : Int32))) + (x_lushr ((((2 : Int64) * (p1 &&& (4294967295 : Int64))) * (x_lushr p1 (32 : Int32))) + (x_lushr ((p1 &&& (4294967295 : Int64)) * (p1 &&& (4294967295 : Int64))) (32 : Int32))) (32 : Int32))) * (x_lushr p1 (32 : Int32))) + (x_lushr ((((((((((2 : Int64) * (p1 &&& (4294967295 : Int64))) * (x_lushr p1 (32 : Int32))) + (x_lushr ((p1 &&& (4294967295 : Int64)) * (p1 &&& (4294967295 : Int64))) (32 : Int32))) &&& (4294967295 : Int64)) * (x_lushr p1 (32 : Int32))) + ((((x_lushr p1 (32 : Int32)) * (x_lushr p1 (32 : Int32))) + (x_lushr ((((2 : Int64) * (p1 &&& (4294967295 : Int64))) * (x_lushr p1 (32 : Int32))) + (x_lushr ((p1 &&& (4294967295 : Int64)) * (p1 &&& (4294967295 : Int64))) (32 : Int32))) (32 : Int32))) * (p1 &&& (4294967295 : Int64)))) + (x_lushr (((((p1 &&& (4294967295 : Int64)) * (p1 &&& (4294967295 : Int64))) &&& (4294967295 : Int64)) * (x_lushr p1 (32 : Int32))) + (x_lushr ((((p1 &&& (4294967295 : Int64)) * (p1 &&& (4294967295 : Int64))) &&& (4294967295 : Int64)) * (p1 &&& (4294967295 : Int64))) (32 : Int32))) (32 : Int32))) + (x_lushr ((((((2 : Int64) * (p1 &&& (4294967295 : Int64))) * (x_lushr p1 (32 : Int32))) + (x_lushr ((p1 &&& (4294967295 : Int64)) * (p1 &&& (4294967295 : Int64))) (32 : Int32))) &&& (4294967295 : Int64)) * (p1 &&& (4294967295 : Int64))) (32 : Int32))) + (x_lushr (((((((p1 &&& (4294967295 : Int64)) * (p1 &&& (4294967295 : Int64))) &&& (4294967295 : Int64)) * (x_lushr p1 (32 : Int32))) + (x_lushr ((((p1 &&& (4294967295 : Int64)) * (p1 &&& (4294967295 : Int64))) &&& (4294967295 : Int64)) * (p1 &&& (4294967295 : Int64))) (32 : Int32))) &&& (4294967295 : Int64)) + (((((((2 : Int64) * (p1 &&& (4294967295 : Int64))) * (x_lushr p1 (32 : Int32))) + (x_lushr ((p1 &&& (4294967295 : Int64)) * (p1 &&& (4294967295 : Int64))) (32 : Int32))) &&& (4294967295 : Int64)) * (p1 &&& (4294967295 : Int64))) &&& (4294967295 : Int64))) (32 : Int32))) (32 : Int32)))), (18, .long ((((((2 : Int64) * (p1 &&& (4294967295 : Int64))) * (x_lushr p1 (32 : Int32))) + (x_lushr ((p1 &&& (4294967295 : Int64)) * (p1 &&& (4294967295 : Int64))) (32 : Int32))) &&& (4294967295 : Int64)) * (p1 &&& (4294967295 : Int64)))), (16, .long (((((p1 &&& (4294967295 : Int64)) * (p1 &&& (4294967295 : Int64))) &&& (4294967295 : Int64)) * (x_lushr p1 (32 : Int32))) + (x_lushr ((((p1 &&& (4294967295 : Int64)) * (p1 &&& (4294967295 : Int64))) &&& (4294967295 : Int64)) * (p1 &&& (4294967295 : Int64))) (32 : Int32)))), (10, .long (((((2 : Int64) * (p1 &&& (4294967295 : Int64))) * (x_lushr p1 (32 : Int32))) + (x_lushr ((p1 &&& (4294967295 : Int64)) * (p1 &&& (4294967295 : Int64))) (32 : Int32))) &&& (4294967295 : Int64))), (8, .long (((p1 &&& (4294967295 : Int64)) * (p1 &&& (4294967295 : Int64))) &&& (4294967295 : Int64))), (12, .long (((x_lushr p1 (32 : Int32)) * (x_lushr p1 (32 : Int32))) + (x_lushr ((((2 : Int64) * (p1 &&& (4294967295 : Int64))) * (x_lushr p1 (32 : Int32))) + (x_lushr ((p1 &&& (4294967295 : Int64)) * (p1 &&& (4294967295 : Int64))) (32 : Int32))) (32 : Int32)))), (6, .long (x_lushr p1 (32 : Int32))), (4, .long (p1 &&& (4294967295 : Int64))), (0, .long p1), (2, .int p2), (3, .int p3)]) hx hb d_M_isBelow_215 hl (by decide) rfl (fun ls hl => ?_)
    refine lv_lload hx hb d_M_isBelow_217 (lv_at hl 3 rfl) ?_
    refine lv_iload_n hx hb d_M_isBelow_219 rfl (lv_at hl 13 rfl) ?_
    refine lv_i2l (v := (p3).toInt64) hx hb d_M_isBelow_220 rfl ?_
    refine W.lcmp hx hb d_M_isBelow_221 ?_
    refine lv_if_lt (tgt := 254) hx hb d_M_isBelow_222 (by decide) (fun hc2 => ?_) (fun hc2 => ?_)
    · have hf := x_br_t hf hc2
      exact w_M_isBelow_254 l G C0 r zo z0 hf _ _ _ hP hD hS (lv_sub hl [] rfl)
    · have hf := x_br_f hf hc2
      refine lv_lload hx hb d_M_isBelow_225 (lv_at hl 3 rfl) ?_
      refine lv_iload_n hx hb d_M_isBelow_227 rfl (lv_at hl 13 rfl) ?_
      refine lv_i2l (v := (p3).toInt64) hx hb d_M_isBelow_228 rfl ?_
      refine W.lcmp hx hb d_M_isBelow_229 ?_
      refine lv_if_ne (tgt := 258) hx hb d_M_isBelow_230 (by decide) (fun hc3 => ?_) (fun hc3 => ?_)
      · have hf := x_br_f hf hc3
        refine lv_iconst (v := (0 : Int32)) hx hb d_M_isBelow_258 (by decide) ?_
        obtain ⟨rfl, rfl⟩ := x_ret hf
        exact W.zret (v := (0 : Int32)) hx hb hr rfl (fun t ht hW => ⟨⟨_, _, rfl, ⟨rfl, rfl⟩, m_pw hP hD hK hG hS hz ht hW⟩, hS.F ht⟩) hS.2.2 d_M_isBelow_259
      · have hf := x_br_t hf hc3
        refine lv_lload hx hb d_M_isBelow_233 (lv_at hl 2 rfl) ?_
        refine lv_lconst (v := (0 : Int64)) hx hb d_M_isBelow_235 (by decide) ?_
        refine W.lcmp hx hb d_M_isBelow_236 ?_
        refine lv_if_ne (tgt := 258) hx hb d_M_isBelow_237 (by decide) (fun hc4 => ?_) (fun hc4 => ?_)
        · have hf := x_br_f hf hc4
          refine lv_iconst (v := (0 : Int32)) hx hb d_M_isBelow_258 (by decide) ?_
          obtain ⟨rfl, rfl⟩ := x_ret hf
          exact W.zret (v := (0 : Int32)) hx hb hr rfl (fun t ht hW => ⟨⟨_, _, rfl, ⟨rfl, rfl⟩, m_pw hP hD hK hG hS hz ht hW⟩, hS.F ht⟩) hS.2.2 d_M_isBelow_259
        · have hf := x_br_t hf hc4
          refine lv_lload hx hb d_M_isBelow_240 (lv_at hl 1 rfl) ?_
          refine lv_lconst (v := (0 : Int64)) hx hb d_M_isBelow_242 (by decide) ?_
          refine W.lcmp hx hb d_M_isBelow_243 ?_
          refine lv_if_ne (tgt := 258) hx hb d_M_isBelow_244 (by decide) (fun hc5 => ?_) (fun hc5 => ?_)
          · have hf := x_br_f hf hc5
            refine lv_iconst (v := (0 : Int32)) hx hb d_M_isBelow_258 (by decide) ?_
            obtain ⟨rfl, rfl⟩ := x_ret hf
            exact W.zret (v := (0 : Int32)) hx hb hr rfl (fun t ht hW => ⟨⟨_, _, rfl, ⟨rfl, rfl⟩, m_pw hP hD hK hG hS hz ht hW⟩, hS.F ht⟩) hS.2.2 d_M_isBelow_259
          · have hf := x_br_t hf hc5
            refine lv_lload hx hb d_M_isBelow_247 (lv_at hl 0 rfl) ?_
            refine lv_lconst (v := (0 : Int64)) hx hb d_M_isBelow_249 (by decide) ?_
            refine W.lcmp hx hb d_M_isBelow_250 ?_
            refine lv_if_ne (tgt := 258) hx hb d_M_isBelow_251 (by decide) (fun hc6 => ?_) (fun hc6 => ?_)
            · have hf := x_br_f hf hc6
              refine lv_iconst (v := (0 : Int32)) hx hb d_M_isBelow_258 (by decide) ?_
              obtain ⟨rfl, rfl⟩ := x_ret hf
              exact W.zret (v := (0 : Int32)) hx hb hr rfl (fun t ht hW => ⟨⟨_, _, rfl, ⟨rfl, rfl⟩, m_pw hP hD hK hG hS hz ht hW⟩, hS.F ht⟩) hS.2.2 d_M_isBelow_259
            · have hf := x_br_t hf hc6
              exact w_M_isBelow_254 l G C0 r zo z0 hf _ _ _ hP hD hS (lv_sub hl [] rfl)
  · have hf := x_br_t hf hc1
    refine lv_lload hx hb d_M_isBelow_71 (lv_at hl 2 rfl) ?_
    refine lv_iload_n hx hb d_M_isBelow_73 rfl (lv_at hl 7 rfl) ?_
    refine lv_i2l (v := (p3).toInt64) hx hb d_M_isBelow_74 rfl ?_
    refine W.lcmp hx hb d_M_isBelow_75 ?_
    refine lv_if_lt (tgt := 101) hx hb d_M_isBelow_76 (by decide) (fun hc7 => ?_) (fun hc7 => ?_)
    · have hf := x_br_t hf hc7
      exact w_M_isBelow_101 l G C0 r zo z0 hf _ _ _ hP hD hS (lv_sub hl [] rfl)
    · have hf := x_br_f hf hc7
      refine lv_lload hx hb d_M_isBelow_79 (lv_at hl 2 rfl) ?_
      refine lv_iload_n hx hb d_M_isBelow_81 rfl (lv_at hl 7 rfl) ?_
      refine lv_i2l (v := (p3).toInt64) hx hb d_M_isBelow_82 rfl ?_
      refine W.lcmp hx hb d_M_isBelow_83 ?_
      refine lv_if_ne (tgt := 105) hx hb d_M_isBelow_84 (by decide) (fun hc8 => ?_) (fun hc8 => ?_)
      · have hf := x_br_f hf hc8
        refine lv_iconst (v := (0 : Int32)) hx hb d_M_isBelow_105 (by decide) ?_
        obtain ⟨rfl, rfl⟩ := x_ret hf
        exact W.zret (v := (0 : Int32)) hx hb hr rfl (fun t ht hW => ⟨⟨_, _, rfl, ⟨rfl, rfl⟩, m_pw hP hD hK hG hS hz ht hW⟩, hS.F ht⟩) hS.2.2 d_M_isBelow_106
      · have hf := x_br_t hf hc8
        refine lv_lload hx hb d_M_isBelow_87 (lv_at hl 1 rfl) ?_
        refine lv_lconst (v := (0 : Int64)) hx hb d_M_isBelow_89 (by decide) ?_
        refine W.lcmp hx hb d_M_isBelow_90 ?_
        refine lv_if_ne (tgt := 105) hx hb d_M_isBelow_91 (by decide) (fun hc9 => ?_) (fun hc9 => ?_)
        · have hf := x_br_f hf hc9
          refine lv_iconst (v := (0 : Int32)) hx hb d_M_isBelow_105 (by decide) ?_
          obtain ⟨rfl, rfl⟩ := x_ret hf
          exact W.zret (v := (0 : Int32)) hx hb hr rfl (fun t ht hW => ⟨⟨_, _, rfl, ⟨rfl, rfl⟩, m_pw hP hD hK hG hS hz ht hW⟩, hS.F ht⟩) hS.2.2 d_M_isBelow_106
        · have hf := x_br_t hf hc9
          refine lv_lload hx hb d_M_isBelow_94 (lv_at hl 0 rfl) ?_
          refine lv_lconst (v := (0 : Int64)) hx hb d_M_isBelow_96 (by decide) ?_
          refine W.lcmp hx hb d_M_isBelow_97 ?_
          refine lv_if_ne (tgt := 105) hx hb d_M_isBelow_98 (by decide) (fun hc10 => ?_) (fun hc10 => ?_)
          · have hf := x_br_f hf hc10
            refine lv_iconst (v := (0 : Int32)) hx hb d_M_isBelow_105 (by decide) ?_
            obtain ⟨rfl, rfl⟩ := x_ret hf
            exact W.zret (v := (0 : Int32)) hx hb hr rfl (fun t ht hW => ⟨⟨_, _, rfl, ⟨rfl, rfl⟩, m_pw hP hD hK hG hS hz ht hW⟩, hS.F ht⟩) hS.2.2 d_M_isBelow_106
          · have hf := x_br_t hf hc10
            exact w_M_isBelow_101 l G C0 r zo z0 hf _ _ _ hP hD hS (lv_sub hl [] rfl)
abbrev rm_M_rootOf : Room := { frames := 1, cells := 0, slots := 0, locals := 45 }
set_option maxHeartbeats 4000000 in
set_option maxRecDepth 100000 in
theorem w_M_rootOf_42 (l : Launch) (G : x_G) {p : Program} {e : Env} {s : State} {m : MethodId} {args : Array Value} {below : List Frame} {meth : Method} {c : Code} (C0 : m_Ctx G p s m args meth c prog_7_method_5_code "ContentLibraryModel" 5 (some .int)) (r : Int32) (zo : x_St) : ∀ (a2 : Int64) (z0 : x_St), f_M_rootOf_42 (x_n G) a2 z0 = some (r, zo) → ∀ (H : Heap) (locs : List Loc) (ls : Array Slot), va_P (x_D G) vwCl (m_Wd G z0) H → va_D (x_A G) (m_Wd G z0) → va_S (x_A G) s.heap H locs → lv_has ls 5 [(2, .long a2)] → W p l e rm_M_rootOf s m args below meth c H locs 0 0 (MQ below (va_Qi (fun a u => r = a ∧ zo = u) (m_PW G) (x_A G)) args s 0 0 (x_A G)) (F0 m 42 ls []) := by
  obtain ⟨hx, hb, hr, hml, hown, hts, hlocks, hz, hK, hG⟩ := id C0
  intro a2 z0 hf H locs ls hP hD hS hl
  rw [f_M_rootOf_42] at hf
  refine lv_lload_n hx hb d_M_rootOf_42 rfl (lv_at hl 0 rfl) ?_
  refine lv_l2i (v := ((a2).toInt32)) hx hb d_M_rootOf_43 rfl ?_
  obtain ⟨rfl, rfl⟩ := x_ret hf
  exact W.iret (v := ((a2).toInt32)) hx hb hr (fun t ht hW => ⟨⟨_, _, rfl, ⟨rfl, rfl⟩, m_pw hP hD hK hG hS hz ht hW⟩, hS.F ht⟩) hS.2.2 d_M_rootOf_44
set_option maxHeartbeats 4000000 in
set_option maxRecDepth 100000 in
theorem w_M_rootOf_6 (l : Launch) (G : x_G) {p : Program} {e : Env} {s : State} {m : MethodId} {args : Array Value} {below : List Frame} {meth : Method} {c : Code} (C0 : m_Ctx G p s m args meth c prog_7_method_5_code "ContentLibraryModel" 5 (some .int)) (r : Int32) (zo : x_St) : ∀ (fu : Nat), ∀ (a0 : Int32) (a1 : Int32) (a2 : Int64) (a4 : Int32) (z0 : x_St), f_M_rootOf_6 (x_n G) fu a0 a1 a2 a4 z0 = some (r, zo) → ∀ (H : Heap) (locs : List Loc) (ls : Array Slot), va_P (x_D G) vwCl (m_Wd G z0) H → va_D (x_A G) (m_Wd G z0) → va_S (x_A G) s.heap H locs → lv_has ls 5 [(0, .int a0), (1, .int a1), (2, .long a2), (4, .int a4)] → W p l e rm_M_rootOf s m args below meth c H locs 0 0 (MQ below (va_Qi (fun a u => r = a ∧ zo = u) (m_PW G) (x_A G)) args s 0 0 (x_A G)) (F0 m 6 ls []) := by
  obtain ⟨hx, hb, hr, hml, hown, hts, hlocks, hz, hK, hG⟩ := id C0
  intro fu
  induction fu with
  | zero =>
    intro a0 a1 a2 a4 z0 hf
    rw [f_M_rootOf_6] at hf
    cases hf
  | succ fu ih =>
    intro a0 a1 a2 a4 z0 hf H locs ls hP hD hS hl
    rw [f_M_rootOf_6] at hf
    refine lv_iload hx hb d_M_rootOf_6 (lv_at hl 3 rfl) ?_
    refine lv_if_lt (tgt := 42) hx hb d_M_rootOf_8 (by decide) (fun hc1 => ?_) (fun hc1 => ?_)
    · have hf := x_br_t hf hc1
      exact w_M_rootOf_42 l G C0 r zo a2 z0 hf _ _ _ hP hD hS (lv_sub hl [2] rfl)
    · have hf := x_br_f hf hc1
      refine lv_lload_n hx hb d_M_rootOf_11 rfl (lv_at hl 2 rfl) ?_
      refine lv_lload_n hx hb d_M_rootOf_12 rfl (lv_at hl 2 rfl) ?_
      refine lv_lconst (v := (1 : Int64)) hx hb d_M_rootOf_13 (by decide) ?_
      refine lv_iload hx hb d_M_rootOf_14 (lv_at hl 3 rfl) ?_
      refine lv_lshl (v := (x_lshl (1 : Int64) a4)) hx hb d_M_rootOf_16 rfl ?_
      refine lv_ladd hx hb d_M_rootOf_17 ?_
      refine lv_iload_n hx hb d_M_rootOf_18 rfl (lv_at hl 1 rfl) ?_
      refine lv_iload_n hx hb d_M_rootOf_19 rfl (lv_at hl 0 rfl) ?_
      obtain ⟨r2, z2, hq3, hf⟩ := x_cl_some hf
      refine va_calli (va_runS (As := [.long (a2 + (x_lshl (1 : Int64) a4)), .int a1, .int a0]) (rest := [.long a2]) ⟨hx, hb, hml, hown, hts⟩ (c_M_isBelow l G (a2 + (x_lshl (1 : Int64) a4)) a1 a0 z0 r2 z2 hq3) (va_cwS 3 hts (x_gS t_667 t_668 t_7 t_669) rfl rfl rfl (by decide +kernel) ⟨Nat.le_of_ble_eq_true rfl, Nat.le_of_ble_eq_true rfl⟩) ⟨m_blind _ _ _, fun U hU hW => ⟨rfl, m_pw hP hD hK hG hS hz hU hW⟩⟩ rfl rfl hl.1 rfl (lv_room (Nat.le_of_ble_eq_true rfl)) d_M_rootOf_20 ⟨Nat.le_of_ble_eq_true rfl, Nat.le_of_ble_eq_true rfl⟩) hS (fun q _ h => h) (fun q h => h) (fun ra u t H locs ht hvm hw hB _ _ hS => ?_)
      obtain ⟨rfl, rfl⟩ := hw
      obtain ⟨hP, hD⟩ := m_back hB ht
      refine lv_if_eq (tgt := 33) hx hb d_M_rootOf_23 (by decide) (fun hc4 => ?_) (fun hc4 => ?_)
      · have hf := x_br_t hf hc4
        refine lv_lconst (v := (0 : Int64)) hx hb d_M_rootOf_33 (by decide) ?_
        refine lv_ladd hx hb d_M_rootOf_34 ?_
        refine lv_lstore_n (lv' := [(2, .long (a2 + (0 : Int64))), (0, .int a0), (1, .int a1), (4, .int a4)]) hx hb d_M_rootOf_35 rfl hl (by decide) rfl (fun ls hl => ?_)
        refine lv_iinc (v := (a4 + (-1 : Int32))) (lv' := [(4, .int (a4 + (-1 : Int32))), (2, .long (a2 + (0 : Int64))), (0, .int a0), (1, .int a1)]) hx hb d_M_rootOf_36 hl (k := 3) rfl rfl (by decide) rfl (fun ls hl => ?_)
        refine lv_goto (tgt := 6) hx hb d_M_rootOf_39 (by decide) ?_
        exact ih a0 a1 (a2 + (0 : Int64)) (a4 + (-1 : Int32)) z2 hf _ _ _ hP hD hS (lv_sub hl [2, 3, 1, 0] rfl)
      · have hf := x_br_f hf hc4
        refine lv_lconst (v := (1 : Int64)) hx hb d_M_rootOf_26 (by decide) ?_
        refine lv_iload hx hb d_M_rootOf_27 (lv_at hl 3 rfl) ?_
        refine lv_lshl (v := (x_lshl (1 : Int64) a4)) hx hb d_M_rootOf_29 rfl ?_
        refine lv_goto (tgt := 34) hx hb d_M_rootOf_30 (by decide) ?_
        refine lv_ladd hx hb d_M_rootOf_34 ?_
        refine lv_lstore_n (lv' := [(2, .long (a2 + (x_lshl (1 : Int64) a4))), (0, .int a0), (1, .int a1), (4, .int a4)]) hx hb d_M_rootOf_35 rfl hl (by decide) rfl (fun ls hl => ?_)
        refine lv_iinc (v := (a4 + (-1 : Int32))) (lv' := [(4, .int (a4 + (-1 : Int32))), (2, .long (a2 + (x_lshl (1 : Int64) a4))), (0, .int a0), (1, .int a1)]) hx hb d_M_rootOf_36 hl (k := 3) rfl rfl (by decide) rfl (fun ls hl => ?_)
        refine lv_goto (tgt := 6) hx hb d_M_rootOf_39 (by decide) ?_
        exact ih a0 a1 (a2 + (x_lshl (1 : Int64) a4)) (a4 + (-1 : Int32)) z2 hf _ _ _ hP hD hS (lv_sub hl [2, 3, 1, 0] rfl)
set_option maxHeartbeats 4000000 in
set_option maxRecDepth 100000 in
theorem c_M_rootOf (l : Launch) (G : x_G) (p1 : Int32) (p2 : Int32) (z0 : x_St) (r : Int32) (zo : x_St) (hf : f_M_rootOf (x_n G) p1 p2 z0 = some (r, zo)) : Met l (⟨"ContentLibraryModel", "rootOf", "(II)I"⟩ : MethodName) (x_ws (⟨"ContentLibraryModel", "rootOf", "(II)I"⟩ : MethodName) prog_7_method_5_code 5 (some .int)) rm_M_rootOf (va_Pc [.int p1, .int p2] (m_PW G z0)) (va_Qi (fun a u => r = a ∧ zo = u) (m_PW G) (x_A G)) 0 0 (x_A G) := by
  refine Met.ofW (cc := prog_7_method_5_code) (maxL := 5) (ret := (some .int)) (by decide) rfl ?_
  intro p e s m args below meth c s₁ B hml hv
  obtain ⟨rfl, hz, hP, hD, hK, hG⟩ := hv
  have C0 : m_Ctx G p s m _ meth c prog_7_method_5_code "ContentLibraryModel" 5 (some .int) := ⟨B.exec, B.bytes, B.returns, hml, findClass_of_methodNamed B.named, fun w h => atoms_spec (ws := (x_ws (⟨"ContentLibraryModel", "rootOf", "(II)I"⟩ : MethodName) prog_7_method_5_code 5 (some .int))) B.pre w (List.mem_cons_of_mem _ h), B.notSynchronized, hz, hK, hG⟩
  obtain ⟨hx, hb, hr, hml, hown, hts, hlocks, hz, hK, hG⟩ := id C0
  have hS : va_S (x_A G) s.heap s.heap [] := va_S.rf
  have hl := lv_entry ([.int p1, .int p2]) (n := 5) (Nat.le_of_ble_eq_true rfl)
  rw [lg_entry_eq]
  generalize (lg_sl ([.int p1, .int p2]) ++ List.replicate (5 - (lg_sl ([.int p1, .int p2])).length) Slot.unset).toArray = ls at hl ⊢
  have hl : lv_has ls 5 [(0, .int p1), (1, .int p2)] := hl
  rw [f_M_rootOf] at hf
  refine lv_lconst (v := (0 : Int64)) hx hb d_M_rootOf_0 (by decide) ?_
  refine lv_lstore_n (lv' := [(2, .long (0 : Int64)), (0, .int p1), (1, .int p2)]) hx hb d_M_rootOf_1 rfl hl (by decide) rfl (fun ls hl => ?_)
  refine lv_bipush (v := (39 : Int32)) hx hb d_M_rootOf_2 (by decide) ?_
  refine lv_istore (lv' := [(4, .int (39 : Int32)), (2, .long (0 : Int64)), (0, .int p1), (1, .int p2)]) hx hb d_M_rootOf_4 hl (by decide) rfl (fun ls hl => ?_)
  exact w_M_rootOf_6 l G C0 r zo x_FU p1 p2 (0 : Int64) (39 : Int32) z0 hf _ _ _ hP hD hS (lv_sub hl [2, 3, 1, 0] rfl)
