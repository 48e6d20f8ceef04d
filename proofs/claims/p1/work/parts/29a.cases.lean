theorem t_0 : Cond.initialized "ContentLibraryLaw" ∈ x_big := x_bt 0 (by decide +kernel) (by decide +kernel)
theorem t_325 : Cond.methodLink "ContentLibraryLaw" 74 (⟨"ContentLibraryLaw", "picture", "(LContentLibrary;II[J)I"⟩ : MethodName) ∈ x_big := x_bt 325 (by decide +kernel) (by decide +kernel)
theorem t_326 : Cond.static (⟨"ContentLibraryLaw", "picture", "(LContentLibrary;II[J)I"⟩ : MethodName) ∈ x_big := x_bt 326 (by decide +kernel) (by decide +kernel)
theorem t_327 : Cond.codeWith (⟨"ContentLibraryLaw", "picture", "(LContentLibrary;II[J)I"⟩ : MethodName) method_3_code 5 (some .int) [(0, 10, 13, 13), (0, 10, 17, 15), (0, 10, 21, 17)] ∈ x_big := x_bt 327 (by decide +kernel) (by decide +kernel)
theorem t_445 : Cond.methodLink "ContentLibraryLaw" 81 (⟨"ContentLibraryLaw", "samples", "(LContentLibrary;IIII[J)I"⟩ : MethodName) ∈ x_big := x_bt 445 (by decide +kernel) (by decide +kernel)
theorem t_446 : Cond.static (⟨"ContentLibraryLaw", "samples", "(LContentLibrary;IIII[J)I"⟩ : MethodName) ∈ x_big := x_bt 446 (by decide +kernel) (by decide +kernel)
theorem t_447 : Cond.codeWith (⟨"ContentLibraryLaw", "samples", "(LContentLibrary;IIII[J)I"⟩ : MethodName) method_4_code 7 (some .int) [(0, 14, 17, 13), (0, 14, 21, 23), (0, 14, 25, 15)] ∈ x_big := x_bt 447 (by decide +kernel) (by decide +kernel)
theorem t_479 : Cond.methodLink "ContentLibraryLaw" 85 (⟨"ContentLibraryLaw", "keep", "(LContentLibrary;I[J)I"⟩ : MethodName) ∈ x_big := x_bt 479 (by decide +kernel) (by decide +kernel)
theorem t_480 : Cond.static (⟨"ContentLibraryLaw", "keep", "(LContentLibrary;I[J)I"⟩ : MethodName) ∈ x_big := x_bt 480 (by decide +kernel) (by decide +kernel)
theorem t_481 : Cond.codeWith (⟨"ContentLibraryLaw", "keep", "(LContentLibrary;I[J)I"⟩ : MethodName) method_5_code 4 (some .int) [(0, 9, 12, 13), (0, 9, 15, 23), (0, 9, 18, 15), (0, 9, 21, 17)] ∈ x_big := x_bt 481 (by decide +kernel) (by decide +kernel)
theorem t_551 : Cond.methodLink "ContentLibraryLaw" 89 (⟨"ContentLibraryLaw", "digest", "(LContentLibrary;II[J)I"⟩ : MethodName) ∈ x_big := x_bt 551 (by decide +kernel) (by decide +kernel)
theorem t_552 : Cond.static (⟨"ContentLibraryLaw", "digest", "(LContentLibrary;II[J)I"⟩ : MethodName) ∈ x_big := x_bt 552 (by decide +kernel) (by decide +kernel)
theorem t_553 : Cond.codeWith (⟨"ContentLibraryLaw", "digest", "(LContentLibrary;II[J)I"⟩ : MethodName) method_6_code 5 (some .int) [(0, 10, 13, 13), (0, 10, 17, 23)] ∈ x_big := x_bt 553 (by decide +kernel) (by decide +kernel)
theorem t_767 : Cond.methodLink "ContentLibraryLaw" 78 (⟨"ContentLibraryModel", "thrown", "()I"⟩ : MethodName) ∈ x_big := x_bt 767 (by decide +kernel) (by decide +kernel)
theorem t_768 : Cond.instanceMethod (⟨"ContentLibraryModel", "thrown", "()I"⟩ : MethodName) ∈ x_big := x_bt 768 (by decide +kernel) (by decide +kernel)
theorem t_769 : Cond.selects "ContentLibraryModel" (⟨"ContentLibraryModel", "thrown", "()I"⟩ : MethodName) (⟨"ContentLibraryModel", "thrown", "()I"⟩ : MethodName) ∈ x_big := x_bt 769 (by decide +kernel) (by decide +kernel)
theorem t_770 : Cond.code (⟨"ContentLibraryModel", "thrown", "()I"⟩ : MethodName) prog_7_method_2_code 1 (some .int) ∈ x_big := x_bt 770 (by decide +kernel) (by decide +kernel)
theorem t_771 : Cond.methodLink "ContentLibraryLaw" 77 (⟨"ContentLibraryModel", "picture", "(II)I"⟩ : MethodName) ∈ x_big := x_bt 771 (by decide +kernel) (by decide +kernel)
theorem t_772 : Cond.instanceMethod (⟨"ContentLibraryModel", "picture", "(II)I"⟩ : MethodName) ∈ x_big := x_bt 772 (by decide +kernel) (by decide +kernel)
theorem t_773 : Cond.selects "ContentLibraryModel" (⟨"ContentLibraryModel", "picture", "(II)I"⟩ : MethodName) (⟨"ContentLibraryModel", "picture", "(II)I"⟩ : MethodName) ∈ x_big := x_bt 773 (by decide +kernel) (by decide +kernel)
theorem t_774 : Cond.code (⟨"ContentLibraryModel", "picture", "(II)I"⟩ : MethodName) prog_7_method_21_code 5 (some .int) ∈ x_big := x_bt 774 (by decide +kernel) (by decide +kernel)
theorem t_775 : Cond.methodLink "ContentLibraryLaw" 84 (⟨"ContentLibraryModel", "samples", "(IIII)I"⟩ : MethodName) ∈ x_big := x_bt 775 (by decide +kernel) (by decide +kernel)
theorem t_776 : Cond.instanceMethod (⟨"ContentLibraryModel", "samples", "(IIII)I"⟩ : MethodName) ∈ x_big := x_bt 776 (by decide +kernel) (by decide +kernel)
theorem t_777 : Cond.selects "ContentLibraryModel" (⟨"ContentLibraryModel", "samples", "(IIII)I"⟩ : MethodName) (⟨"ContentLibraryModel", "samples", "(IIII)I"⟩ : MethodName) ∈ x_big := x_bt 777 (by decide +kernel) (by decide +kernel)
theorem t_778 : Cond.code (⟨"ContentLibraryModel", "samples", "(IIII)I"⟩ : MethodName) prog_7_method_24_code 7 (some .int) ∈ x_big := x_bt 778 (by decide +kernel) (by decide +kernel)
theorem t_787 : Cond.methodLink "ContentLibraryLaw" 88 (⟨"ContentLibraryModel", "keep", "(I)I"⟩ : MethodName) ∈ x_big := x_bt 787 (by decide +kernel) (by decide +kernel)
theorem t_788 : Cond.instanceMethod (⟨"ContentLibraryModel", "keep", "(I)I"⟩ : MethodName) ∈ x_big := x_bt 788 (by decide +kernel) (by decide +kernel)
theorem t_789 : Cond.selects "ContentLibraryModel" (⟨"ContentLibraryModel", "keep", "(I)I"⟩ : MethodName) (⟨"ContentLibraryModel", "keep", "(I)I"⟩ : MethodName) ∈ x_big := x_bt 789 (by decide +kernel) (by decide +kernel)
theorem t_790 : Cond.code (⟨"ContentLibraryModel", "keep", "(I)I"⟩ : MethodName) prog_7_method_25_code 8 (some .int) ∈ x_big := x_bt 790 (by decide +kernel) (by decide +kernel)
theorem t_846 : Cond.methodLink "ContentLibraryLaw" 91 (⟨"ContentLibraryModel", "digest", "(II)I"⟩ : MethodName) ∈ x_big := x_bt 846 (by decide +kernel) (by decide +kernel)
theorem t_847 : Cond.instanceMethod (⟨"ContentLibraryModel", "digest", "(II)I"⟩ : MethodName) ∈ x_big := x_bt 847 (by decide +kernel) (by decide +kernel)
theorem t_848 : Cond.selects "ContentLibraryModel" (⟨"ContentLibraryModel", "digest", "(II)I"⟩ : MethodName) (⟨"ContentLibraryModel", "digest", "(II)I"⟩ : MethodName) ∈ x_big := x_bt 848 (by decide +kernel) (by decide +kernel)
theorem t_849 : Cond.code (⟨"ContentLibraryModel", "digest", "(II)I"⟩ : MethodName) prog_7_method_27_code 3 (some .int) ∈ x_big := x_bt 849 (by decide +kernel) (by decide +kernel)
theorem d_L_law_128 : decode code 128 = .ok (.aload_n 1, 1) := by decide +kernel
theorem d_L_law_129 : decode code 129 = .ok (.aload_n 0, 1) := by decide +kernel
theorem d_L_law_130 : decode code 130 = .ok (.iload 4, 2) := by decide +kernel
theorem d_L_law_132 : decode code 132 = .ok (.iconst 1, 1) := by decide +kernel
theorem d_L_law_133 : decode code 133 = .ok (.iadd, 1) := by decide +kernel
theorem d_L_law_134 : decode code 134 = .ok (.iaload, 1) := by decide +kernel
theorem d_L_law_135 : decode code 135 = .ok (.aload_n 0, 1) := by decide +kernel
theorem d_L_law_136 : decode code 136 = .ok (.iload 4, 2) := by decide +kernel
theorem d_L_law_138 : decode code 138 = .ok (.iconst 2, 1) := by decide +kernel
theorem d_L_law_139 : decode code 139 = .ok (.iadd, 1) := by decide +kernel
theorem d_L_law_140 : decode code 140 = .ok (.iaload, 1) := by decide +kernel
theorem d_L_law_141 : decode code 141 = .ok (.aload_n 3, 1) := by decide +kernel
theorem d_L_law_142 : decode code 142 = .ok (.invokestatic 74, 3) := by decide +kernel
theorem d_L_law_145 : decode code 145 = .ok (.istore 5, 2) := by decide +kernel
theorem d_L_law_147 : decode code 147 = .ok (.aload_n 2, 1) := by decide +kernel
theorem d_L_law_148 : decode code 148 = .ok (.aload_n 0, 1) := by decide +kernel
theorem d_L_law_149 : decode code 149 = .ok (.iload 4, 2) := by decide +kernel
theorem d_L_law_151 : decode code 151 = .ok (.iconst 1, 1) := by decide +kernel
theorem d_L_law_152 : decode code 152 = .ok (.iadd, 1) := by decide +kernel
theorem d_L_law_153 : decode code 153 = .ok (.iaload, 1) := by decide +kernel
theorem d_L_law_154 : decode code 154 = .ok (.aload_n 0, 1) := by decide +kernel
theorem d_L_law_155 : decode code 155 = .ok (.iload 4, 2) := by decide +kernel
theorem d_L_law_157 : decode code 157 = .ok (.iconst 2, 1) := by decide +kernel
theorem d_L_law_158 : decode code 158 = .ok (.iadd, 1) := by decide +kernel
theorem d_L_law_159 : decode code 159 = .ok (.iaload, 1) := by decide +kernel
theorem d_L_law_160 : decode code 160 = .ok (.invokevirtual 77, 3) := by decide +kernel
theorem d_L_law_163 : decode code 163 = .ok (.istore 6, 2) := by decide +kernel
theorem d_L_law_165 : decode code 165 = .ok (.aload_n 2, 1) := by decide +kernel
theorem d_L_law_166 : decode code 166 = .ok (.invokevirtual 78, 3) := by decide +kernel
theorem d_L_law_169 : decode code 169 = .ok (.iload 5, 2) := by decide +kernel
theorem d_L_law_171 : decode code 171 = .ok (.if_icmp .eq 5, 3) := by decide +kernel
theorem d_L_law_176 : decode code 176 = .ok (.iload 5, 2) := by decide +kernel
theorem d_L_law_178 : decode code 178 = .ok (.ifCond .ne 15, 3) := by decide +kernel
theorem d_L_law_193 : decode code 193 = .ok (.goto 845, 3) := by decide +kernel
theorem d_L_law_181 : decode code 181 = .ok (.aload_n 3, 1) := by decide +kernel
theorem d_L_law_182 : decode code 182 = .ok (.iconst 0, 1) := by decide +kernel
theorem d_L_law_183 : decode code 183 = .ok (.laload, 1) := by decide +kernel
theorem d_L_law_184 : decode code 184 = .ok (.iload 6, 2) := by decide +kernel
theorem d_L_law_186 : decode code 186 = .ok (.i2l, 1) := by decide +kernel
theorem d_L_law_187 : decode code 187 = .ok (.lcmp, 1) := by decide +kernel
theorem d_L_law_188 : decode code 188 = .ok (.ifCond .eq 5, 3) := by decide +kernel
theorem d_L_law_196 : decode code 196 = .ok (.aload_n 1, 1) := by decide +kernel
theorem d_L_law_197 : decode code 197 = .ok (.aload_n 0, 1) := by decide +kernel
theorem d_L_law_198 : decode code 198 = .ok (.iload 4, 2) := by decide +kernel
theorem d_L_law_200 : decode code 200 = .ok (.iconst 1, 1) := by decide +kernel
theorem d_L_law_201 : decode code 201 = .ok (.iadd, 1) := by decide +kernel
theorem d_L_law_202 : decode code 202 = .ok (.iaload, 1) := by decide +kernel
theorem d_L_law_203 : decode code 203 = .ok (.aload_n 0, 1) := by decide +kernel
theorem d_L_law_204 : decode code 204 = .ok (.iload 4, 2) := by decide +kernel
theorem d_L_law_206 : decode code 206 = .ok (.iconst 2, 1) := by decide +kernel
theorem d_L_law_207 : decode code 207 = .ok (.iadd, 1) := by decide +kernel
theorem d_L_law_208 : decode code 208 = .ok (.iaload, 1) := by decide +kernel
theorem d_L_law_209 : decode code 209 = .ok (.aload_n 0, 1) := by decide +kernel
theorem d_L_law_210 : decode code 210 = .ok (.iload 4, 2) := by decide +kernel
theorem d_L_law_212 : decode code 212 = .ok (.iconst 3, 1) := by decide +kernel
theorem d_L_law_213 : decode code 213 = .ok (.iadd, 1) := by decide +kernel
theorem d_L_law_214 : decode code 214 = .ok (.iaload, 1) := by decide +kernel
theorem d_L_law_215 : decode code 215 = .ok (.aload_n 0, 1) := by decide +kernel
theorem d_L_law_216 : decode code 216 = .ok (.iload 4, 2) := by decide +kernel
theorem d_L_law_218 : decode code 218 = .ok (.iconst 4, 1) := by decide +kernel
theorem d_L_law_219 : decode code 219 = .ok (.iadd, 1) := by decide +kernel
theorem d_L_law_220 : decode code 220 = .ok (.iaload, 1) := by decide +kernel
theorem d_L_law_221 : decode code 221 = .ok (.aload_n 3, 1) := by decide +kernel
theorem d_L_law_222 : decode code 222 = .ok (.invokestatic 81, 3) := by decide +kernel
theorem d_L_law_225 : decode code 225 = .ok (.istore 5, 2) := by decide +kernel
theorem d_L_law_227 : decode code 227 = .ok (.aload_n 2, 1) := by decide +kernel
theorem d_L_law_228 : decode code 228 = .ok (.aload_n 0, 1) := by decide +kernel
theorem d_L_law_229 : decode code 229 = .ok (.iload 4, 2) := by decide +kernel
theorem d_L_law_231 : decode code 231 = .ok (.iconst 1, 1) := by decide +kernel
theorem d_L_law_232 : decode code 232 = .ok (.iadd, 1) := by decide +kernel
theorem d_L_law_233 : decode code 233 = .ok (.iaload, 1) := by decide +kernel
theorem d_L_law_234 : decode code 234 = .ok (.aload_n 0, 1) := by decide +kernel
theorem d_L_law_235 : decode code 235 = .ok (.iload 4, 2) := by decide +kernel
theorem d_L_law_237 : decode code 237 = .ok (.iconst 2, 1) := by decide +kernel
theorem d_L_law_238 : decode code 238 = .ok (.iadd, 1) := by decide +kernel
theorem d_L_law_239 : decode code 239 = .ok (.iaload, 1) := by decide +kernel
theorem d_L_law_240 : decode code 240 = .ok (.aload_n 0, 1) := by decide +kernel
theorem d_L_law_241 : decode code 241 = .ok (.iload 4, 2) := by decide +kernel
theorem d_L_law_243 : decode code 243 = .ok (.iconst 3, 1) := by decide +kernel
theorem d_L_law_244 : decode code 244 = .ok (.iadd, 1) := by decide +kernel
theorem d_L_law_245 : decode code 245 = .ok (.iaload, 1) := by decide +kernel
theorem d_L_law_246 : decode code 246 = .ok (.aload_n 0, 1) := by decide +kernel
theorem d_L_law_247 : decode code 247 = .ok (.iload 4, 2) := by decide +kernel
theorem d_L_law_249 : decode code 249 = .ok (.iconst 4, 1) := by decide +kernel
theorem d_L_law_250 : decode code 250 = .ok (.iadd, 1) := by decide +kernel
theorem d_L_law_251 : decode code 251 = .ok (.iaload, 1) := by decide +kernel
theorem d_L_law_252 : decode code 252 = .ok (.invokevirtual 84, 3) := by decide +kernel
theorem d_L_law_255 : decode code 255 = .ok (.istore 6, 2) := by decide +kernel
theorem d_L_law_257 : decode code 257 = .ok (.aload_n 2, 1) := by decide +kernel
theorem d_L_law_258 : decode code 258 = .ok (.invokevirtual 78, 3) := by decide +kernel
theorem d_L_law_261 : decode code 261 = .ok (.iload 5, 2) := by decide +kernel
theorem d_L_law_263 : decode code 263 = .ok (.if_icmp .eq 5, 3) := by decide +kernel
theorem d_L_law_268 : decode code 268 = .ok (.iload 5, 2) := by decide +kernel
theorem d_L_law_270 : decode code 270 = .ok (.ifCond .ne 15, 3) := by decide +kernel
theorem d_L_law_285 : decode code 285 = .ok (.goto 753, 3) := by decide +kernel
theorem d_L_law_273 : decode code 273 = .ok (.aload_n 3, 1) := by decide +kernel
theorem d_L_law_274 : decode code 274 = .ok (.iconst 0, 1) := by decide +kernel
theorem d_L_law_275 : decode code 275 = .ok (.laload, 1) := by decide +kernel
theorem d_L_law_276 : decode code 276 = .ok (.iload 6, 2) := by decide +kernel
theorem d_L_law_278 : decode code 278 = .ok (.i2l, 1) := by decide +kernel
theorem d_L_law_279 : decode code 279 = .ok (.lcmp, 1) := by decide +kernel
theorem d_L_law_280 : decode code 280 = .ok (.ifCond .eq 5, 3) := by decide +kernel
theorem d_L_law_288 : decode code 288 = .ok (.aload_n 1, 1) := by decide +kernel
theorem d_L_law_289 : decode code 289 = .ok (.aload_n 0, 1) := by decide +kernel
theorem d_L_law_290 : decode code 290 = .ok (.iload 4, 2) := by decide +kernel
theorem d_L_law_292 : decode code 292 = .ok (.iconst 1, 1) := by decide +kernel
theorem d_L_law_293 : decode code 293 = .ok (.iadd, 1) := by decide +kernel
theorem d_L_law_294 : decode code 294 = .ok (.iaload, 1) := by decide +kernel
theorem d_L_law_295 : decode code 295 = .ok (.aload_n 3, 1) := by decide +kernel
theorem d_L_law_296 : decode code 296 = .ok (.invokestatic 85, 3) := by decide +kernel
theorem d_L_law_299 : decode code 299 = .ok (.istore 5, 2) := by decide +kernel
theorem d_L_law_301 : decode code 301 = .ok (.aload_n 2, 1) := by decide +kernel
theorem d_L_law_302 : decode code 302 = .ok (.aload_n 0, 1) := by decide +kernel
theorem d_L_law_303 : decode code 303 = .ok (.iload 4, 2) := by decide +kernel
theorem d_L_law_305 : decode code 305 = .ok (.iconst 1, 1) := by decide +kernel
theorem d_L_law_306 : decode code 306 = .ok (.iadd, 1) := by decide +kernel
theorem d_L_law_307 : decode code 307 = .ok (.iaload, 1) := by decide +kernel
theorem d_L_law_308 : decode code 308 = .ok (.invokevirtual 88, 3) := by decide +kernel
theorem d_L_law_311 : decode code 311 = .ok (.istore 6, 2) := by decide +kernel
theorem d_L_law_313 : decode code 313 = .ok (.aload_n 2, 1) := by decide +kernel
theorem d_L_law_314 : decode code 314 = .ok (.invokevirtual 78, 3) := by decide +kernel
theorem d_L_law_317 : decode code 317 = .ok (.iload 5, 2) := by decide +kernel
theorem d_L_law_319 : decode code 319 = .ok (.if_icmp .eq 5, 3) := by decide +kernel
theorem d_L_law_324 : decode code 324 = .ok (.iload 5, 2) := by decide +kernel
theorem d_L_law_326 : decode code 326 = .ok (.ifCond .ne 15, 3) := by decide +kernel
theorem d_L_law_341 : decode code 341 = .ok (.goto 697, 3) := by decide +kernel
theorem d_L_law_329 : decode code 329 = .ok (.aload_n 3, 1) := by decide +kernel
theorem d_L_law_330 : decode code 330 = .ok (.iconst 0, 1) := by decide +kernel
theorem d_L_law_331 : decode code 331 = .ok (.laload, 1) := by decide +kernel
theorem d_L_law_332 : decode code 332 = .ok (.iload 6, 2) := by decide +kernel
theorem d_L_law_334 : decode code 334 = .ok (.i2l, 1) := by decide +kernel
theorem d_L_law_335 : decode code 335 = .ok (.lcmp, 1) := by decide +kernel
theorem d_L_law_336 : decode code 336 = .ok (.ifCond .eq 5, 3) := by decide +kernel
theorem d_L_law_344 : decode code 344 = .ok (.aload_n 1, 1) := by decide +kernel
theorem d_L_law_345 : decode code 345 = .ok (.aload_n 0, 1) := by decide +kernel
theorem d_L_law_346 : decode code 346 = .ok (.iload 4, 2) := by decide +kernel
theorem d_L_law_348 : decode code 348 = .ok (.iconst 1, 1) := by decide +kernel
theorem d_L_law_349 : decode code 349 = .ok (.iadd, 1) := by decide +kernel
theorem d_L_law_350 : decode code 350 = .ok (.iaload, 1) := by decide +kernel
theorem d_L_law_351 : decode code 351 = .ok (.aload_n 0, 1) := by decide +kernel
theorem d_L_law_352 : decode code 352 = .ok (.iload 4, 2) := by decide +kernel
theorem d_L_law_354 : decode code 354 = .ok (.iconst 2, 1) := by decide +kernel
theorem d_L_law_355 : decode code 355 = .ok (.iadd, 1) := by decide +kernel
theorem d_L_law_356 : decode code 356 = .ok (.iaload, 1) := by decide +kernel
theorem d_L_law_357 : decode code 357 = .ok (.aload_n 3, 1) := by decide +kernel
theorem d_L_law_358 : decode code 358 = .ok (.invokestatic 89, 3) := by decide +kernel
theorem d_L_law_361 : decode code 361 = .ok (.istore 5, 2) := by decide +kernel
theorem d_L_law_363 : decode code 363 = .ok (.aload_n 2, 1) := by decide +kernel
theorem d_L_law_364 : decode code 364 = .ok (.aload_n 0, 1) := by decide +kernel
theorem d_L_law_365 : decode code 365 = .ok (.iload 4, 2) := by decide +kernel
theorem d_L_law_367 : decode code 367 = .ok (.iconst 1, 1) := by decide +kernel
theorem d_L_law_368 : decode code 368 = .ok (.iadd, 1) := by decide +kernel
theorem d_L_law_369 : decode code 369 = .ok (.iaload, 1) := by decide +kernel
theorem d_L_law_370 : decode code 370 = .ok (.aload_n 0, 1) := by decide +kernel
theorem d_L_law_371 : decode code 371 = .ok (.iload 4, 2) := by decide +kernel
theorem d_L_law_373 : decode code 373 = .ok (.iconst 2, 1) := by decide +kernel
theorem d_L_law_374 : decode code 374 = .ok (.iadd, 1) := by decide +kernel
theorem d_L_law_375 : decode code 375 = .ok (.iaload, 1) := by decide +kernel
theorem d_L_law_376 : decode code 376 = .ok (.invokevirtual 91, 3) := by decide +kernel
theorem d_L_law_379 : decode code 379 = .ok (.istore 6, 2) := by decide +kernel
theorem d_L_law_381 : decode code 381 = .ok (.aload_n 2, 1) := by decide +kernel
theorem d_L_law_382 : decode code 382 = .ok (.invokevirtual 78, 3) := by decide +kernel
theorem d_L_law_385 : decode code 385 = .ok (.iload 5, 2) := by decide +kernel
theorem d_L_law_387 : decode code 387 = .ok (.if_icmp .eq 5, 3) := by decide +kernel
theorem d_L_law_392 : decode code 392 = .ok (.iload 5, 2) := by decide +kernel
theorem d_L_law_394 : decode code 394 = .ok (.ifCond .ne 15, 3) := by decide +kernel
theorem d_L_law_409 : decode code 409 = .ok (.goto 629, 3) := by decide +kernel
theorem d_L_law_397 : decode code 397 = .ok (.aload_n 3, 1) := by decide +kernel
theorem d_L_law_398 : decode code 398 = .ok (.iconst 0, 1) := by decide +kernel
theorem d_L_law_399 : decode code 399 = .ok (.laload, 1) := by decide +kernel
theorem d_L_law_400 : decode code 400 = .ok (.iload 6, 2) := by decide +kernel
theorem d_L_law_402 : decode code 402 = .ok (.i2l, 1) := by decide +kernel
theorem d_L_law_403 : decode code 403 = .ok (.lcmp, 1) := by decide +kernel
theorem d_L_law_404 : decode code 404 = .ok (.ifCond .eq 5, 3) := by decide +kernel
set_option maxHeartbeats 4000000 in
set_option maxRecDepth 100000 in
theorem l_case_0 {p : Program} {e : Env} {s : State} {m : MethodId} {below : List Frame} {meth : Method} {c : Code} (l : Launch) {b L : Nat} {xs : Nat → Int32} (hL6 : L = 6) (C0 : lw_At p s m meth c b L xs) (G : x_G) (hs0 : x_s0 G = s.heap.size) (hl9 : l.stackTraces = false) (n : Nat) (hn : n ≤ 40) (hK : va_K (x_D G) vwCl (x_ty G) s) (hG : x_GV G s s.heap) (ax am : Nat → Nat) (zm : x_St) (hm : m_fr n zm) (H : Heap) (locs : List Loc) (ls : Array Slot) (hP : va_P (x_D G) vwCl (x_Wd (g_X G ax am n zm) (x_z0 n)) H) (hD : va_D (x_A G) (x_Wd (g_X G ax am n zm) (x_z0 n))) (hS : va_S (x_A G) s.heap H locs) (hl : lv_has ls 8 [(0, .ref b), (1, .ref (ax 0)), (2, .ref (am 0)), (3, .ref (ax 110)), (4, .int (1 : Int32))]) : W p l e room_1 s m #[Value.ref b] below meth c H locs 137 9525 (lw_Z below #[Value.ref b] s) (F0 m 128 ls []) := by
  obtain ⟨hx, hb, hr, hml, hown, hts9, hX, hbl, hlocks, hgv⟩ := id C0
  have hown : s.vm.findClass "ContentLibraryLaw" = some m.cls := hown
  have hts : ∀ w ∈ x_big, w.before #[Value.ref b] s = true := fun w h => hts9 w (x_bg h).1
  have hbA : ¬ x_A G b := fun h => absurd (show x_s0 G ≤ b from h) (by omega)
  have hz : x_s0 G ≤ s.heap.size := Nat.le_of_eq hs0
  have hG1 : ∀ (ad : Nat → Nat) (n : Nat) (rs : va_W), x_GV (x_mk G ad n rs) s s.heap := fun _ _ _ => hG
  refine lv_aload_n hx hb d_L_law_128 rfl (lv_at hl 1 rfl) ?_
  refine lv_aload_n hx hb d_L_law_129 rfl (lv_at hl 0 rfl) ?_
  refine lv_iload hx hb d_L_law_130 (lv_at hl 4 rfl) ?_
  refine lv_iconst (v := (1 : Int32)) hx hb d_L_law_132 (by decide) ?_
  refine lv_iadd hx hb d_L_law_133 ?_
  refine va_sld hx hb hX hbl hbA hS (i := ((1 : Int32) + (1 : Int32))) (by rw [hL6]; exact v_d (by decide)) d_L_law_134 ?_
  refine lv_aload_n hx hb d_L_law_135 rfl (lv_at hl 0 rfl) ?_
  refine lv_iload hx hb d_L_law_136 (lv_at hl 4 rfl) ?_
  refine lv_iconst (v := (2 : Int32)) hx hb d_L_law_138 (by decide) ?_
  refine lv_iadd hx hb d_L_law_139 ?_
  refine va_sld hx hb hX hbl hbA hS (i := ((1 : Int32) + (2 : Int32))) (by rw [hL6]; exact v_d (by decide)) d_L_law_140 ?_
  refine lv_aload_n hx hb d_L_law_141 rfl (lv_at hl 3 rfl) ?_
  obtain ⟨r1, z1, b1, zm1, hq1, hq2, hth, hout⟩ := v_picture (x_fr0 n) hm (xs (((1 : Int32) + (1 : Int32))).toNatClampNeg) (xs (((1 : Int32) + (2 : Int32))).toNatClampNeg)
  refine va_calli (e_runSW (n := 4) (As := [.ref (ax 0), .int (xs (((1 : Int32) + (1 : Int32))).toNatClampNeg), .int (xs (((1 : Int32) + (2 : Int32))).toNatClampNeg), .ref (ax 110)]) (rest := []) ⟨hx, hb, hml, hown, hts⟩ (fun _ h => h) (c_L_picture l (g_X G ax am n zm) hl9 (xs (((1 : Int32) + (1 : Int32))).toNatClampNeg) (xs (((1 : Int32) + (2 : Int32))).toNatClampNeg) (x_z0 n) r1 z1 hq1) t_325 t_326 t_0 t_327 rfl rfl ⟨by decide, by decide, by decide +kernel⟩ ⟨Nat.le_of_ble_eq_true rfl, Nat.le_of_ble_eq_true rfl⟩ ⟨x_blind _ _ _, fun U hU hW => ⟨rfl, x_pw hP hD hK (hG1 _ _ _) hS hz hU hW⟩⟩ rfl rfl hl.1 rfl (lv_room (Nat.le_of_ble_eq_true rfl)) d_L_law_142 ⟨Nat.le_of_ble_eq_true rfl, Nat.le_of_ble_eq_true rfl⟩) hS (fun q _ h => h) (fun q h => h) (fun ra u t H locs ht hvm hw hB _ _ hS => ?_)
  obtain ⟨rfl, rfl⟩ := hw
  obtain ⟨hP, hD⟩ := x_back hB ht
  refine lv_istore (lv' := [(5, .int r1), (0, .ref b), (1, .ref (ax 0)), (2, .ref (am 0)), (3, .ref (ax 110)), (4, .int (1 : Int32))]) hx hb d_L_law_145 hl (by decide) rfl (fun ls hl => ?_)
  refine lv_aload_n hx hb d_L_law_147 rfl (lv_at hl 3 rfl) ?_
  refine lv_aload_n hx hb d_L_law_148 rfl (lv_at hl 1 rfl) ?_
  refine lv_iload hx hb d_L_law_149 (lv_at hl 5 rfl) ?_
  refine lv_iconst (v := (1 : Int32)) hx hb d_L_law_151 (by decide) ?_
  refine lv_iadd hx hb d_L_law_152 ?_
  refine va_sld hx hb hX hbl hbA hS (i := ((1 : Int32) + (1 : Int32))) (by rw [hL6]; exact v_d (by decide)) d_L_law_153 ?_
  refine lv_aload_n hx hb d_L_law_154 rfl (lv_at hl 1 rfl) ?_
  refine lv_iload hx hb d_L_law_155 (lv_at hl 5 rfl) ?_
  refine lv_iconst (v := (2 : Int32)) hx hb d_L_law_157 (by decide) ?_
  refine lv_iadd hx hb d_L_law_158 ?_
  refine va_sld hx hb hX hbl hbA hS (i := ((1 : Int32) + (2 : Int32))) (by rw [hL6]; exact v_d (by decide)) d_L_law_159 ?_
  obtain ⟨hP, hD⟩ := l_toM hP hD
  refine va_calli (va_runV (As := [.int (xs (((1 : Int32) + (1 : Int32))).toNatClampNeg), .int (xs (((1 : Int32) + (2 : Int32))).toNatClampNeg)]) (rest := []) ⟨hx, hb, hml, hown, hts⟩ (c_M_picture l (g_M G ax am n z1) (xs (((1 : Int32) + (1 : Int32))).toNatClampNeg) (xs (((1 : Int32) + (2 : Int32))).toNatClampNeg) zm b1 zm1 hq2) (cwV 2 hts (x_gV t_771 t_772 t_773 t_7 t_774) rfl rfl rfl (by decide +kernel) ⟨Nat.le_of_ble_eq_true rfl, Nat.le_of_ble_eq_true rfl⟩) ⟨m_blind _ _ _, va_recv hK hP (ci := 5) (q0 := 0) rfl (m_lk_M (g_M G ax am n z1) _), fun U hU hW => ⟨rfl, m_pw hP hD hK trivial hS hz hU hW⟩⟩ rfl rfl hl.1 rfl (lv_room (Nat.le_of_ble_eq_true rfl)) d_L_law_160 ⟨Nat.le_of_ble_eq_true rfl, Nat.le_of_ble_eq_true rfl⟩) hS (fun q _ h => h) (fun q h => h) (fun ra u t H locs ht hvm hw hB _ _ hS => ?_)
  obtain ⟨rfl, rfl⟩ := hw
  obtain ⟨hP, hD⟩ := m_back hB ht
  refine lv_istore (lv' := [(6, .int b1), (5, .int r1), (0, .ref b), (1, .ref (ax 0)), (2, .ref (am 0)), (3, .ref (ax 110)), (4, .int (1 : Int32))]) hx hb d_L_law_163 hl (by decide) rfl (fun ls hl => ?_)
  refine lv_aload_n hx hb d_L_law_165 rfl (lv_at hl 4 rfl) ?_
  refine va_calli (va_runV (As := []) (rest := []) ⟨hx, hb, hml, hown, hts⟩ (c_M_thrown l (g_M G ax am n z1) zm1 (zm1.1 0 0) zm1 rfl) (cwV 0 hts (x_gV t_767 t_768 t_769 t_7 t_770) rfl rfl rfl (by decide +kernel) ⟨Nat.le_of_ble_eq_true rfl, Nat.le_of_ble_eq_true rfl⟩) ⟨m_blind _ _ _, va_recv hK hP (ci := 5) (q0 := 0) rfl (m_lk_M (g_M G ax am n z1) _), fun U hU hW => ⟨rfl, m_pw hP hD hK trivial hS hz hU hW⟩⟩ rfl rfl hl.1 rfl (lv_room (Nat.le_of_ble_eq_true rfl)) d_L_law_166 ⟨Nat.le_of_ble_eq_true rfl, Nat.le_of_ble_eq_true rfl⟩) hS (fun q _ h => h) (fun q h => h) (fun ra u t H locs ht hvm hw hB _ _ hS => ?_)
  obtain ⟨hw1, hw2⟩ := hw
  subst hw1
  rw [← hw2] at hB
  obtain ⟨hP, hD⟩ := m_back hB ht
  refine lv_iload hx hb d_L_law_169 (lv_at hl 1 rfl) ?_
  refine lv_icmp_eq (tgt := 176) hx hb d_L_law_171 (by decide) (fun _ => ?_) (fun hc => absurd hth hc)
  refine lv_iload hx hb d_L_law_176 (lv_at hl 1 rfl) ?_
  refine lv_if_ne (tgt := 193) hx hb d_L_law_178 (by decide) (fun _ => ?_) (fun hc0 => ?_)
  · refine lv_goto (tgt := 1038) hx hb d_L_law_193 (by decide) ?_
    refine W.widen (k := 600) (n := 20000) (Nat.le_of_ble_eq_true rfl) (Nat.le_of_ble_eq_true rfl) ?_
    exact l_tail l hL6 C0 G hs0 _ _ _ hS (lv_sub hl [2, 6] rfl)
  · refine lv_aload_n hx hb d_L_law_181 rfl (lv_at hl 5 rfl) ?_
    refine lv_iconst (v := (0 : Int32)) hx hb d_L_law_182 (by decide) ?_
    obtain ⟨hP, hD⟩ := l_toX hP hD
    refine va_lald hx hb hK hP 110 4 (x_lk_O (g_X G ax am n zm1) _) rfl (i := (0 : Int32)) (v_d (by decide)) d_L_law_183 ?_
    refine lv_iload hx hb d_L_law_184 (lv_at hl 0 rfl) ?_
    refine lv_i2l (v := (b1).toInt64) hx hb d_L_law_186 rfl ?_
    refine W.lcmp hx hb d_L_law_187 ?_
    refine lv_if_eq (tgt := 193) hx hb d_L_law_188 (by decide) (fun _ => ?_) (fun hc => absurd (l_cmp (hout hc0)) hc)
    refine lv_goto (tgt := 1038) hx hb d_L_law_193 (by decide) ?_
    refine W.widen (k := 600) (n := 20000) (Nat.le_of_ble_eq_true rfl) (Nat.le_of_ble_eq_true rfl) ?_
    exact l_tail l hL6 C0 G hs0 _ _ _ hS (lv_sub hl [2, 6] rfl)
set_option maxHeartbeats 4000000 in
set_option maxRecDepth 100000 in
theorem l_case_1 {p : Program} {e : Env} {s : State} {m : MethodId} {below : List Frame} {meth : Method} {c : Code} (l : Launch) {b L : Nat} {xs : Nat → Int32} (hL6 : L = 6) (C0 : lw_At p s m meth c b L xs) (G : x_G) (hs0 : x_s0 G = s.heap.size) (hl9 : l.stackTraces = false) (n : Nat) (hn : n ≤ 40) (hK : va_K (x_D G) vwCl (x_ty G) s) (hG : x_GV G s s.heap) (ax am : Nat → Nat) (zm : x_St) (hm : m_fr n zm) (H : Heap) (locs : List Loc) (ls : Array Slot) (hP : va_P (x_D G) vwCl (x_Wd (g_X G ax am n zm) (x_z0 n)) H) (hD : va_D (x_A G) (x_Wd (g_X G ax am n zm) (x_z0 n))) (hS : va_S (x_A G) s.heap H locs) (hl : lv_has ls 8 [(0, .ref b), (1, .ref (ax 0)), (2, .ref (am 0)), (3, .ref (ax 110)), (4, .int (1 : Int32))]) : W p l e room_1 s m #[Value.ref b] below meth c H locs 137 9525 (lw_Z below #[Value.ref b] s) (F0 m 196 ls []) := by
  obtain ⟨hx, hb, hr, hml, hown, hts9, hX, hbl, hlocks, hgv⟩ := id C0
  have hown : s.vm.findClass "ContentLibraryLaw" = some m.cls := hown
  have hts : ∀ w ∈ x_big, w.before #[Value.ref b] s = true := fun w h => hts9 w (x_bg h).1
  have hbA : ¬ x_A G b := fun h => absurd (show x_s0 G ≤ b from h) (by omega)
  have hz : x_s0 G ≤ s.heap.size := Nat.le_of_eq hs0
  have hG1 : ∀ (ad : Nat → Nat) (n : Nat) (rs : va_W), x_GV (x_mk G ad n rs) s s.heap := fun _ _ _ => hG
  refine lv_aload_n hx hb d_L_law_196 rfl (lv_at hl 1 rfl) ?_
  refine lv_aload_n hx hb d_L_law_197 rfl (lv_at hl 0 rfl) ?_
  refine lv_iload hx hb d_L_law_198 (lv_at hl 4 rfl) ?_
  refine lv_iconst (v := (1 : Int32)) hx hb d_L_law_200 (by decide) ?_
  refine lv_iadd hx hb d_L_law_201 ?_
  refine va_sld hx hb hX hbl hbA hS (i := ((1 : Int32) + (1 : Int32))) (by rw [hL6]; exact v_d (by decide)) d_L_law_202 ?_
  refine lv_aload_n hx hb d_L_law_203 rfl (lv_at hl 0 rfl) ?_
  refine lv_iload hx hb d_L_law_204 (lv_at hl 4 rfl) ?_
  refine lv_iconst (v := (2 : Int32)) hx hb d_L_law_206 (by decide) ?_
  refine lv_iadd hx hb d_L_law_207 ?_
  refine va_sld hx hb hX hbl hbA hS (i := ((1 : Int32) + (2 : Int32))) (by rw [hL6]; exact v_d (by decide)) d_L_law_208 ?_
  refine lv_aload_n hx hb d_L_law_209 rfl (lv_at hl 0 rfl) ?_
  refine lv_iload hx hb d_L_law_210 (lv_at hl 4 rfl) ?_
  refine lv_iconst (v := (3 : Int32)) hx hb d_L_law_212 (by decide) ?_
  refine lv_iadd hx hb d_L_law_213 ?_
  refine va_sld hx hb hX hbl hbA hS (i := ((1 : Int32) + (3 : Int32))) (by rw [hL6]; exact v_d (by decide)) d_L_law_214 ?_
  refine lv_aload_n hx hb d_L_law_215 rfl (lv_at hl 0 rfl) ?_
  refine lv_iload hx hb d_L_law_216 (lv_at hl 4 rfl) ?_
  refine lv_iconst (v := (4 : Int32)) hx hb d_L_law_218 (by decide) ?_
  refine lv_iadd hx hb d_L_law_219 ?_
  refine va_sld hx hb hX hbl hbA hS (i := ((1 : Int32) + (4 : Int32))) (by rw [hL6]; exact v_d (by decide)) d_L_law_220 ?_
  refine lv_aload_n hx hb d_L_law_221 rfl (lv_at hl 3 rfl) ?_
  obtain ⟨r1, z1, b1, zm1, hq1, hq2, hth, hout⟩ := v_samples (x_fr0 n) hm (xs (((1 : Int32) + (1 : Int32))).toNatClampNeg) (xs (((1 : Int32) + (2 : Int32))).toNatClampNeg) (xs (((1 : Int32) + (3 : Int32))).toNatClampNeg) (xs (((1 : Int32) + (4 : Int32))).toNatClampNeg)
  refine va_calli (e_runSW (n := 6) (As := [.ref (ax 0), .int (xs (((1 : Int32) + (1 : Int32))).toNatClampNeg), .int (xs (((1 : Int32) + (2 : Int32))).toNatClampNeg), .int (xs (((1 : Int32) + (3 : Int32))).toNatClampNeg), .int (xs (((1 : Int32) + (4 : Int32))).toNatClampNeg), .ref (ax 110)]) (rest := []) ⟨hx, hb, hml, hown, hts⟩ (fun _ h => h) (c_L_samples l (g_X G ax am n zm) hl9 (xs (((1 : Int32) + (1 : Int32))).toNatClampNeg) (xs (((1 : Int32) + (2 : Int32))).toNatClampNeg) (xs (((1 : Int32) + (3 : Int32))).toNatClampNeg) (xs (((1 : Int32) + (4 : Int32))).toNatClampNeg) (x_z0 n) r1 z1 hq1) t_445 t_446 t_0 t_447 rfl rfl ⟨by decide, by decide, by decide +kernel⟩ ⟨Nat.le_of_ble_eq_true rfl, Nat.le_of_ble_eq_true rfl⟩ ⟨x_blind _ _ _, fun U hU hW => ⟨rfl, x_pw hP hD hK (hG1 _ _ _) hS hz hU hW⟩⟩ rfl rfl hl.1 rfl (lv_room (Nat.le_of_ble_eq_true rfl)) d_L_law_222 ⟨Nat.le_of_ble_eq_true rfl, Nat.le_of_ble_eq_true rfl⟩) hS (fun q _ h => h) (fun q h => h) (fun ra u t H locs ht hvm hw hB _ _ hS => ?_)
  obtain ⟨rfl, rfl⟩ := hw
  obtain ⟨hP, hD⟩ := x_back hB ht
  refine lv_istore (lv' := [(5, .int r1), (0, .ref b), (1, .ref (ax 0)), (2, .ref (am 0)), (3, .ref (ax 110)), (4, .int (1 : Int32))]) hx hb d_L_law_225 hl (by decide) rfl (fun ls hl => ?_)
  refine lv_aload_n hx hb d_L_law_227 rfl (lv_at hl 3 rfl) ?_
  refine lv_aload_n hx hb d_L_law_228 rfl (lv_at hl 1 rfl) ?_
  refine lv_iload hx hb d_L_law_229 (lv_at hl 5 rfl) ?_
  refine lv_iconst (v := (1 : Int32)) hx hb d_L_law_231 (by decide) ?_
  refine lv_iadd hx hb d_L_law_232 ?_
  refine va_sld hx hb hX hbl hbA hS (i := ((1 : Int32) + (1 : Int32))) (by rw [hL6]; exact v_d (by decide)) d_L_law_233 ?_
  refine lv_aload_n hx hb d_L_law_234 rfl (lv_at hl 1 rfl) ?_
  refine lv_iload hx hb d_L_law_235 (lv_at hl 5 rfl) ?_
  refine lv_iconst (v := (2 : Int32)) hx hb d_L_law_237 (by decide) ?_
  refine lv_iadd hx hb d_L_law_238 ?_
  refine va_sld hx hb hX hbl hbA hS (i := ((1 : Int32) + (2 : Int32))) (by rw [hL6]; exact v_d (by decide)) d_L_law_239 ?_
  refine lv_aload_n hx hb d_L_law_240 rfl (lv_at hl 1 rfl) ?_
  refine lv_iload hx hb d_L_law_241 (lv_at hl 5 rfl) ?_
  refine lv_iconst (v := (3 : Int32)) hx hb d_L_law_243 (by decide) ?_
  refine lv_iadd hx hb d_L_law_244 ?_
  refine va_sld hx hb hX hbl hbA hS (i := ((1 : Int32) + (3 : Int32))) (by rw [hL6]; exact v_d (by decide)) d_L_law_245 ?_
  refine lv_aload_n hx hb d_L_law_246 rfl (lv_at hl 1 rfl) ?_
  refine lv_iload hx hb d_L_law_247 (lv_at hl 5 rfl) ?_
  refine lv_iconst (v := (4 : Int32)) hx hb d_L_law_249 (by decide) ?_
  refine lv_iadd hx hb d_L_law_250 ?_
  refine va_sld hx hb hX hbl hbA hS (i := ((1 : Int32) + (4 : Int32))) (by rw [hL6]; exact v_d (by decide)) d_L_law_251 ?_
  obtain ⟨hP, hD⟩ := l_toM hP hD
  refine va_calli (va_runV (As := [.int (xs (((1 : Int32) + (1 : Int32))).toNatClampNeg), .int (xs (((1 : Int32) + (2 : Int32))).toNatClampNeg), .int (xs (((1 : Int32) + (3 : Int32))).toNatClampNeg), .int (xs (((1 : Int32) + (4 : Int32))).toNatClampNeg)]) (rest := []) ⟨hx, hb, hml, hown, hts⟩ (c_M_samples l (g_M G ax am n z1) (xs (((1 : Int32) + (1 : Int32))).toNatClampNeg) (xs (((1 : Int32) + (2 : Int32))).toNatClampNeg) (xs (((1 : Int32) + (3 : Int32))).toNatClampNeg) (xs (((1 : Int32) + (4 : Int32))).toNatClampNeg) zm b1 zm1 hq2) (cwV 4 hts (x_gV t_775 t_776 t_777 t_7 t_778) rfl rfl rfl (by decide +kernel) ⟨Nat.le_of_ble_eq_true rfl, Nat.le_of_ble_eq_true rfl⟩) ⟨m_blind _ _ _, va_recv hK hP (ci := 5) (q0 := 0) rfl (m_lk_M (g_M G ax am n z1) _), fun U hU hW => ⟨rfl, m_pw hP hD hK trivial hS hz hU hW⟩⟩ rfl rfl hl.1 rfl (lv_room (Nat.le_of_ble_eq_true rfl)) d_L_law_252 ⟨Nat.le_of_ble_eq_true rfl, Nat.le_of_ble_eq_true rfl⟩) hS (fun q _ h => h) (fun q h => h) (fun ra u t H locs ht hvm hw hB _ _ hS => ?_)
  obtain ⟨rfl, rfl⟩ := hw
  obtain ⟨hP, hD⟩ := m_back hB ht
  refine lv_istore (lv' := [(6, .int b1), (5, .int r1), (0, .ref b), (1, .ref (ax 0)), (2, .ref (am 0)), (3, .ref (ax 110)), (4, .int (1 : Int32))]) hx hb d_L_law_255 hl (by decide) rfl (fun ls hl => ?_)
  refine lv_aload_n hx hb d_L_law_257 rfl (lv_at hl 4 rfl) ?_
  refine va_calli (va_runV (As := []) (rest := []) ⟨hx, hb, hml, hown, hts⟩ (c_M_thrown l (g_M G ax am n z1) zm1 (zm1.1 0 0) zm1 rfl) (cwV 0 hts (x_gV t_767 t_768 t_769 t_7 t_770) rfl rfl rfl (by decide +kernel) ⟨Nat.le_of_ble_eq_true rfl, Nat.le_of_ble_eq_true rfl⟩) ⟨m_blind _ _ _, va_recv hK hP (ci := 5) (q0 := 0) rfl (m_lk_M (g_M G ax am n z1) _), fun U hU hW => ⟨rfl, m_pw hP hD hK trivial hS hz hU hW⟩⟩ rfl rfl hl.1 rfl (lv_room (Nat.le_of_ble_eq_true rfl)) d_L_law_258 ⟨Nat.le_of_ble_eq_true rfl, Nat.le_of_ble_eq_true rfl⟩) hS (fun q _ h => h) (fun q h => h) (fun ra u t H locs ht hvm hw hB _ _ hS => ?_)
  obtain ⟨hw1, hw2⟩ := hw
  subst hw1
  rw [← hw2] at hB
  obtain ⟨hP, hD⟩ := m_back hB ht
  refine lv_iload hx hb d_L_law_261 (lv_at hl 1 rfl) ?_
  refine lv_icmp_eq (tgt := 268) hx hb d_L_law_263 (by decide) (fun _ => ?_) (fun hc => absurd hth hc)
  refine lv_iload hx hb d_L_law_268 (lv_at hl 1 rfl) ?_
  refine lv_if_ne (tgt := 285) hx hb d_L_law_270 (by decide) (fun _ => ?_) (fun hc0 => ?_)
  · refine lv_goto (tgt := 1038) hx hb d_L_law_285 (by decide) ?_
    refine W.widen (k := 600) (n := 20000) (Nat.le_of_ble_eq_true rfl) (Nat.le_of_ble_eq_true rfl) ?_
    exact l_tail l hL6 C0 G hs0 _ _ _ hS (lv_sub hl [2, 6] rfl)
  · refine lv_aload_n hx hb d_L_law_273 rfl (lv_at hl 5 rfl) ?_
    refine lv_iconst (v := (0 : Int32)) hx hb d_L_law_274 (by decide) ?_
    obtain ⟨hP, hD⟩ := l_toX hP hD
    refine va_lald hx hb hK hP 110 4 (x_lk_O (g_X G ax am n zm1) _) rfl (i := (0 : Int32)) (v_d (by decide)) d_L_law_275 ?_
    refine lv_iload hx hb d_L_law_276 (lv_at hl 0 rfl) ?_
    refine lv_i2l (v := (b1).toInt64) hx hb d_L_law_278 rfl ?_
    refine W.lcmp hx hb d_L_law_279 ?_
    refine lv_if_eq (tgt := 285) hx hb d_L_law_280 (by decide) (fun _ => ?_) (fun hc => absurd (l_cmp (hout hc0)) hc)
    refine lv_goto (tgt := 1038) hx hb d_L_law_285 (by decide) ?_
    refine W.widen (k := 600) (n := 20000) (Nat.le_of_ble_eq_true rfl) (Nat.le_of_ble_eq_true rfl) ?_
    exact l_tail l hL6 C0 G hs0 _ _ _ hS (lv_sub hl [2, 6] rfl)
set_option maxHeartbeats 4000000 in
set_option maxRecDepth 100000 in
theorem l_case_2 {p : Program} {e : Env} {s : State} {m : MethodId} {below : List Frame} {meth : Method} {c : Code} (l : Launch) {b L : Nat} {xs : Nat → Int32} (hL6 : L = 6) (C0 : lw_At p s m meth c b L xs) (G : x_G) (hs0 : x_s0 G = s.heap.size) (hl9 : l.stackTraces = false) (n : Nat) (hn : n ≤ 40) (hK : va_K (x_D G) vwCl (x_ty G) s) (hG : x_GV G s s.heap) (ax am : Nat → Nat) (zm : x_St) (hm : m_fr n zm) (H : Heap) (locs : List Loc) (ls : Array Slot) (hP : va_P (x_D G) vwCl (x_Wd (g_X G ax am n zm) (x_z0 n)) H) (hD : va_D (x_A G) (x_Wd (g_X G ax am n zm) (x_z0 n))) (hS : va_S (x_A G) s.heap H locs) (hl : lv_has ls 8 [(0, .ref b), (1, .ref (ax 0)), (2, .ref (am 0)), (3, .ref (ax 110)), (4, .int (1 : Int32))]) : W p l e room_1 s m #[Value.ref b] below meth c H locs 137 9525 (lw_Z below #[Value.ref b] s) (F0 m 288 ls []) := by
  obtain ⟨hx, hb, hr, hml, hown, hts9, hX, hbl, hlocks, hgv⟩ := id C0
  have hown : s.vm.findClass "ContentLibraryLaw" = some m.cls := hown
  have hts : ∀ w ∈ x_big, w.before #[Value.ref b] s = true := fun w h => hts9 w (x_bg h).1
  have hbA : ¬ x_A G b := fun h => absurd (show x_s0 G ≤ b from h) (by omega)
  have hz : x_s0 G ≤ s.heap.size := Nat.le_of_eq hs0
  have hG1 : ∀ (ad : Nat → Nat) (n : Nat) (rs : va_W), x_GV (x_mk G ad n rs) s s.heap := fun _ _ _ => hG
  refine lv_aload_n hx hb d_L_law_288 rfl (lv_at hl 1 rfl) ?_
  refine lv_aload_n hx hb d_L_law_289 rfl (lv_at hl 0 rfl) ?_
  refine lv_iload hx hb d_L_law_290 (lv_at hl 4 rfl) ?_
  refine lv_iconst (v := (1 : Int32)) hx hb d_L_law_292 (by decide) ?_
  refine lv_iadd hx hb d_L_law_293 ?_
  refine va_sld hx hb hX hbl hbA hS (i := ((1 : Int32) + (1 : Int32))) (by rw [hL6]; exact v_d (by decide)) d_L_law_294 ?_
  refine lv_aload_n hx hb d_L_law_295 rfl (lv_at hl 3 rfl) ?_
  obtain ⟨r1, z1, b1, zm1, hq1, hq2, hth, hout⟩ := v_keep (x_fr0 n) hm (xs (((1 : Int32) + (1 : Int32))).toNatClampNeg)
  refine va_calli (e_runSW (n := 3) (As := [.ref (ax 0), .int (xs (((1 : Int32) + (1 : Int32))).toNatClampNeg), .ref (ax 110)]) (rest := []) ⟨hx, hb, hml, hown, hts⟩ (fun _ h => h) (c_L_keep l (g_X G ax am n zm) hl9 (xs (((1 : Int32) + (1 : Int32))).toNatClampNeg) (x_z0 n) r1 z1 hq1) t_479 t_480 t_0 t_481 rfl rfl ⟨by decide, by decide, by decide +kernel⟩ ⟨Nat.le_of_ble_eq_true rfl, Nat.le_of_ble_eq_true rfl⟩ ⟨x_blind _ _ _, fun U hU hW => ⟨rfl, x_pw hP hD hK (hG1 _ _ _) hS hz hU hW⟩⟩ rfl rfl hl.1 rfl (lv_room (Nat.le_of_ble_eq_true rfl)) d_L_law_296 ⟨Nat.le_of_ble_eq_true rfl, Nat.le_of_ble_eq_true rfl⟩) hS (fun q _ h => h) (fun q h => h) (fun ra u t H locs ht hvm hw hB _ _ hS => ?_)
  obtain ⟨rfl, rfl⟩ := hw
  obtain ⟨hP, hD⟩ := x_back hB ht
  refine lv_istore (lv' := [(5, .int r1), (0, .ref b), (1, .ref (ax 0)), (2, .ref (am 0)), (3, .ref (ax 110)), (4, .int (1 : Int32))]) hx hb d_L_law_299 hl (by decide) rfl (fun ls hl => ?_)
  refine lv_aload_n hx hb d_L_law_301 rfl (lv_at hl 3 rfl) ?_
  refine lv_aload_n hx hb d_L_law_302 rfl (lv_at hl 1 rfl) ?_
  refine lv_iload hx hb d_L_law_303 (lv_at hl 5 rfl) ?_
  refine lv_iconst (v := (1 : Int32)) hx hb d_L_law_305 (by decide) ?_
  refine lv_iadd hx hb d_L_law_306 ?_
  refine va_sld hx hb hX hbl hbA hS (i := ((1 : Int32) + (1 : Int32))) (by rw [hL6]; exact v_d (by decide)) d_L_law_307 ?_
  obtain ⟨hP, hD⟩ := l_toM hP hD
  refine va_calli (va_runV (As := [.int (xs (((1 : Int32) + (1 : Int32))).toNatClampNeg)]) (rest := []) ⟨hx, hb, hml, hown, hts⟩ (c_M_keep l (g_M G ax am n z1) (xs (((1 : Int32) + (1 : Int32))).toNatClampNeg) zm b1 zm1 hq2) (cwV 1 hts (x_gV t_787 t_788 t_789 t_7 t_790) rfl rfl rfl (by decide +kernel) ⟨Nat.le_of_ble_eq_true rfl, Nat.le_of_ble_eq_true rfl⟩) ⟨m_blind _ _ _, va_recv hK hP (ci := 5) (q0 := 0) rfl (m_lk_M (g_M G ax am n z1) _), fun U hU hW => ⟨rfl, m_pw hP hD hK trivial hS hz hU hW⟩⟩ rfl rfl hl.1 rfl (lv_room (Nat.le_of_ble_eq_true rfl)) d_L_law_308 ⟨Nat.le_of_ble_eq_true rfl, Nat.le_of_ble_eq_true rfl⟩) hS (fun q _ h => h) (fun q h => h) (fun ra u t H locs ht hvm hw hB _ _ hS => ?_)
  obtain ⟨rfl, rfl⟩ := hw
  obtain ⟨hP, hD⟩ := m_back hB ht
  refine lv_istore (lv' := [(6, .int b1), (5, .int r1), (0, .ref b), (1, .ref (ax 0)), (2, .ref (am 0)), (3, .ref (ax 110)), (4, .int (1 : Int32))]) hx hb d_L_law_311 hl (by decide) rfl (fun ls hl => ?_)
  refine lv_aload_n hx hb d_L_law_313 rfl (lv_at hl 4 rfl) ?_
  refine va_calli (va_runV (As := []) (rest := []) ⟨hx, hb, hml, hown, hts⟩ (c_M_thrown l (g_M G ax am n z1) zm1 (zm1.1 0 0) zm1 rfl) (cwV 0 hts (x_gV t_767 t_768 t_769 t_7 t_770) rfl rfl rfl (by decide +kernel) ⟨Nat.le_of_ble_eq_true rfl, Nat.le_of_ble_eq_true rfl⟩) ⟨m_blind _ _ _, va_recv hK hP (ci := 5) (q0 := 0) rfl (m_lk_M (g_M G ax am n z1) _), fun U hU hW => ⟨rfl, m_pw hP hD hK trivial hS hz hU hW⟩⟩ rfl rfl hl.1 rfl (lv_room (Nat.le_of_ble_eq_true rfl)) d_L_law_314 ⟨Nat.le_of_ble_eq_true rfl, Nat.le_of_ble_eq_true rfl⟩) hS (fun q _ h => h) (fun q h => h) (fun ra u t H locs ht hvm hw hB _ _ hS => ?_)
  obtain ⟨hw1, hw2⟩ := hw
  subst hw1
  rw [← hw2] at hB
  obtain ⟨hP, hD⟩ := m_back hB ht
  refine lv_iload hx hb d_L_law_317 (lv_at hl 1 rfl) ?_
  refine lv_icmp_eq (tgt := 324) hx hb d_L_law_319 (by decide) (fun _ => ?_) (fun hc => absurd hth hc)
  refine lv_iload hx hb d_L_law_324 (lv_at hl 1 rfl) ?_
  refine lv_if_ne (tgt := 341) hx hb d_L_law_326 (by decide) (fun _ => ?_) (fun hc0 => ?_)
  · refine lv_goto (tgt := 1038) hx hb d_L_law_341 (by decide) ?_
    refine W.widen (k := 600) (n := 20000) (Nat.le_of_ble_eq_true rfl) (Nat.le_of_ble_eq_true rfl) ?_
    exact l_tail l hL6 C0 G hs0 _ _ _ hS (lv_sub hl [2, 6] rfl)
  · refine lv_aload_n hx hb d_L_law_329 rfl (lv_at hl 5 rfl) ?_
    refine lv_iconst (v := (0 : Int32)) hx hb d_L_law_330 (by decide) ?_
    obtain ⟨hP, hD⟩ := l_toX hP hD
    refine va_lald hx hb hK hP 110 4 (x_lk_O (g_X G ax am n zm1) _) rfl (i := (0 : Int32)) (v_d (by decide)) d_L_law_331 ?_
    refine lv_iload hx hb d_L_law_332 (lv_at hl 0 rfl) ?_
    refine lv_i2l (v := (b1).toInt64) hx hb d_L_law_334 rfl ?_
    refine W.lcmp hx hb d_L_law_335 ?_
    refine lv_if_eq (tgt := 341) hx hb d_L_law_336 (by decide) (fun _ => ?_) (fun hc => absurd (l_cmp (hout hc0)) hc)
    refine lv_goto (tgt := 1038) hx hb d_L_law_341 (by decide) ?_
    refine W.widen (k := 600) (n := 20000) (Nat.le_of_ble_eq_true rfl) (Nat.le_of_ble_eq_true rfl) ?_
    exact l_tail l hL6 C0 G hs0 _ _ _ hS (lv_sub hl [2, 6] rfl)
set_option maxHeartbeats 4000000 in
set_option maxRecDepth 100000 in
theorem l_case_3 {p : Program} {e : Env} {s : State} {m : MethodId} {below : List Frame} {meth : Method} {c : Code} (l : Launch) {b L : Nat} {xs : Nat → Int32} (hL6 : L = 6) (C0 : lw_At p s m meth c b L xs) (G : x_G) (hs0 : x_s0 G = s.heap.size) (hl9 : l.stackTraces = false) (n : Nat) (hn : n ≤ 40) (hK : va_K (x_D G) vwCl (x_ty G) s) (hG : x_GV G s s.heap) (ax am : Nat → Nat) (zm : x_St) (hm : m_fr n zm) (H : Heap) (locs : List Loc) (ls : Array Slot) (hP : va_P (x_D G) vwCl (x_Wd (g_X G ax am n zm) (x_z0 n)) H) (hD : va_D (x_A G) (x_Wd (g_X G ax am n zm) (x_z0 n))) (hS : va_S (x_A G) s.heap H locs) (hl : lv_has ls 8 [(0, .ref b), (1, .ref (ax 0)), (2, .ref (am 0)), (3, .ref (ax 110)), (4, .int (1 : Int32))]) : W p l e room_1 s m #[Value.ref b] below meth c H locs 137 9525 (lw_Z below #[Value.ref b] s) (F0 m 344 ls []) := by
  obtain ⟨hx, hb, hr, hml, hown, hts9, hX, hbl, hlocks, hgv⟩ := id C0
  have hown : s.vm.findClass "ContentLibraryLaw" = some m.cls := hown
  have hts : ∀ w ∈ x_big, w.before #[Value.ref b] s = true := fun w h => hts9 w (x_bg h).1
  have hbA : ¬ x_A G b := fun h => absurd (show x_s0 G ≤ b from h) (by omega)
  have hz : x_s0 G ≤ s.heap.size := Nat.le_of_eq hs0
  have hG1 : ∀ (ad : Nat → Nat) (n : Nat) (rs : va_W), x_GV (x_mk G ad n rs) s s.heap := fun _ _ _ => hG
  refine lv_aload_n hx hb d_L_law_344 rfl (lv_at hl 1 rfl) ?_
  refine lv_aload_n hx hb d_L_law_345 rfl (lv_at hl 0 rfl) ?_
  refine lv_iload hx hb d_L_law_346 (lv_at hl 4 rfl) ?_
  refine lv_iconst (v := (1 : Int32)) hx hb d_L_law_348 (by decide) ?_
  refine lv_iadd hx hb d_L_law_349 ?_
  refine va_sld hx hb hX hbl hbA hS (i := ((1 : Int32) + (1 : Int32))) (by rw [hL6]; exact v_d (by decide)) d_L_law_350 ?_
  refine lv_aload_n hx hb d_L_law_351 rfl (lv_at hl 0 rfl) ?_
  refine lv_iload hx hb d_L_law_352 (lv_at hl 4 rfl) ?_
  refine lv_iconst (v := (2 : Int32)) hx hb d_L_law_354 (by decide) ?_
  refine lv_iadd hx hb d_L_law_355 ?_
  refine va_sld hx hb hX hbl hbA hS (i := ((1 : Int32) + (2 : Int32))) (by rw [hL6]; exact v_d (by decide)) d_L_law_356 ?_
  refine lv_aload_n hx hb d_L_law_357 rfl (lv_at hl 3 rfl) ?_
  obtain ⟨r1, z1, b1, zm1, hq1, hq2, hth, hout⟩ := v_digest (x_fr0 n) hm (xs (((1 : Int32) + (1 : Int32))).toNatClampNeg) (xs (((1 : Int32) + (2 : Int32))).toNatClampNeg)
  refine va_calli (e_runSW (n := 4) (As := [.ref (ax 0), .int (xs (((1 : Int32) + (1 : Int32))).toNatClampNeg), .int (xs (((1 : Int32) + (2 : Int32))).toNatClampNeg), .ref (ax 110)]) (rest := []) ⟨hx, hb, hml, hown, hts⟩ (fun _ h => h) (c_L_digest l (g_X G ax am n zm) hl9 (xs (((1 : Int32) + (1 : Int32))).toNatClampNeg) (xs (((1 : Int32) + (2 : Int32))).toNatClampNeg) (x_z0 n) r1 z1 hq1) t_551 t_552 t_0 t_553 rfl rfl ⟨by decide, by decide, by decide +kernel⟩ ⟨Nat.le_of_ble_eq_true rfl, Nat.le_of_ble_eq_true rfl⟩ ⟨x_blind _ _ _, fun U hU hW => ⟨rfl, x_pw hP hD hK (hG1 _ _ _) hS hz hU hW⟩⟩ rfl rfl hl.1 rfl (lv_room (Nat.le_of_ble_eq_true rfl)) d_L_law_358 ⟨Nat.le_of_ble_eq_true rfl, Nat.le_of_ble_eq_true rfl⟩) hS (fun q _ h => h) (fun q h => h) (fun ra u t H locs ht hvm hw hB _ _ hS => ?_)
  obtain ⟨rfl, rfl⟩ := hw
  obtain ⟨hP, hD⟩ := x_back hB ht
  refine lv_istore (lv' := [(5, .int r1), (0, .ref b), (1, .ref (ax 0)), (2, .ref (am 0)), (3, .ref (ax 110)), (4, .int (1 : Int32))]) hx hb d_L_law_361 hl (by decide) rfl (fun ls hl => ?_)
  refine lv_aload_n hx hb d_L_law_363 rfl (lv_at hl 3 rfl) ?_
  refine lv_aload_n hx hb d_L_law_364 rfl (lv_at hl 1 rfl) ?_
  refine lv_iload hx hb d_L_law_365 (lv_at hl 5 rfl) ?_
  refine lv_iconst (v := (1 : Int32)) hx hb d_L_law_367 (by decide) ?_
  refine lv_iadd hx hb d_L_law_368 ?_
  refine va_sld hx hb hX hbl hbA hS (i := ((1 : Int32) + (1 : Int32))) (by rw [hL6]; exact v_d (by decide)) d_L_law_369 ?_
  refine lv_aload_n hx hb d_L_law_370 rfl (lv_at hl 1 rfl) ?_
  refine lv_iload hx hb d_L_law_371 (lv_at hl 5 rfl) ?_
  refine lv_iconst (v := (2 : Int32)) hx hb d_L_law_373 (by decide) ?_
  refine lv_iadd hx hb d_L_law_374 ?_
  refine va_sld hx hb hX hbl hbA hS (i := ((1 : Int32) + (2 : Int32))) (by rw [hL6]; exact v_d (by decide)) d_L_law_375 ?_
  obtain ⟨hP, hD⟩ := l_toM hP hD
  refine va_calli (va_runV (As := [.int (xs (((1 : Int32) + (1 : Int32))).toNatClampNeg), .int (xs (((1 : Int32) + (2 : Int32))).toNatClampNeg)]) (rest := []) ⟨hx, hb, hml, hown, hts⟩ (c_M_digest l (g_M G ax am n z1) (xs (((1 : Int32) + (1 : Int32))).toNatClampNeg) (xs (((1 : Int32) + (2 : Int32))).toNatClampNeg) zm b1 zm1 hq2) (cwV 2 hts (x_gV t_846 t_847 t_848 t_7 t_849) rfl rfl rfl (by decide +kernel) ⟨Nat.le_of_ble_eq_true rfl, Nat.le_of_ble_eq_true rfl⟩) ⟨m_blind _ _ _, va_recv hK hP (ci := 5) (q0 := 0) rfl (m_lk_M (g_M G ax am n z1) _), fun U hU hW => ⟨rfl, m_pw hP hD hK trivial hS hz hU hW⟩⟩ rfl rfl hl.1 rfl (lv_room (Nat.le_of_ble_eq_true rfl)) d_L_law_376 ⟨Nat.le_of_ble_eq_true rfl, Nat.le_of_ble_eq_true rfl⟩) hS (fun q _ h => h) (fun q h => h) (fun ra u t H locs ht hvm hw hB _ _ hS => ?_)
  obtain ⟨rfl, rfl⟩ := hw
  obtain ⟨hP, hD⟩ := m_back hB ht
  refine lv_istore (lv' := [(6, .int b1), (5, .int r1), (0, .ref b), (1, .ref (ax 0)), (2, .ref (am 0)), (3, .ref (ax 110)), (4, .int (1 : Int32))]) hx hb d_L_law_379 hl (by decide) rfl (fun ls hl => ?_)
  refine lv_aload_n hx hb d_L_law_381 rfl (lv_at hl 4 rfl) ?_
  refine va_calli (va_runV (As := []) (rest := []) ⟨hx, hb, hml, hown, hts⟩ (c_M_thrown l (g_M G ax am n z1) zm1 (zm1.1 0 0) zm1 rfl) (cwV 0 hts (x_gV t_767 t_768 t_769 t_7 t_770) rfl rfl rfl (by decide +kernel) ⟨Nat.le_of_ble_eq_true rfl, Nat.le_of_ble_eq_true rfl⟩) ⟨m_blind _ _ _, va_recv hK hP (ci := 5) (q0 := 0) rfl (m_lk_M (g_M G ax am n z1) _), fun U hU hW => ⟨rfl, m_pw hP hD hK trivial hS hz hU hW⟩⟩ rfl rfl hl.1 rfl (lv_room (Nat.le_of_ble_eq_true rfl)) d_L_law_382 ⟨Nat.le_of_ble_eq_true rfl, Nat.le_of_ble_eq_true rfl⟩) hS (fun q _ h => h) (fun q h => h) (fun ra u t H locs ht hvm hw hB _ _ hS => ?_)
  obtain ⟨hw1, hw2⟩ := hw
  subst hw1
  rw [← hw2] at hB
  obtain ⟨hP, hD⟩ := m_back hB ht
  refine lv_iload hx hb d_L_law_385 (lv_at hl 1 rfl) ?_
  refine lv_icmp_eq (tgt := 392) hx hb d_L_law_387 (by decide) (fun _ => ?_) (fun hc => absurd hth hc)
  refine lv_iload hx hb d_L_law_392 (lv_at hl 1 rfl) ?_
  refine lv_if_ne (tgt := 409) hx hb d_L_law_394 (by decide) (fun _ => ?_) (fun hc0 => ?_)
  · refine lv_goto (tgt := 1038) hx hb d_L_law_409 (by decide) ?_
    refine W.widen (k := 600) (n := 20000) (Nat.le_of_ble_eq_true rfl) (Nat.le_of_ble_eq_true rfl) ?_
    exact l_tail l hL6 C0 G hs0 _ _ _ hS (lv_sub hl [2, 6] rfl)
  · refine lv_aload_n hx hb d_L_law_397 rfl (lv_at hl 5 rfl) ?_
    refine lv_iconst (v := (0 : Int32)) hx hb d_L_law_398 (by decide) ?_
    obtain ⟨hP, hD⟩ := l_toX hP hD
    refine va_lald hx hb hK hP 110 4 (x_lk_O (g_X G ax am n zm1) _) rfl (i := (0 : Int32)) (v_d (by decide)) d_L_law_399 ?_
    refine lv_iload hx hb d_L_law_400 (lv_at hl 0 rfl) ?_
    refine lv_i2l (v := (b1).toInt64) hx hb d_L_law_402 rfl ?_
    refine W.lcmp hx hb d_L_law_403 ?_
    refine lv_if_eq (tgt := 409) hx hb d_L_law_404 (by decide) (fun _ => ?_) (fun hc => absurd (l_cmp (hout hc0)) hc)
    refine lv_goto (tgt := 1038) hx hb d_L_law_409 (by decide) ?_
    refine W.widen (k := 600) (n := 20000) (Nat.le_of_ble_eq_true rfl) (Nat.le_of_ble_eq_true rfl) ?_
    exact l_tail l hL6 C0 G hs0 _ _ _ hS (lv_sub hl [2, 6] rfl)
