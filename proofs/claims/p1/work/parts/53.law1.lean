theorem dL_law_240 : decode cL_law 240 = .ok (.aload_n 1, 1) := by decide +kernel
theorem dL_law_241 : decode cL_law 241 = .ok (.aload_n 0, 1) := by decide +kernel
theorem dL_law_242 : decode cL_law 242 = .ok (.iload 4, 2) := by decide +kernel
theorem dL_law_244 : decode cL_law 244 = .ok (.iconst 1, 1) := by decide +kernel
theorem dL_law_245 : decode cL_law 245 = .ok (.iadd, 1) := by decide +kernel
theorem dL_law_246 : decode cL_law 246 = .ok (.iaload, 1) := by decide +kernel
theorem dL_law_247 : decode cL_law 247 = .ok (.aload_n 0, 1) := by decide +kernel
theorem dL_law_248 : decode cL_law 248 = .ok (.iload 4, 2) := by decide +kernel
theorem dL_law_250 : decode cL_law 250 = .ok (.iconst 2, 1) := by decide +kernel
theorem dL_law_251 : decode cL_law 251 = .ok (.iadd, 1) := by decide +kernel
theorem dL_law_252 : decode cL_law 252 = .ok (.iaload, 1) := by decide +kernel
theorem dL_law_253 : decode cL_law 253 = .ok (.aload_n 0, 1) := by decide +kernel
theorem dL_law_254 : decode cL_law 254 = .ok (.iload 4, 2) := by decide +kernel
theorem dL_law_256 : decode cL_law 256 = .ok (.iconst 3, 1) := by decide +kernel
theorem dL_law_257 : decode cL_law 257 = .ok (.iadd, 1) := by decide +kernel
theorem dL_law_258 : decode cL_law 258 = .ok (.iaload, 1) := by decide +kernel
theorem dL_law_259 : decode cL_law 259 = .ok (.aload_n 0, 1) := by decide +kernel
theorem dL_law_260 : decode cL_law 260 = .ok (.iload 4, 2) := by decide +kernel
theorem dL_law_262 : decode cL_law 262 = .ok (.iconst 4, 1) := by decide +kernel
theorem dL_law_263 : decode cL_law 263 = .ok (.iadd, 1) := by decide +kernel
theorem dL_law_264 : decode cL_law 264 = .ok (.iaload, 1) := by decide +kernel
theorem dL_law_265 : decode cL_law 265 = .ok (.aload_n 0, 1) := by decide +kernel
theorem dL_law_266 : decode cL_law 266 = .ok (.iload 4, 2) := by decide +kernel
theorem dL_law_268 : decode cL_law 268 = .ok (.iconst 5, 1) := by decide +kernel
theorem dL_law_269 : decode cL_law 269 = .ok (.iadd, 1) := by decide +kernel
theorem dL_law_270 : decode cL_law 270 = .ok (.iaload, 1) := by decide +kernel
theorem dL_law_271 : decode cL_law 271 = .ok (.aload_n 3, 1) := by decide +kernel
theorem k_9_91 : Jvm.Cond.codeWith ({ cls := "FinderHouseLaw", name := "feed", desc := "(LFinderHouse;IIIII[J)I" } : Jvm.MethodName) method_3_code (8 : Nat) (Option.some Jvm.ClassFile.FieldType.int) [((0 : Nat), (16 : Nat), (19 : Nat), (13 : Nat))] ∈ tb := tb9 91 (by decide +kernel) (by decide +kernel)
theorem k_9_89 : Jvm.Cond.methodLink "FinderHouseLaw" (35 : Nat) ({ cls := "FinderHouseLaw", name := "feed", desc := "(LFinderHouse;IIIII[J)I" } : Jvm.MethodName) ∈ tb := tb9 89 (by decide +kernel) (by decide +kernel)
theorem k_9_90 : Jvm.Cond.static ({ cls := "FinderHouseLaw", name := "feed", desc := "(LFinderHouse;IIIII[J)I" } : Jvm.MethodName) ∈ tb := tb9 90 (by decide +kernel) (by decide +kernel)
theorem k_1_0 : Jvm.Cond.initialized "FinderHouseLaw" ∈ tb := tb1 0 (by decide +kernel) (by decide +kernel)
theorem dL_law_272 : decode cL_law 272 = .ok (.invokestatic 35, 3) := by decide +kernel
theorem dL_law_275 : decode cL_law 275 = .ok (.istore 5, 2) := by decide +kernel
theorem dL_law_277 : decode cL_law 277 = .ok (.aload_n 2, 1) := by decide +kernel
theorem dL_law_278 : decode cL_law 278 = .ok (.aload_n 0, 1) := by decide +kernel
theorem dL_law_279 : decode cL_law 279 = .ok (.iload 4, 2) := by decide +kernel
theorem dL_law_281 : decode cL_law 281 = .ok (.iconst 1, 1) := by decide +kernel
theorem dL_law_282 : decode cL_law 282 = .ok (.iadd, 1) := by decide +kernel
theorem dL_law_283 : decode cL_law 283 = .ok (.iaload, 1) := by decide +kernel
theorem dL_law_284 : decode cL_law 284 = .ok (.aload_n 0, 1) := by decide +kernel
theorem dL_law_285 : decode cL_law 285 = .ok (.iload 4, 2) := by decide +kernel
theorem dL_law_287 : decode cL_law 287 = .ok (.iconst 2, 1) := by decide +kernel
theorem dL_law_288 : decode cL_law 288 = .ok (.iadd, 1) := by decide +kernel
theorem dL_law_289 : decode cL_law 289 = .ok (.iaload, 1) := by decide +kernel
theorem dL_law_290 : decode cL_law 290 = .ok (.aload_n 0, 1) := by decide +kernel
theorem dL_law_291 : decode cL_law 291 = .ok (.iload 4, 2) := by decide +kernel
theorem dL_law_293 : decode cL_law 293 = .ok (.iconst 3, 1) := by decide +kernel
theorem dL_law_294 : decode cL_law 294 = .ok (.iadd, 1) := by decide +kernel
theorem dL_law_295 : decode cL_law 295 = .ok (.iaload, 1) := by decide +kernel
theorem dL_law_296 : decode cL_law 296 = .ok (.aload_n 0, 1) := by decide +kernel
theorem dL_law_297 : decode cL_law 297 = .ok (.iload 4, 2) := by decide +kernel
theorem dL_law_299 : decode cL_law 299 = .ok (.iconst 4, 1) := by decide +kernel
theorem dL_law_300 : decode cL_law 300 = .ok (.iadd, 1) := by decide +kernel
theorem dL_law_301 : decode cL_law 301 = .ok (.iaload, 1) := by decide +kernel
theorem dL_law_302 : decode cL_law 302 = .ok (.aload_n 0, 1) := by decide +kernel
theorem dL_law_303 : decode cL_law 303 = .ok (.iload 4, 2) := by decide +kernel
theorem dL_law_305 : decode cL_law 305 = .ok (.iconst 5, 1) := by decide +kernel
theorem dL_law_306 : decode cL_law 306 = .ok (.iadd, 1) := by decide +kernel
theorem dL_law_307 : decode cL_law 307 = .ok (.iaload, 1) := by decide +kernel
theorem k_12_205 : Jvm.Cond.code ({ cls := "FinderHouseModel", name := "feed", desc := "(IIIII)I" } : Jvm.MethodName) prog_14_method_91_code (6 : Nat) (Option.some Jvm.ClassFile.FieldType.int) ∈ tb := tb12 205 (by decide +kernel) (by decide +kernel)
theorem k_12_202 : Jvm.Cond.methodLink "FinderHouseLaw" (40 : Nat) ({ cls := "FinderHouseModel", name := "feed", desc := "(IIIII)I" } : Jvm.MethodName) ∈ tb := tb12 202 (by decide +kernel) (by decide +kernel)
theorem k_12_203 : Jvm.Cond.instanceMethod ({ cls := "FinderHouseModel", name := "feed", desc := "(IIIII)I" } : Jvm.MethodName) ∈ tb := tb12 203 (by decide +kernel) (by decide +kernel)
theorem k_12_204 : Jvm.Cond.selects "FinderHouseModel" ({ cls := "FinderHouseModel", name := "feed", desc := "(IIIII)I" } : Jvm.MethodName) ({ cls := "FinderHouseModel", name := "feed", desc := "(IIIII)I" } : Jvm.MethodName) ∈ tb := tb12 204 (by decide +kernel) (by decide +kernel)
theorem dL_law_308 : decode cL_law 308 = .ok (.invokevirtual 40, 3) := by decide +kernel
theorem dL_law_311 : decode cL_law 311 = .ok (.istore 6, 2) := by decide +kernel
theorem dL_law_313 : decode cL_law 313 = .ok (.aload_n 2, 1) := by decide +kernel
theorem k_12_201 : Jvm.Cond.code ({ cls := "FinderHouseModel", name := "thrown", desc := "()I" } : Jvm.MethodName) prog_14_method_89_code (1 : Nat) (Option.some Jvm.ClassFile.FieldType.int) ∈ tb := tb12 201 (by decide +kernel) (by decide +kernel)
theorem k_12_198 : Jvm.Cond.methodLink "FinderHouseLaw" (41 : Nat) ({ cls := "FinderHouseModel", name := "thrown", desc := "()I" } : Jvm.MethodName) ∈ tb := tb12 198 (by decide +kernel) (by decide +kernel)
theorem k_12_199 : Jvm.Cond.instanceMethod ({ cls := "FinderHouseModel", name := "thrown", desc := "()I" } : Jvm.MethodName) ∈ tb := tb12 199 (by decide +kernel) (by decide +kernel)
theorem k_12_200 : Jvm.Cond.selects "FinderHouseModel" ({ cls := "FinderHouseModel", name := "thrown", desc := "()I" } : Jvm.MethodName) ({ cls := "FinderHouseModel", name := "thrown", desc := "()I" } : Jvm.MethodName) ∈ tb := tb12 200 (by decide +kernel) (by decide +kernel)
theorem dL_law_314 : decode cL_law 314 = .ok (.invokevirtual 41, 3) := by decide +kernel
theorem dL_law_317 : decode cL_law 317 = .ok (.iload 5, 2) := by decide +kernel
theorem dL_law_319 : decode cL_law 319 = .ok (.if_icmp .eq 5, 3) := by decide +kernel
theorem dL_law_324 : decode cL_law 324 = .ok (.iload 5, 2) := by decide +kernel
theorem dL_law_326 : decode cL_law 326 = .ok (.ifCond .ne 15, 3) := by decide +kernel
theorem dL_law_329 : decode cL_law 329 = .ok (.aload_n 3, 1) := by decide +kernel
theorem dL_law_330 : decode cL_law 330 = .ok (.iconst 0, 1) := by decide +kernel
theorem dL_law_331 : decode cL_law 331 = .ok (.laload, 1) := by decide +kernel
theorem dL_law_332 : decode cL_law 332 = .ok (.iload 6, 2) := by decide +kernel
theorem dL_law_334 : decode cL_law 334 = .ok (.i2l, 1) := by decide +kernel
theorem dL_law_335 : decode cL_law 335 = .ok (.lcmp, 1) := by decide +kernel
theorem dL_law_336 : decode cL_law 336 = .ok (.ifCond .eq 5, 3) := by decide +kernel
theorem dL_law_341 : decode cL_law 341 = .ok (.goto 1256, 3) := by decide +kernel
theorem dL_law_344 : decode cL_law 344 = .ok (.aload_n 1, 1) := by decide +kernel
theorem dL_law_345 : decode cL_law 345 = .ok (.aload_n 0, 1) := by decide +kernel
theorem dL_law_346 : decode cL_law 346 = .ok (.iload 4, 2) := by decide +kernel
theorem dL_law_348 : decode cL_law 348 = .ok (.iconst 1, 1) := by decide +kernel
theorem dL_law_349 : decode cL_law 349 = .ok (.iadd, 1) := by decide +kernel
theorem dL_law_350 : decode cL_law 350 = .ok (.iaload, 1) := by decide +kernel
theorem k_9_171 : Jvm.Cond.codeWith ({ cls := "FinderHouseLaw", name := "end", desc := "(LFinderHouse;I)I" } : Jvm.MethodName) method_4_code (3 : Nat) (Option.some Jvm.ClassFile.FieldType.int) [((0 : Nat), (5 : Nat), (8 : Nat), (19 : Nat))] ∈ tb := tb9 171 (by decide +kernel) (by decide +kernel)
theorem k_9_169 : Jvm.Cond.methodLink "FinderHouseLaw" (45 : Nat) ({ cls := "FinderHouseLaw", name := "end", desc := "(LFinderHouse;I)I" } : Jvm.MethodName) ∈ tb := tb9 169 (by decide +kernel) (by decide +kernel)
theorem k_9_170 : Jvm.Cond.static ({ cls := "FinderHouseLaw", name := "end", desc := "(LFinderHouse;I)I" } : Jvm.MethodName) ∈ tb := tb9 170 (by decide +kernel) (by decide +kernel)
theorem dL_law_351 : decode cL_law 351 = .ok (.invokestatic 45, 3) := by decide +kernel
theorem dL_law_354 : decode cL_law 354 = .ok (.istore 5, 2) := by decide +kernel
theorem dL_law_356 : decode cL_law 356 = .ok (.aload_n 2, 1) := by decide +kernel
theorem dL_law_357 : decode cL_law 357 = .ok (.aload_n 0, 1) := by decide +kernel
theorem dL_law_358 : decode cL_law 358 = .ok (.iload 4, 2) := by decide +kernel
theorem dL_law_360 : decode cL_law 360 = .ok (.iconst 1, 1) := by decide +kernel
theorem dL_law_361 : decode cL_law 361 = .ok (.iadd, 1) := by decide +kernel
theorem dL_law_362 : decode cL_law 362 = .ok (.iaload, 1) := by decide +kernel
theorem k_12_213 : Jvm.Cond.code ({ cls := "FinderHouseModel", name := "end", desc := "(I)V" } : Jvm.MethodName) prog_14_method_92_code (2 : Nat) (Option.none : Option Jvm.ClassFile.FieldType) ∈ tb := tb12 213 (by decide +kernel) (by decide +kernel)
theorem k_12_210 : Jvm.Cond.methodLink "FinderHouseLaw" (48 : Nat) ({ cls := "FinderHouseModel", name := "end", desc := "(I)V" } : Jvm.MethodName) ∈ tb := tb12 210 (by decide +kernel) (by decide +kernel)
theorem k_12_211 : Jvm.Cond.instanceMethod ({ cls := "FinderHouseModel", name := "end", desc := "(I)V" } : Jvm.MethodName) ∈ tb := tb12 211 (by decide +kernel) (by decide +kernel)
theorem k_12_212 : Jvm.Cond.selects "FinderHouseModel" ({ cls := "FinderHouseModel", name := "end", desc := "(I)V" } : Jvm.MethodName) ({ cls := "FinderHouseModel", name := "end", desc := "(I)V" } : Jvm.MethodName) ∈ tb := tb12 212 (by decide +kernel) (by decide +kernel)
theorem dL_law_363 : decode cL_law 363 = .ok (.invokevirtual 48, 3) := by decide +kernel
theorem dL_law_366 : decode cL_law 366 = .ok (.aload_n 2, 1) := by decide +kernel
theorem dL_law_367 : decode cL_law 367 = .ok (.invokevirtual 41, 3) := by decide +kernel
theorem dL_law_370 : decode cL_law 370 = .ok (.iload 5, 2) := by decide +kernel
theorem dL_law_372 : decode cL_law 372 = .ok (.if_icmp .eq 5, 3) := by decide +kernel
theorem dL_law_377 : decode cL_law 377 = .ok (.goto 1220, 3) := by decide +kernel
theorem dL_law_380 : decode cL_law 380 = .ok (.aload_n 1, 1) := by decide +kernel
theorem dL_law_381 : decode cL_law 381 = .ok (.aload_n 0, 1) := by decide +kernel
theorem dL_law_382 : decode cL_law 382 = .ok (.iload 4, 2) := by decide +kernel
theorem dL_law_384 : decode cL_law 384 = .ok (.iconst 1, 1) := by decide +kernel
theorem dL_law_385 : decode cL_law 385 = .ok (.iadd, 1) := by decide +kernel
theorem dL_law_386 : decode cL_law 386 = .ok (.iaload, 1) := by decide +kernel
theorem k_4_149 : Jvm.Cond.code ({ cls := "FinderHouse", name := "told", desc := "(I)I" } : Jvm.MethodName) prog_1_method_6_code (2 : Nat) (Option.some Jvm.ClassFile.FieldType.int) ∈ tb := tb4 149 (by decide +kernel) (by decide +kernel)
theorem k_4_146 : Jvm.Cond.methodLink "FinderHouseLaw" (49 : Nat) ({ cls := "FinderHouse", name := "told", desc := "(I)I" } : Jvm.MethodName) ∈ tb := tb4 146 (by decide +kernel) (by decide +kernel)
theorem k_4_147 : Jvm.Cond.instanceMethod ({ cls := "FinderHouse", name := "told", desc := "(I)I" } : Jvm.MethodName) ∈ tb := tb4 147 (by decide +kernel) (by decide +kernel)
theorem k_4_148 : Jvm.Cond.selects "FinderHouse" ({ cls := "FinderHouse", name := "told", desc := "(I)I" } : Jvm.MethodName) ({ cls := "FinderHouse", name := "told", desc := "(I)I" } : Jvm.MethodName) ∈ tb := tb4 148 (by decide +kernel) (by decide +kernel)
theorem dL_law_387 : decode cL_law 387 = .ok (.invokevirtual 49, 3) := by decide +kernel
theorem dL_law_390 : decode cL_law 390 = .ok (.aload_n 2, 1) := by decide +kernel
theorem dL_law_391 : decode cL_law 391 = .ok (.aload_n 0, 1) := by decide +kernel
theorem dL_law_392 : decode cL_law 392 = .ok (.iload 4, 2) := by decide +kernel
theorem dL_law_394 : decode cL_law 394 = .ok (.iconst 1, 1) := by decide +kernel
theorem dL_law_395 : decode cL_law 395 = .ok (.iadd, 1) := by decide +kernel
theorem dL_law_396 : decode cL_law 396 = .ok (.iaload, 1) := by decide +kernel
theorem k_12_224 : Jvm.Cond.code ({ cls := "FinderHouseModel", name := "told", desc := "(I)I" } : Jvm.MethodName) prog_14_method_97_code (2 : Nat) (Option.some Jvm.ClassFile.FieldType.int) ∈ tb := tb12 224 (by decide +kernel) (by decide +kernel)
theorem k_12_221 : Jvm.Cond.methodLink "FinderHouseLaw" (53 : Nat) ({ cls := "FinderHouseModel", name := "told", desc := "(I)I" } : Jvm.MethodName) ∈ tb := tb12 221 (by decide +kernel) (by decide +kernel)
theorem k_12_222 : Jvm.Cond.instanceMethod ({ cls := "FinderHouseModel", name := "told", desc := "(I)I" } : Jvm.MethodName) ∈ tb := tb12 222 (by decide +kernel) (by decide +kernel)
theorem k_12_223 : Jvm.Cond.selects "FinderHouseModel" ({ cls := "FinderHouseModel", name := "told", desc := "(I)I" } : Jvm.MethodName) ({ cls := "FinderHouseModel", name := "told", desc := "(I)I" } : Jvm.MethodName) ∈ tb := tb12 223 (by decide +kernel) (by decide +kernel)
theorem dL_law_397 : decode cL_law 397 = .ok (.invokevirtual 53, 3) := by decide +kernel
theorem dL_law_400 : decode cL_law 400 = .ok (.if_icmp .eq 1197, 3) := by decide +kernel
theorem dL_law_405 : decode cL_law 405 = .ok (.aload_n 1, 1) := by decide +kernel
theorem k_4_157 : Jvm.Cond.code ({ cls := "FinderHouse", name := "place", desc := "()I" } : Jvm.MethodName) prog_1_method_8_code (1 : Nat) (Option.some Jvm.ClassFile.FieldType.int) ∈ tb := tb4 157 (by decide +kernel) (by decide +kernel)
theorem k_4_154 : Jvm.Cond.methodLink "FinderHouseLaw" (54 : Nat) ({ cls := "FinderHouse", name := "place", desc := "()I" } : Jvm.MethodName) ∈ tb := tb4 154 (by decide +kernel) (by decide +kernel)
theorem k_4_155 : Jvm.Cond.instanceMethod ({ cls := "FinderHouse", name := "place", desc := "()I" } : Jvm.MethodName) ∈ tb := tb4 155 (by decide +kernel) (by decide +kernel)
theorem k_4_156 : Jvm.Cond.selects "FinderHouse" ({ cls := "FinderHouse", name := "place", desc := "()I" } : Jvm.MethodName) ({ cls := "FinderHouse", name := "place", desc := "()I" } : Jvm.MethodName) ∈ tb := tb4 156 (by decide +kernel) (by decide +kernel)
theorem dL_law_406 : decode cL_law 406 = .ok (.invokevirtual 54, 3) := by decide +kernel
theorem dL_law_409 : decode cL_law 409 = .ok (.aload_n 2, 1) := by decide +kernel
theorem k_12_220 : Jvm.Cond.code ({ cls := "FinderHouseModel", name := "place", desc := "()I" } : Jvm.MethodName) prog_14_method_96_code (1 : Nat) (Option.some Jvm.ClassFile.FieldType.int) ∈ tb := tb12 220 (by decide +kernel) (by decide +kernel)
theorem k_12_217 : Jvm.Cond.methodLink "FinderHouseLaw" (57 : Nat) ({ cls := "FinderHouseModel", name := "place", desc := "()I" } : Jvm.MethodName) ∈ tb := tb12 217 (by decide +kernel) (by decide +kernel)
theorem k_12_218 : Jvm.Cond.instanceMethod ({ cls := "FinderHouseModel", name := "place", desc := "()I" } : Jvm.MethodName) ∈ tb := tb12 218 (by decide +kernel) (by decide +kernel)
theorem k_12_219 : Jvm.Cond.selects "FinderHouseModel" ({ cls := "FinderHouseModel", name := "place", desc := "()I" } : Jvm.MethodName) ({ cls := "FinderHouseModel", name := "place", desc := "()I" } : Jvm.MethodName) ∈ tb := tb12 219 (by decide +kernel) (by decide +kernel)
theorem dL_law_410 : decode cL_law 410 = .ok (.invokevirtual 57, 3) := by decide +kernel
theorem dL_law_413 : decode cL_law 413 = .ok (.if_icmp .eq 1184, 3) := by decide +kernel
theorem dL_law_418 : decode cL_law 418 = .ok (.aload_n 1, 1) := by decide +kernel
theorem k_4_161 : Jvm.Cond.code ({ cls := "FinderHouse", name := "ask", desc := "()I" } : Jvm.MethodName) prog_1_method_10_code (2 : Nat) (Option.some Jvm.ClassFile.FieldType.int) ∈ tb := tb4 161 (by decide +kernel) (by decide +kernel)
theorem k_4_158 : Jvm.Cond.methodLink "FinderHouseLaw" (58 : Nat) ({ cls := "FinderHouse", name := "ask", desc := "()I" } : Jvm.MethodName) ∈ tb := tb4 158 (by decide +kernel) (by decide +kernel)
theorem k_4_159 : Jvm.Cond.instanceMethod ({ cls := "FinderHouse", name := "ask", desc := "()I" } : Jvm.MethodName) ∈ tb := tb4 159 (by decide +kernel) (by decide +kernel)
theorem k_4_160 : Jvm.Cond.selects "FinderHouse" ({ cls := "FinderHouse", name := "ask", desc := "()I" } : Jvm.MethodName) ({ cls := "FinderHouse", name := "ask", desc := "()I" } : Jvm.MethodName) ∈ tb := tb4 160 (by decide +kernel) (by decide +kernel)
theorem dL_law_419 : decode cL_law 419 = .ok (.invokevirtual 58, 3) := by decide +kernel
theorem dL_law_422 : decode cL_law 422 = .ok (.aload_n 2, 1) := by decide +kernel
theorem k_12_233 : Jvm.Cond.codeWith ({ cls := "FinderHouseModel", name := "ask", desc := "()I" } : Jvm.MethodName) prog_14_method_98_code (3 : Nat) (Option.some Jvm.ClassFile.FieldType.int) [((37 : Nat), (55 : Nat), (56 : Nat), (89 : Nat))] ∈ tb := tb12 233 (by decide +kernel) (by decide +kernel)
theorem k_12_230 : Jvm.Cond.methodLink "FinderHouseLaw" (61 : Nat) ({ cls := "FinderHouseModel", name := "ask", desc := "()I" } : Jvm.MethodName) ∈ tb := tb12 230 (by decide +kernel) (by decide +kernel)
theorem k_12_231 : Jvm.Cond.instanceMethod ({ cls := "FinderHouseModel", name := "ask", desc := "()I" } : Jvm.MethodName) ∈ tb := tb12 231 (by decide +kernel) (by decide +kernel)
theorem k_12_232 : Jvm.Cond.selects "FinderHouseModel" ({ cls := "FinderHouseModel", name := "ask", desc := "()I" } : Jvm.MethodName) ({ cls := "FinderHouseModel", name := "ask", desc := "()I" } : Jvm.MethodName) ∈ tb := tb12 232 (by decide +kernel) (by decide +kernel)
theorem dL_law_423 : decode cL_law 423 = .ok (.invokevirtual 61, 3) := by decide +kernel
theorem dL_law_426 : decode cL_law 426 = .ok (.if_icmp .eq 1171, 3) := by decide +kernel
theorem dL_law_431 : decode cL_law 431 = .ok (.aload_n 1, 1) := by decide +kernel
theorem k_5_145 : Jvm.Cond.code ({ cls := "FinderHouse", name := "act", desc := "()I" } : Jvm.MethodName) prog_1_method_11_code (2 : Nat) (Option.some Jvm.ClassFile.FieldType.int) ∈ tb := tb5 145 (by decide +kernel) (by decide +kernel)
theorem k_5_142 : Jvm.Cond.methodLink "FinderHouseLaw" (62 : Nat) ({ cls := "FinderHouse", name := "act", desc := "()I" } : Jvm.MethodName) ∈ tb := tb5 142 (by decide +kernel) (by decide +kernel)
theorem k_5_143 : Jvm.Cond.instanceMethod ({ cls := "FinderHouse", name := "act", desc := "()I" } : Jvm.MethodName) ∈ tb := tb5 143 (by decide +kernel) (by decide +kernel)
theorem k_5_144 : Jvm.Cond.selects "FinderHouse" ({ cls := "FinderHouse", name := "act", desc := "()I" } : Jvm.MethodName) ({ cls := "FinderHouse", name := "act", desc := "()I" } : Jvm.MethodName) ∈ tb := tb5 144 (by decide +kernel) (by decide +kernel)
theorem dL_law_432 : decode cL_law 432 = .ok (.invokevirtual 62, 3) := by decide +kernel
theorem dL_law_435 : decode cL_law 435 = .ok (.aload_n 2, 1) := by decide +kernel
theorem k_13_173 : Jvm.Cond.codeWith ({ cls := "FinderHouseModel", name := "act", desc := "()I" } : Jvm.MethodName) prog_14_method_102_code (2 : Nat) (Option.some Jvm.ClassFile.FieldType.int) [((14 : Nat), (18 : Nat), (21 : Nat), (89 : Nat))] ∈ tb := tb13 173 (by decide +kernel) (by decide +kernel)
theorem k_13_170 : Jvm.Cond.methodLink "FinderHouseLaw" (65 : Nat) ({ cls := "FinderHouseModel", name := "act", desc := "()I" } : Jvm.MethodName) ∈ tb := tb13 170 (by decide +kernel) (by decide +kernel)
theorem k_13_171 : Jvm.Cond.instanceMethod ({ cls := "FinderHouseModel", name := "act", desc := "()I" } : Jvm.MethodName) ∈ tb := tb13 171 (by decide +kernel) (by decide +kernel)
theorem k_13_172 : Jvm.Cond.selects "FinderHouseModel" ({ cls := "FinderHouseModel", name := "act", desc := "()I" } : Jvm.MethodName) ({ cls := "FinderHouseModel", name := "act", desc := "()I" } : Jvm.MethodName) ∈ tb := tb13 172 (by decide +kernel) (by decide +kernel)
theorem dL_law_436 : decode cL_law 436 = .ok (.invokevirtual 65, 3) := by decide +kernel
theorem dL_law_439 : decode cL_law 439 = .ok (.if_icmp .eq 1158, 3) := by decide +kernel
theorem dL_law_444 : decode cL_law 444 = .ok (.aload_n 1, 1) := by decide +kernel
theorem dL_law_445 : decode cL_law 445 = .ok (.aload_n 0, 1) := by decide +kernel
theorem dL_law_446 : decode cL_law 446 = .ok (.iload 4, 2) := by decide +kernel
theorem dL_law_448 : decode cL_law 448 = .ok (.iconst 1, 1) := by decide +kernel
theorem dL_law_449 : decode cL_law 449 = .ok (.iadd, 1) := by decide +kernel
theorem dL_law_450 : decode cL_law 450 = .ok (.iaload, 1) := by decide +kernel
theorem k_5_227 : Jvm.Cond.code ({ cls := "FinderHouse", name := "find", desc := "(I)I" } : Jvm.MethodName) prog_1_method_14_code (4 : Nat) (Option.some Jvm.ClassFile.FieldType.int) ∈ tb := tb5 227 (by decide +kernel) (by decide +kernel)
theorem k_5_224 : Jvm.Cond.methodLink "FinderHouseLaw" (66 : Nat) ({ cls := "FinderHouse", name := "find", desc := "(I)I" } : Jvm.MethodName) ∈ tb := tb5 224 (by decide +kernel) (by decide +kernel)
theorem k_5_225 : Jvm.Cond.instanceMethod ({ cls := "FinderHouse", name := "find", desc := "(I)I" } : Jvm.MethodName) ∈ tb := tb5 225 (by decide +kernel) (by decide +kernel)
theorem k_5_226 : Jvm.Cond.selects "FinderHouse" ({ cls := "FinderHouse", name := "find", desc := "(I)I" } : Jvm.MethodName) ({ cls := "FinderHouse", name := "find", desc := "(I)I" } : Jvm.MethodName) ∈ tb := tb5 226 (by decide +kernel) (by decide +kernel)
theorem dL_law_451 : decode cL_law 451 = .ok (.invokevirtual 66, 3) := by decide +kernel
theorem dL_law_454 : decode cL_law 454 = .ok (.aload_n 2, 1) := by decide +kernel
theorem dL_law_455 : decode cL_law 455 = .ok (.aload_n 0, 1) := by decide +kernel
theorem dL_law_456 : decode cL_law 456 = .ok (.iload 4, 2) := by decide +kernel
theorem dL_law_458 : decode cL_law 458 = .ok (.iconst 1, 1) := by decide +kernel
theorem dL_law_459 : decode cL_law 459 = .ok (.iadd, 1) := by decide +kernel
theorem dL_law_460 : decode cL_law 460 = .ok (.iaload, 1) := by decide +kernel
theorem k_13_218 : Jvm.Cond.code ({ cls := "FinderHouseModel", name := "find", desc := "(I)I" } : Jvm.MethodName) prog_14_method_105_code (5 : Nat) (Option.some Jvm.ClassFile.FieldType.int) ∈ tb := tb13 218 (by decide +kernel) (by decide +kernel)
theorem k_13_215 : Jvm.Cond.methodLink "FinderHouseLaw" (69 : Nat) ({ cls := "FinderHouseModel", name := "find", desc := "(I)I" } : Jvm.MethodName) ∈ tb := tb13 215 (by decide +kernel) (by decide +kernel)
theorem k_13_216 : Jvm.Cond.instanceMethod ({ cls := "FinderHouseModel", name := "find", desc := "(I)I" } : Jvm.MethodName) ∈ tb := tb13 216 (by decide +kernel) (by decide +kernel)
theorem k_13_217 : Jvm.Cond.selects "FinderHouseModel" ({ cls := "FinderHouseModel", name := "find", desc := "(I)I" } : Jvm.MethodName) ({ cls := "FinderHouseModel", name := "find", desc := "(I)I" } : Jvm.MethodName) ∈ tb := tb13 217 (by decide +kernel) (by decide +kernel)
theorem dL_law_461 : decode cL_law 461 = .ok (.invokevirtual 69, 3) := by decide +kernel
theorem dL_law_464 : decode cL_law 464 = .ok (.if_icmp .eq 1133, 3) := by decide +kernel
theorem dL_law_469 : decode cL_law 469 = .ok (.aload_n 1, 1) := by decide +kernel
theorem dL_law_470 : decode cL_law 470 = .ok (.aload_n 0, 1) := by decide +kernel
theorem dL_law_471 : decode cL_law 471 = .ok (.iload 4, 2) := by decide +kernel
theorem dL_law_473 : decode cL_law 473 = .ok (.iconst 1, 1) := by decide +kernel
theorem dL_law_474 : decode cL_law 474 = .ok (.iadd, 1) := by decide +kernel
theorem dL_law_475 : decode cL_law 475 = .ok (.iaload, 1) := by decide +kernel
theorem k_6_118 : Jvm.Cond.code ({ cls := "FinderHouse", name := "count", desc := "(I)J" } : Jvm.MethodName) prog_1_method_16_code (3 : Nat) (Option.some Jvm.ClassFile.FieldType.long) ∈ tb := tb6 118 (by decide +kernel) (by decide +kernel)
theorem k_6_115 : Jvm.Cond.methodLink "FinderHouseLaw" (70 : Nat) ({ cls := "FinderHouse", name := "count", desc := "(I)J" } : Jvm.MethodName) ∈ tb := tb6 115 (by decide +kernel) (by decide +kernel)
theorem k_6_116 : Jvm.Cond.instanceMethod ({ cls := "FinderHouse", name := "count", desc := "(I)J" } : Jvm.MethodName) ∈ tb := tb6 116 (by decide +kernel) (by decide +kernel)
theorem k_6_117 : Jvm.Cond.selects "FinderHouse" ({ cls := "FinderHouse", name := "count", desc := "(I)J" } : Jvm.MethodName) ({ cls := "FinderHouse", name := "count", desc := "(I)J" } : Jvm.MethodName) ∈ tb := tb6 117 (by decide +kernel) (by decide +kernel)
theorem dL_law_476 : decode cL_law 476 = .ok (.invokevirtual 70, 3) := by decide +kernel
theorem dL_law_479 : decode cL_law 479 = .ok (.aload_n 2, 1) := by decide +kernel
theorem dL_law_480 : decode cL_law 480 = .ok (.aload_n 0, 1) := by decide +kernel
theorem dL_law_481 : decode cL_law 481 = .ok (.iload 4, 2) := by decide +kernel
theorem dL_law_483 : decode cL_law 483 = .ok (.iconst 1, 1) := by decide +kernel
theorem dL_law_484 : decode cL_law 484 = .ok (.iadd, 1) := by decide +kernel
theorem dL_law_485 : decode cL_law 485 = .ok (.iaload, 1) := by decide +kernel
theorem k_14_111 : Jvm.Cond.code ({ cls := "FinderHouseModel", name := "count", desc := "(I)J" } : Jvm.MethodName) prog_14_method_107_code (3 : Nat) (Option.some Jvm.ClassFile.FieldType.long) ∈ tb := tb14 111 (by decide +kernel) (by decide +kernel)
theorem k_14_108 : Jvm.Cond.methodLink "FinderHouseLaw" (74 : Nat) ({ cls := "FinderHouseModel", name := "count", desc := "(I)J" } : Jvm.MethodName) ∈ tb := tb14 108 (by decide +kernel) (by decide +kernel)
theorem k_14_109 : Jvm.Cond.instanceMethod ({ cls := "FinderHouseModel", name := "count", desc := "(I)J" } : Jvm.MethodName) ∈ tb := tb14 109 (by decide +kernel) (by decide +kernel)
theorem k_14_110 : Jvm.Cond.selects "FinderHouseModel" ({ cls := "FinderHouseModel", name := "count", desc := "(I)J" } : Jvm.MethodName) ({ cls := "FinderHouseModel", name := "count", desc := "(I)J" } : Jvm.MethodName) ∈ tb := tb14 110 (by decide +kernel) (by decide +kernel)
theorem dL_law_486 : decode cL_law 486 = .ok (.invokevirtual 74, 3) := by decide +kernel
theorem dL_law_489 : decode cL_law 489 = .ok (.lcmp, 1) := by decide +kernel
theorem dL_law_490 : decode cL_law 490 = .ok (.ifCond .eq 1107, 3) := by decide +kernel
theorem dL_law_495 : decode cL_law 495 = .ok (.aload_n 1, 1) := by decide +kernel
theorem dL_law_496 : decode cL_law 496 = .ok (.aload_n 0, 1) := by decide +kernel
theorem dL_law_497 : decode cL_law 497 = .ok (.iload 4, 2) := by decide +kernel
theorem dL_law_499 : decode cL_law 499 = .ok (.iconst 1, 1) := by decide +kernel
theorem dL_law_500 : decode cL_law 500 = .ok (.iadd, 1) := by decide +kernel
theorem dL_law_501 : decode cL_law 501 = .ok (.iaload, 1) := by decide +kernel
theorem dL_law_502 : decode cL_law 502 = .ok (.aload_n 0, 1) := by decide +kernel
theorem dL_law_503 : decode cL_law 503 = .ok (.iload 4, 2) := by decide +kernel
theorem dL_law_505 : decode cL_law 505 = .ok (.iconst 2, 1) := by decide +kernel
theorem dL_law_506 : decode cL_law 506 = .ok (.iadd, 1) := by decide +kernel
theorem dL_law_507 : decode cL_law 507 = .ok (.iaload, 1) := by decide +kernel
theorem dL_law_508 : decode cL_law 508 = .ok (.i2l, 1) := by decide +kernel
theorem dL_law_509 : decode cL_law 509 = .ok (.bipush 32, 2) := by decide +kernel
theorem dL_law_511 : decode cL_law 511 = .ok (.lshl, 1) := by decide +kernel
theorem dL_law_512 : decode cL_law 512 = .ok (.aload_n 0, 1) := by decide +kernel
theorem dL_law_513 : decode cL_law 513 = .ok (.iload 4, 2) := by decide +kernel
theorem dL_law_515 : decode cL_law 515 = .ok (.iconst 3, 1) := by decide +kernel
theorem dL_law_516 : decode cL_law 516 = .ok (.iadd, 1) := by decide +kernel
theorem dL_law_517 : decode cL_law 517 = .ok (.iaload, 1) := by decide +kernel
theorem dL_law_518 : decode cL_law 518 = .ok (.i2l, 1) := by decide +kernel
theorem k_16_113 : Jvm.Cond.constantLong "FinderHouseLaw" (75 : Nat) (4294967295 : Int64) ∈ tb := tb16 113 (by decide +kernel) (by decide +kernel)
theorem dL_law_519 : decode cL_law 519 = .ok (.ldc2_w 75, 3) := by decide +kernel
theorem dL_law_522 : decode cL_law 522 = .ok (.land, 1) := by decide +kernel
theorem dL_law_523 : decode cL_law 523 = .ok (.lor, 1) := by decide +kernel
theorem k_6_126 : Jvm.Cond.code ({ cls := "FinderHouse", name := "ith", desc := "(IJ)I" } : Jvm.MethodName) prog_1_method_17_code (6 : Nat) (Option.some Jvm.ClassFile.FieldType.int) ∈ tb := tb6 126 (by decide +kernel) (by decide +kernel)
theorem k_6_123 : Jvm.Cond.methodLink "FinderHouseLaw" (77 : Nat) ({ cls := "FinderHouse", name := "ith", desc := "(IJ)I" } : Jvm.MethodName) ∈ tb := tb6 123 (by decide +kernel) (by decide +kernel)
theorem k_6_124 : Jvm.Cond.instanceMethod ({ cls := "FinderHouse", name := "ith", desc := "(IJ)I" } : Jvm.MethodName) ∈ tb := tb6 124 (by decide +kernel) (by decide +kernel)
theorem k_6_125 : Jvm.Cond.selects "FinderHouse" ({ cls := "FinderHouse", name := "ith", desc := "(IJ)I" } : Jvm.MethodName) ({ cls := "FinderHouse", name := "ith", desc := "(IJ)I" } : Jvm.MethodName) ∈ tb := tb6 125 (by decide +kernel) (by decide +kernel)
theorem dL_law_524 : decode cL_law 524 = .ok (.invokevirtual 77, 3) := by decide +kernel
theorem dL_law_527 : decode cL_law 527 = .ok (.aload_n 2, 1) := by decide +kernel
theorem dL_law_528 : decode cL_law 528 = .ok (.aload_n 0, 1) := by decide +kernel
theorem dL_law_529 : decode cL_law 529 = .ok (.iload 4, 2) := by decide +kernel
theorem dL_law_531 : decode cL_law 531 = .ok (.iconst 1, 1) := by decide +kernel
theorem dL_law_532 : decode cL_law 532 = .ok (.iadd, 1) := by decide +kernel
theorem dL_law_533 : decode cL_law 533 = .ok (.iaload, 1) := by decide +kernel
theorem dL_law_534 : decode cL_law 534 = .ok (.aload_n 0, 1) := by decide +kernel
theorem dL_law_535 : decode cL_law 535 = .ok (.iload 4, 2) := by decide +kernel
theorem dL_law_537 : decode cL_law 537 = .ok (.iconst 2, 1) := by decide +kernel
theorem dL_law_538 : decode cL_law 538 = .ok (.iadd, 1) := by decide +kernel
theorem dL_law_539 : decode cL_law 539 = .ok (.iaload, 1) := by decide +kernel
theorem dL_law_540 : decode cL_law 540 = .ok (.i2l, 1) := by decide +kernel
theorem dL_law_541 : decode cL_law 541 = .ok (.bipush 32, 2) := by decide +kernel
theorem dL_law_543 : decode cL_law 543 = .ok (.lshl, 1) := by decide +kernel
theorem dL_law_544 : decode cL_law 544 = .ok (.aload_n 0, 1) := by decide +kernel
theorem dL_law_545 : decode cL_law 545 = .ok (.iload 4, 2) := by decide +kernel
theorem dL_law_547 : decode cL_law 547 = .ok (.iconst 3, 1) := by decide +kernel
theorem dL_law_548 : decode cL_law 548 = .ok (.iadd, 1) := by decide +kernel
theorem dL_law_549 : decode cL_law 549 = .ok (.iaload, 1) := by decide +kernel
theorem dL_law_550 : decode cL_law 550 = .ok (.i2l, 1) := by decide +kernel
theorem dL_law_551 : decode cL_law 551 = .ok (.ldc2_w 75, 3) := by decide +kernel
theorem dL_law_554 : decode cL_law 554 = .ok (.land, 1) := by decide +kernel
theorem dL_law_555 : decode cL_law 555 = .ok (.lor, 1) := by decide +kernel
theorem k_14_150 : Jvm.Cond.code ({ cls := "FinderHouseModel", name := "ith", desc := "(IJ)I" } : Jvm.MethodName) prog_14_method_108_code (9 : Nat) (Option.some Jvm.ClassFile.FieldType.int) ∈ tb := tb14 150 (by decide +kernel) (by decide +kernel)
theorem k_14_147 : Jvm.Cond.methodLink "FinderHouseLaw" (81 : Nat) ({ cls := "FinderHouseModel", name := "ith", desc := "(IJ)I" } : Jvm.MethodName) ∈ tb := tb14 147 (by decide +kernel) (by decide +kernel)
theorem k_14_148 : Jvm.Cond.instanceMethod ({ cls := "FinderHouseModel", name := "ith", desc := "(IJ)I" } : Jvm.MethodName) ∈ tb := tb14 148 (by decide +kernel) (by decide +kernel)
theorem k_14_149 : Jvm.Cond.selects "FinderHouseModel" ({ cls := "FinderHouseModel", name := "ith", desc := "(IJ)I" } : Jvm.MethodName) ({ cls := "FinderHouseModel", name := "ith", desc := "(IJ)I" } : Jvm.MethodName) ∈ tb := tb14 149 (by decide +kernel) (by decide +kernel)
theorem dL_law_556 : decode cL_law 556 = .ok (.invokevirtual 81, 3) := by decide +kernel
theorem dL_law_559 : decode cL_law 559 = .ok (.if_icmp .eq 1038, 3) := by decide +kernel
theorem dL_law_564 : decode cL_law 564 = .ok (.aload_n 1, 1) := by decide +kernel
theorem dL_law_565 : decode cL_law 565 = .ok (.aload_n 0, 1) := by decide +kernel
theorem dL_law_566 : decode cL_law 566 = .ok (.iload 4, 2) := by decide +kernel
theorem dL_law_568 : decode cL_law 568 = .ok (.iconst 1, 1) := by decide +kernel
theorem dL_law_569 : decode cL_law 569 = .ok (.iadd, 1) := by decide +kernel
theorem dL_law_570 : decode cL_law 570 = .ok (.iaload, 1) := by decide +kernel
theorem k_6_159 : Jvm.Cond.code ({ cls := "FinderHouse", name := "different", desc := "(I)I" } : Jvm.MethodName) prog_1_method_18_code (3 : Nat) (Option.some Jvm.ClassFile.FieldType.int) ∈ tb := tb6 159 (by decide +kernel) (by decide +kernel)
theorem k_6_156 : Jvm.Cond.methodLink "FinderHouseLaw" (82 : Nat) ({ cls := "FinderHouse", name := "different", desc := "(I)I" } : Jvm.MethodName) ∈ tb := tb6 156 (by decide +kernel) (by decide +kernel)
theorem k_6_157 : Jvm.Cond.instanceMethod ({ cls := "FinderHouse", name := "different", desc := "(I)I" } : Jvm.MethodName) ∈ tb := tb6 157 (by decide +kernel) (by decide +kernel)
theorem k_6_158 : Jvm.Cond.selects "FinderHouse" ({ cls := "FinderHouse", name := "different", desc := "(I)I" } : Jvm.MethodName) ({ cls := "FinderHouse", name := "different", desc := "(I)I" } : Jvm.MethodName) ∈ tb := tb6 158 (by decide +kernel) (by decide +kernel)
theorem dL_law_571 : decode cL_law 571 = .ok (.invokevirtual 82, 3) := by decide +kernel
theorem dL_law_574 : decode cL_law 574 = .ok (.aload_n 2, 1) := by decide +kernel
theorem dL_law_575 : decode cL_law 575 = .ok (.aload_n 0, 1) := by decide +kernel
theorem dL_law_576 : decode cL_law 576 = .ok (.iload 4, 2) := by decide +kernel
theorem dL_law_578 : decode cL_law 578 = .ok (.iconst 1, 1) := by decide +kernel
theorem dL_law_579 : decode cL_law 579 = .ok (.iadd, 1) := by decide +kernel
theorem dL_law_580 : decode cL_law 580 = .ok (.iaload, 1) := by decide +kernel
theorem k_14_167 : Jvm.Cond.code ({ cls := "FinderHouseModel", name := "different", desc := "(I)I" } : Jvm.MethodName) prog_14_method_109_code (5 : Nat) (Option.some Jvm.ClassFile.FieldType.int) ∈ tb := tb14 167 (by decide +kernel) (by decide +kernel)
theorem k_14_164 : Jvm.Cond.methodLink "FinderHouseLaw" (85 : Nat) ({ cls := "FinderHouseModel", name := "different", desc := "(I)I" } : Jvm.MethodName) ∈ tb := tb14 164 (by decide +kernel) (by decide +kernel)
theorem k_14_165 : Jvm.Cond.instanceMethod ({ cls := "FinderHouseModel", name := "different", desc := "(I)I" } : Jvm.MethodName) ∈ tb := tb14 165 (by decide +kernel) (by decide +kernel)
theorem k_14_166 : Jvm.Cond.selects "FinderHouseModel" ({ cls := "FinderHouseModel", name := "different", desc := "(I)I" } : Jvm.MethodName) ({ cls := "FinderHouseModel", name := "different", desc := "(I)I" } : Jvm.MethodName) ∈ tb := tb14 166 (by decide +kernel) (by decide +kernel)
theorem dL_law_581 : decode cL_law 581 = .ok (.invokevirtual 85, 3) := by decide +kernel
theorem dL_law_584 : decode cL_law 584 = .ok (.if_icmp .eq 1013, 3) := by decide +kernel
theorem dL_law_589 : decode cL_law 589 = .ok (.aload_n 1, 1) := by decide +kernel
theorem dL_law_590 : decode cL_law 590 = .ok (.aload_n 0, 1) := by decide +kernel
theorem dL_law_591 : decode cL_law 591 = .ok (.iload 4, 2) := by decide +kernel
theorem dL_law_593 : decode cL_law 593 = .ok (.iconst 1, 1) := by decide +kernel
theorem dL_law_594 : decode cL_law 594 = .ok (.iadd, 1) := by decide +kernel
theorem dL_law_595 : decode cL_law 595 = .ok (.iaload, 1) := by decide +kernel
theorem k_6_167 : Jvm.Cond.code ({ cls := "FinderHouse", name := "question", desc := "(I)I" } : Jvm.MethodName) prog_1_method_19_code (3 : Nat) (Option.some Jvm.ClassFile.FieldType.int) ∈ tb := tb6 167 (by decide +kernel) (by decide +kernel)
theorem k_6_164 : Jvm.Cond.methodLink "FinderHouseLaw" (86 : Nat) ({ cls := "FinderHouse", name := "question", desc := "(I)I" } : Jvm.MethodName) ∈ tb := tb6 164 (by decide +kernel) (by decide +kernel)
theorem k_6_165 : Jvm.Cond.instanceMethod ({ cls := "FinderHouse", name := "question", desc := "(I)I" } : Jvm.MethodName) ∈ tb := tb6 165 (by decide +kernel) (by decide +kernel)
theorem k_6_166 : Jvm.Cond.selects "FinderHouse" ({ cls := "FinderHouse", name := "question", desc := "(I)I" } : Jvm.MethodName) ({ cls := "FinderHouse", name := "question", desc := "(I)I" } : Jvm.MethodName) ∈ tb := tb6 166 (by decide +kernel) (by decide +kernel)
theorem dL_law_596 : decode cL_law 596 = .ok (.invokevirtual 86, 3) := by decide +kernel
theorem dL_law_599 : decode cL_law 599 = .ok (.aload_n 2, 1) := by decide +kernel
theorem dL_law_600 : decode cL_law 600 = .ok (.aload_n 0, 1) := by decide +kernel
theorem dL_law_601 : decode cL_law 601 = .ok (.iload 4, 2) := by decide +kernel
theorem dL_law_603 : decode cL_law 603 = .ok (.iconst 1, 1) := by decide +kernel
theorem dL_law_604 : decode cL_law 604 = .ok (.iadd, 1) := by decide +kernel
theorem dL_law_605 : decode cL_law 605 = .ok (.iaload, 1) := by decide +kernel
theorem k_14_171 : Jvm.Cond.code ({ cls := "FinderHouseModel", name := "question", desc := "(I)I" } : Jvm.MethodName) prog_14_method_110_code (11 : Nat) (Option.some Jvm.ClassFile.FieldType.int) ∈ tb := tb14 171 (by decide +kernel) (by decide +kernel)
theorem k_14_168 : Jvm.Cond.methodLink "FinderHouseLaw" (89 : Nat) ({ cls := "FinderHouseModel", name := "question", desc := "(I)I" } : Jvm.MethodName) ∈ tb := tb14 168 (by decide +kernel) (by decide +kernel)
theorem k_14_169 : Jvm.Cond.instanceMethod ({ cls := "FinderHouseModel", name := "question", desc := "(I)I" } : Jvm.MethodName) ∈ tb := tb14 169 (by decide +kernel) (by decide +kernel)
theorem k_14_170 : Jvm.Cond.selects "FinderHouseModel" ({ cls := "FinderHouseModel", name := "question", desc := "(I)I" } : Jvm.MethodName) ({ cls := "FinderHouseModel", name := "question", desc := "(I)I" } : Jvm.MethodName) ∈ tb := tb14 170 (by decide +kernel) (by decide +kernel)
theorem dL_law_606 : decode cL_law 606 = .ok (.invokevirtual 89, 3) := by decide +kernel
theorem dL_law_609 : decode cL_law 609 = .ok (.if_icmp .eq 988, 3) := by decide +kernel
theorem dL_law_614 : decode cL_law 614 = .ok (.aload_n 1, 1) := by decide +kernel
theorem k_6_180 : Jvm.Cond.code ({ cls := "FinderHouse", name := "cheaper", desc := "()I" } : Jvm.MethodName) prog_1_method_21_code (3 : Nat) (Option.some Jvm.ClassFile.FieldType.int) ∈ tb := tb6 180 (by decide +kernel) (by decide +kernel)
theorem k_6_177 : Jvm.Cond.methodLink "FinderHouseLaw" (90 : Nat) ({ cls := "FinderHouse", name := "cheaper", desc := "()I" } : Jvm.MethodName) ∈ tb := tb6 177 (by decide +kernel) (by decide +kernel)
theorem k_6_178 : Jvm.Cond.instanceMethod ({ cls := "FinderHouse", name := "cheaper", desc := "()I" } : Jvm.MethodName) ∈ tb := tb6 178 (by decide +kernel) (by decide +kernel)
theorem k_6_179 : Jvm.Cond.selects "FinderHouse" ({ cls := "FinderHouse", name := "cheaper", desc := "()I" } : Jvm.MethodName) ({ cls := "FinderHouse", name := "cheaper", desc := "()I" } : Jvm.MethodName) ∈ tb := tb6 179 (by decide +kernel) (by decide +kernel)
theorem dL_law_615 : decode cL_law 615 = .ok (.invokevirtual 90, 3) := by decide +kernel
theorem dL_law_618 : decode cL_law 618 = .ok (.aload_n 2, 1) := by decide +kernel
theorem k_14_175 : Jvm.Cond.codeWith ({ cls := "FinderHouseModel", name := "cheaper", desc := "()I" } : Jvm.MethodName) prog_14_method_113_code (4 : Nat) (Option.some Jvm.ClassFile.FieldType.int) [((14 : Nat), (25 : Nat), (28 : Nat), (89 : Nat))] ∈ tb := tb14 175 (by decide +kernel) (by decide +kernel)
theorem k_14_172 : Jvm.Cond.methodLink "FinderHouseLaw" (93 : Nat) ({ cls := "FinderHouseModel", name := "cheaper", desc := "()I" } : Jvm.MethodName) ∈ tb := tb14 172 (by decide +kernel) (by decide +kernel)
theorem k_14_173 : Jvm.Cond.instanceMethod ({ cls := "FinderHouseModel", name := "cheaper", desc := "()I" } : Jvm.MethodName) ∈ tb := tb14 173 (by decide +kernel) (by decide +kernel)
theorem k_14_174 : Jvm.Cond.selects "FinderHouseModel" ({ cls := "FinderHouseModel", name := "cheaper", desc := "()I" } : Jvm.MethodName) ({ cls := "FinderHouseModel", name := "cheaper", desc := "()I" } : Jvm.MethodName) ∈ tb := tb14 174 (by decide +kernel) (by decide +kernel)
theorem dL_law_619 : decode cL_law 619 = .ok (.invokevirtual 93, 3) := by decide +kernel
theorem dL_law_622 : decode cL_law 622 = .ok (.if_icmp .eq 975, 3) := by decide +kernel
theorem dL_law_627 : decode cL_law 627 = .ok (.aload_n 1, 1) := by decide +kernel
theorem k_6_214 : Jvm.Cond.code ({ cls := "FinderHouse", name := "sketch", desc := "()I" } : Jvm.MethodName) prog_1_method_22_code (4 : Nat) (Option.some Jvm.ClassFile.FieldType.int) ∈ tb := tb6 214 (by decide +kernel) (by decide +kernel)
theorem k_6_211 : Jvm.Cond.methodLink "FinderHouseLaw" (94 : Nat) ({ cls := "FinderHouse", name := "sketch", desc := "()I" } : Jvm.MethodName) ∈ tb := tb6 211 (by decide +kernel) (by decide +kernel)
theorem k_6_212 : Jvm.Cond.instanceMethod ({ cls := "FinderHouse", name := "sketch", desc := "()I" } : Jvm.MethodName) ∈ tb := tb6 212 (by decide +kernel) (by decide +kernel)
theorem k_6_213 : Jvm.Cond.selects "FinderHouse" ({ cls := "FinderHouse", name := "sketch", desc := "()I" } : Jvm.MethodName) ({ cls := "FinderHouse", name := "sketch", desc := "()I" } : Jvm.MethodName) ∈ tb := tb6 213 (by decide +kernel) (by decide +kernel)
theorem dL_law_628 : decode cL_law 628 = .ok (.invokevirtual 94, 3) := by decide +kernel
theorem dL_law_631 : decode cL_law 631 = .ok (.aload_n 2, 1) := by decide +kernel
theorem k_14_187 : Jvm.Cond.codeWith ({ cls := "FinderHouseModel", name := "sketch", desc := "()I" } : Jvm.MethodName) prog_14_method_117_code (5 : Nat) (Option.some Jvm.ClassFile.FieldType.int) [((14 : Nat), (66 : Nat), (69 : Nat), (89 : Nat))] ∈ tb := tb14 187 (by decide +kernel) (by decide +kernel)
theorem k_14_184 : Jvm.Cond.methodLink "FinderHouseLaw" (97 : Nat) ({ cls := "FinderHouseModel", name := "sketch", desc := "()I" } : Jvm.MethodName) ∈ tb := tb14 184 (by decide +kernel) (by decide +kernel)
theorem k_14_185 : Jvm.Cond.instanceMethod ({ cls := "FinderHouseModel", name := "sketch", desc := "()I" } : Jvm.MethodName) ∈ tb := tb14 185 (by decide +kernel) (by decide +kernel)
theorem k_14_186 : Jvm.Cond.selects "FinderHouseModel" ({ cls := "FinderHouseModel", name := "sketch", desc := "()I" } : Jvm.MethodName) ({ cls := "FinderHouseModel", name := "sketch", desc := "()I" } : Jvm.MethodName) ∈ tb := tb14 186 (by decide +kernel) (by decide +kernel)
theorem dL_law_632 : decode cL_law 632 = .ok (.invokevirtual 97, 3) := by decide +kernel
theorem dL_law_635 : decode cL_law 635 = .ok (.if_icmp .eq 962, 3) := by decide +kernel
set_option maxHeartbeats 4000000 in
set_option maxRecDepth 100000 in
theorem lw_c0 {p : Program} {e : Env} {s : State} {m : MethodId} {below : List Frame} {meth : Method} {c : Code} (l : Launch) {b : Nat} {xs : Nat → Int32} (C0 : lw_At p s m meth c b 6 xs) (dC : Nat → ClassId) (dI : Nat → Nat → Nat) {A : Nat → Prop} (hA : ∀ q : Nat, s.heap.size ≤ q → A q) (hA2 : ∀ q : Nat, A q → s.heap.size ≤ q) (xq : Nat) (xfs1 : List Value) (xtp : Nat) (xcT : ClassId) (xft : Nat → Int32) (mq : Nat) (mfs1 : List Value) (mtq : Nat) (mc2 : ClassId) (mf2 : Nat → Int32) (ou : Nat) (cO : ClassId) {H : Heap} {locs : List Loc} {ls : Array Slot} (hK : va_K (dC, dI) cls [(xcT, .byte), (mc2, .int), (cO, .long)] s) (hP : va_P (dC, dI) cls [(xq, .inr (11, xfs1)), (xtp, .inl (xcT, 2000, .inl xft)), (mq, .inr (15, mfs1)), (mtq, .inl (mc2, 2000, .inl mf2)), (ou, .inl (cO, 1, .inr (.inl (fun _ => 0))))] H) (hD : va_D A [(xq, .inr (11, xfs1)), (xtp, .inl (xcT, 2000, .inl xft)), (mq, .inr (15, mfs1)), (mtq, .inl (mc2, 2000, .inl mf2)), (ou, .inl (cO, 1, .inr (.inl (fun _ => 0))))]) (hS : va_S A s.heap H locs) (hl : lv_has ls 7 [(4, .int 0), (3, .ref ou), (2, .ref mq), (1, .ref xq), (0, .ref b)]) (L_xfs1 : xfs1.length = 18) (K0_xfs1 : xfs1[0]? = some (.ref xtp)) (K1_xfs1 : xfs1[1]? = some (.int 0)) (L_mfs1 : mfs1.length = 163) (K53_mfs1 : mfs1[53]? = some (.int 0)) (K52_mfs1 : mfs1[52]? = some (.ref mtq)) : W p l e room_1 s m #[Value.ref b] below meth c H locs 951 1458901 (lw_Z below #[Value.ref b] s) (F0 m 240 ls []) := by
  obtain ⟨hx, hb, hr, hml, hown, hts, hX, hbl, hlocks, hgv⟩ := id C0
  have hown : s.vm.findClass RL = some m.cls := hown
  have ht : ∀ w ∈ tb, w.before #[Value.ref b] s = true := fun w hw => hts w (List.mem_filter.mp hw).1
  have hbA : ¬ A b := fun h => absurd (hA2 _ h) (Nat.not_le.mpr hbl)
  refine lv_aload_n hx hb dL_law_240 rfl (lv_at hl 3 rfl) ?_
  refine lv_aload_n hx hb dL_law_241 rfl (lv_at hl 4 rfl) ?_
  refine lv_iload hx hb dL_law_242 (lv_at hl 0 rfl) ?_
  refine lv_iconst (v := 1) hx hb dL_law_244 (by decide) ?_
  refine lv_iadd hx hb dL_law_245 ?_
  refine tk_i (y := 1) (by decide) ?_
  refine va_sld hx hb hX hbl hbA hS (by unfold vp_in; decide) dL_law_246 ?_
  refine tk_i (y := (xs 1)) rfl ?_
  refine lv_aload_n hx hb dL_law_247 rfl (lv_at hl 4 rfl) ?_
  refine lv_iload hx hb dL_law_248 (lv_at hl 0 rfl) ?_
  refine lv_iconst (v := 2) hx hb dL_law_250 (by decide) ?_
  refine lv_iadd hx hb dL_law_251 ?_
  refine tk_i (y := 2) (by decide) ?_
  refine va_sld hx hb hX hbl hbA hS (by unfold vp_in; decide) dL_law_252 ?_
  refine tk_i (y := (xs 2)) rfl ?_
  refine lv_aload_n hx hb dL_law_253 rfl (lv_at hl 4 rfl) ?_
  refine lv_iload hx hb dL_law_254 (lv_at hl 0 rfl) ?_
  refine lv_iconst (v := 3) hx hb dL_law_256 (by decide) ?_
  refine lv_iadd hx hb dL_law_257 ?_
  refine tk_i (y := 3) (by decide) ?_
  refine va_sld hx hb hX hbl hbA hS (by unfold vp_in; decide) dL_law_258 ?_
  refine tk_i (y := (xs 3)) rfl ?_
  refine lv_aload_n hx hb dL_law_259 rfl (lv_at hl 4 rfl) ?_
  refine lv_iload hx hb dL_law_260 (lv_at hl 0 rfl) ?_
  refine lv_iconst (v := 4) hx hb dL_law_262 (by decide) ?_
  refine lv_iadd hx hb dL_law_263 ?_
  refine tk_i (y := 4) (by decide) ?_
  refine va_sld hx hb hX hbl hbA hS (by unfold vp_in; decide) dL_law_264 ?_
  refine tk_i (y := (xs 4)) rfl ?_
  refine lv_aload_n hx hb dL_law_265 rfl (lv_at hl 4 rfl) ?_
  refine lv_iload hx hb dL_law_266 (lv_at hl 0 rfl) ?_
  refine lv_iconst (v := 5) hx hb dL_law_268 (by decide) ?_
  refine lv_iadd hx hb dL_law_269 ?_
  refine tk_i (y := 5) (by decide) ?_
  refine va_sld hx hb hX hbl hbA hS (by unfold vp_in; decide) dL_law_270 ?_
  refine tk_i (y := (xs 5)) rfl ?_
  refine lv_aload_n hx hb dL_law_271 rfl (lv_at hl 1 rfl) ?_
  refine ca_i (wr := [(mq, .inr (15, mfs1)), (mtq, .inl (mc2, 2000, .inl mf2))]) (vx_runSW (As := [.ref xq, .int (xs 1), .int (xs 2), .int (xs 3), .int (xs 4), .int (xs 5), .ref ou]) (rest := []) ⟨hx, hb, hml, hown, ht⟩ (l_feed l dC dI H.size xq xfs1 xtp xcT xft ou cO (fun _ => 0) (xs 1) (xs 2) (xs 3) (xs 4) (xs 5) L_xfs1 K0_xfs1 K1_xfs1 ) (vx_cwSW 7 ht (gdS2 k_9_91 k_9_89 k_9_90 k_1_0) rfl rfl rfl (by decide +kernel) ⟨Nat.le_of_ble_eq_true rfl, Nat.le_of_ble_eq_true rfl⟩) ⟨pcw_blind, pcw_at hP hD hK [0, 1, 4] [0, 2] (by decide) rfl rfl rfl⟩ rfl rfl hl.1 rfl (lv_room (Nat.le_of_ble_eq_true rfl)) dL_law_272 ⟨Nat.le_of_ble_eq_true rfl, Nat.le_of_ble_eq_true rfl⟩) hP hD hK hS hA [0, 1, 4] [2, 3] rfl rfl (by decide) (by decide) (fun r_1 u H locs w_2 hK hP hD hS => ?_)
  obtain ⟨y_3, rfl⟩ : ∃ z, z = u := ⟨_, rfl⟩
  have hK : va_K (dC, dI) cls [(xcT, .byte), (mc2, .int), (cO, .long), (cO, .long)] s := hK
  have hP : va_P (dC, dI) cls [(mq, .inr (15, mfs1)), (mtq, .inl (mc2, 2000, .inl mf2)), (ou, .inl (cO, 1, .inr (.inl y_3)))] H := hP
  have hD : va_D A [(mq, .inr (15, mfs1)), (mtq, .inl (mc2, 2000, .inl mf2)), (ou, .inl (cO, 1, .inr (.inl y_3)))] := hD
  obtain ⟨rfl, hfo⟩ := w_2
  refine lv_istore (lv' := [(5, .int 0), (4, .int 0), (3, .ref ou), (2, .ref mq), (1, .ref xq), (0, .ref b)]) hx hb dL_law_275 hl (by decide) rfl (fun ls hl => ?_)
  refine lv_aload_n hx hb dL_law_277 rfl (lv_at hl 3 rfl) ?_
  refine lv_aload_n hx hb dL_law_278 rfl (lv_at hl 5 rfl) ?_
  refine lv_iload hx hb dL_law_279 (lv_at hl 1 rfl) ?_
  refine lv_iconst (v := 1) hx hb dL_law_281 (by decide) ?_
  refine lv_iadd hx hb dL_law_282 ?_
  refine tk_i (y := 1) (by decide) ?_
  refine va_sld hx hb hX hbl hbA hS (by unfold vp_in; decide) dL_law_283 ?_
  refine tk_i (y := (xs 1)) rfl ?_
  refine lv_aload_n hx hb dL_law_284 rfl (lv_at hl 5 rfl) ?_
  refine lv_iload hx hb dL_law_285 (lv_at hl 1 rfl) ?_
  refine lv_iconst (v := 2) hx hb dL_law_287 (by decide) ?_
  refine lv_iadd hx hb dL_law_288 ?_
  refine tk_i (y := 2) (by decide) ?_
  refine va_sld hx hb hX hbl hbA hS (by unfold vp_in; decide) dL_law_289 ?_
  refine tk_i (y := (xs 2)) rfl ?_
  refine lv_aload_n hx hb dL_law_290 rfl (lv_at hl 5 rfl) ?_
  refine lv_iload hx hb dL_law_291 (lv_at hl 1 rfl) ?_
  refine lv_iconst (v := 3) hx hb dL_law_293 (by decide) ?_
  refine lv_iadd hx hb dL_law_294 ?_
  refine tk_i (y := 3) (by decide) ?_
  refine va_sld hx hb hX hbl hbA hS (by unfold vp_in; decide) dL_law_295 ?_
  refine tk_i (y := (xs 3)) rfl ?_
  refine lv_aload_n hx hb dL_law_296 rfl (lv_at hl 5 rfl) ?_
  refine lv_iload hx hb dL_law_297 (lv_at hl 1 rfl) ?_
  refine lv_iconst (v := 4) hx hb dL_law_299 (by decide) ?_
  refine lv_iadd hx hb dL_law_300 ?_
  refine tk_i (y := 4) (by decide) ?_
  refine va_sld hx hb hX hbl hbA hS (by unfold vp_in; decide) dL_law_301 ?_
  refine tk_i (y := (xs 4)) rfl ?_
  refine lv_aload_n hx hb dL_law_302 rfl (lv_at hl 5 rfl) ?_
  refine lv_iload hx hb dL_law_303 (lv_at hl 1 rfl) ?_
  refine lv_iconst (v := 5) hx hb dL_law_305 (by decide) ?_
  refine lv_iadd hx hb dL_law_306 ?_
  refine tk_i (y := 5) (by decide) ?_
  refine va_sld hx hb hX hbl hbA hS (by unfold vp_in; decide) dL_law_307 ?_
  refine tk_i (y := (xs 5)) rfl ?_
  refine ca_i (wr := [(ou, .inl (cO, 1, .inr (.inl y_3)))]) (va_runV (As := [.int (xs 1), .int (xs 2), .int (xs 3), .int (xs 4), .int (xs 5)]) (rest := []) ⟨hx, hb, hml, hown, ht⟩ (r_feed l dC dI H.size mq mfs1 mtq mc2 mf2 (xs 1) (xs 2) (xs 3) (xs 4) (xs 5) L_mfs1 K52_mfs1 K53_mfs1 ) (cwV 5 ht (gdV k_12_205 k_12_202 k_12_203 k_12_204 k_1_17) rfl rfl rfl (by decide +kernel) ⟨Nat.le_of_ble_eq_true rfl, Nat.le_of_ble_eq_true rfl⟩) ⟨pcw_blind, va_recv hK hP (ci := 15) (q0 := 0) rfl rfl, pcw_at hP hD hK [0, 1] [1] (by decide) rfl rfl rfl⟩ rfl rfl hl.1 rfl (lv_room (Nat.le_of_ble_eq_true rfl)) dL_law_308 ⟨Nat.le_of_ble_eq_true rfl, Nat.le_of_ble_eq_true rfl⟩) hP hD hK hS hA [0, 1] [2] rfl rfl (by decide) (by decide) (fun r_4 u H locs w_5 hK hP hD hS => ?_)
  obtain ⟨F_6, rfl⟩ : ∃ z, z = u := ⟨_, rfl⟩
  have hK : va_K (dC, dI) cls [(xcT, .byte), (mc2, .int), (cO, .long), (cO, .long)] s := hK
  have hP : va_P (dC, dI) cls [(ou, .inl (cO, 1, .inr (.inl y_3))), (mq, .inr (15, F_6))] H := hP
  have hD : va_D A [(ou, .inl (cO, 1, .inr (.inl y_3))), (mq, .inr (15, F_6))] := hD
  obtain ⟨w_5, K_7, K_8⟩ := w_5
  obtain rfl : r_4 = 20 := w_5
  refine lv_istore (lv' := [(6, .int 20), (5, .int 0), (4, .int 0), (3, .ref ou), (2, .ref mq), (1, .ref xq), (0, .ref b)]) hx hb dL_law_311 hl (by decide) rfl (fun ls hl => ?_)
  refine lv_aload_n hx hb dL_law_313 rfl (lv_at hl 4 rfl) ?_
  refine ca_i (wr := [(ou, .inl (cO, 1, .inr (.inl y_3)))]) (va_runV (As := []) (rest := []) ⟨hx, hb, hml, hown, ht⟩ (r_thrown_0 l dC dI H.size mq F_6 K_7 K_8 ) (cwV 0 ht (gdV k_12_201 k_12_198 k_12_199 k_12_200 k_1_17) rfl rfl rfl (by decide +kernel) ⟨Nat.le_of_ble_eq_true rfl, Nat.le_of_ble_eq_true rfl⟩) ⟨pcw_blind, va_recv hK hP (ci := 15) (q0 := 1) rfl rfl, pcw_at hP hD hK [1] [] (by decide) rfl rfl rfl⟩ rfl rfl hl.1 rfl (lv_room (Nat.le_of_ble_eq_true rfl)) dL_law_314 ⟨Nat.le_of_ble_eq_true rfl, Nat.le_of_ble_eq_true rfl⟩) hP hD hK hS hA [1] [0] rfl rfl (by decide) (by decide) (fun r_9 u H locs w_10 hK hP hD hS => ?_)
  have hK : va_K (dC, dI) cls [(xcT, .byte), (mc2, .int), (cO, .long), (cO, .long)] s := hK
  have hP : va_P (dC, dI) cls [(ou, .inl (cO, 1, .inr (.inl y_3)))] H := hP
  have hD : va_D A [(ou, .inl (cO, 1, .inr (.inl y_3)))] := hD
  obtain rfl : r_9 = 0 := w_10
  refine lv_iload hx hb dL_law_317 (lv_at hl 1 rfl) ?_
  refine lv_icmp_eq (tgt := 324) hx hb dL_law_319 (by decide) (fun _ => ?_) (fun c0 => absurd c0 (by decide))
  refine lv_iload hx hb dL_law_324 (lv_at hl 1 rfl) ?_
  refine lv_if_ne (tgt := 341) hx hb dL_law_326 (by decide) (fun c0 => absurd c0 (by decide)) (fun _ => ?_)
  refine lv_aload_n hx hb dL_law_329 rfl (lv_at hl 3 rfl) ?_
  refine lv_iconst (v := 0) hx hb dL_law_330 (by decide) ?_
  refine va_lald hx hb hK hP 0 2 rfl rfl (by unfold vp_in; decide) dL_law_331 ?_
  refine tk_l (y := y_3 0) (by first | rfl | decide) ?_
  refine tk_l (y := 20) hfo ?_
  refine lv_iload hx hb dL_law_332 (lv_at hl 0 rfl) ?_
  refine lv_i2l (v := 20) hx hb dL_law_334 (by decide) ?_
  refine W.lcmp hx hb dL_law_335 ?_
  refine tk_i (y := 0) (by decide) ?_
  refine lv_if_eq (tgt := 341) hx hb dL_law_336 (by decide) (fun _ => ?_) (fun c0 => absurd c0 (by decide))
  refine lv_goto (tgt := 1597) hx hb dL_law_341 (by decide) ?_
  exact lw_tail l C0 hA2 hS (lv_sub hl [2, 6] rfl) (Nat.le_of_ble_eq_true rfl) (Nat.le_of_ble_eq_true rfl)
set_option maxHeartbeats 4000000 in
set_option maxRecDepth 100000 in
theorem lw_c1 {p : Program} {e : Env} {s : State} {m : MethodId} {below : List Frame} {meth : Method} {c : Code} (l : Launch) {b : Nat} {xs : Nat → Int32} (C0 : lw_At p s m meth c b 6 xs) (dC : Nat → ClassId) (dI : Nat → Nat → Nat) {A : Nat → Prop} (hA : ∀ q : Nat, s.heap.size ≤ q → A q) (hA2 : ∀ q : Nat, A q → s.heap.size ≤ q) (hlt : l.stackTraces = false) (xq : Nat) (xfs1 : List Value) (mq : Nat) (mfs1 : List Value) (ou : Nat) (st0 : Nat) (st1 : Nat) (st2 : Nat) (st3 : Nat) (st4 : Nat) (st5 : Nat) (st6 : Nat) (st7 : Nat) (sv0 : Nat) (sv1 : Nat) (sv2 : Nat) (hE : xf_all A s s.heap [.inr (.inl ("FinderHouse$Acts", 47, "add sub mul div rem min max and or xor less same not both any if pick cat len take drop rev head like code sign ", st0)), .inr (.inl ("FinderHouse$Acts", 63, "nnn nnn nnn nnn nnn nnn nnn nnn nnn nnn nnt nnt tt ttt ttt tnnn tsss sss sn sns sns ss ss sst sn ns ", st1)), .inl ("java/lang/String", "COMPACT_STRINGS", "Z", .int 1), .inr (.inr (.inr (.inr (.inl ("jdk/internal/util/Preconditions", "SIOOBE_FORMATTER", "Ljava/util/function/BiFunction;"))))), .inr (.inr (.inr (.inl "FinderHouse$Term"))), .inr (.inr (.inr (.inr (.inr (.inr ()))))), .inr (.inl ("FinderHouseModel", 313, "add nnn sub nnn mul nnn div nnn rem nnn min nnn max nnn and nnn or nnn xor nnn less nnt same nnt not tt both ttt any ttt if tnnn pick tsss cat sss len sn take sns drop sns rev ss head ss like sst code sn sign ns ", st2)), .inr (.inr (.inr (.inr (.inr (.inl .int))))), .inr (.inr (.inr (.inr (.inr (.inl .long))))), .inr (.inr (.inr (.inr (.inl ("java/lang/Throwable", "UNASSIGNED_STACK", "[Ljava/lang/StackTraceElement;"))))), .inr (.inr (.inr (.inr (.inl ("java/lang/Throwable", "SUPPRESSED_SENTINEL", "Ljava/util/List;"))))), .inr (.inr (.inl (st0, sv0, bsN))), .inr (.inr (.inl (st1, sv1, bsK))), .inr (.inr (.inl (st2, sv2, bsB))), .inr (.inl ("FinderHouse$Reader", 209, "find", st3)), .inr (.inl ("FinderHouse$Reader", 271, "act", st4)), .inr (.inl ("FinderHouse$Reader", 291, "loop", st5)), .inl ("FinderHouseModel", "TRUE", "J", .long 407354), .inl ("FinderHouseModel", "FALSE", "J", .long 3217595), .inl ("FinderHouseModel", "FIND", "J", .long 125041), .inl ("FinderHouseModel", "ACT", "J", .long 830), .inl ("FinderHouseModel", "LOOP", "J", .long 247552), .inr (.inl ("FinderHouse", 104, "the tape has not so many bytes", st6)), .inr (.inl ("FinderHouse", 534, "no such byte on the disk", st7))]) {H : Heap} {locs : List Loc} {ls : Array Slot} (hK : va_K (dC, dI) cls [] s) (hP : va_P (dC, dI) cls [(xq, .inr (11, xfs1)), (mq, .inr (15, mfs1))] H) (hD : va_D A [(xq, .inr (11, xfs1)), (mq, .inr (15, mfs1))]) (hS : va_S A s.heap H locs) (hl : lv_has ls 7 [(4, .int 0), (3, .ref ou), (2, .ref mq), (1, .ref xq), (0, .ref b)]) (L_xfs1 : xfs1.length = 18) (K1_xfs1 : xfs1[1]? = some (.int 0)) (L_mfs1 : mfs1.length = 163) (K53_mfs1 : mfs1[53]? = some (.int 0)) : W p l e room_1 s m #[Value.ref b] below meth c H locs 951 1458901 (lw_Z below #[Value.ref b] s) (F0 m 344 ls []) := by
  obtain ⟨hx, hb, hr, hml, hown, hts, hX, hbl, hlocks, hgv⟩ := id C0
  have hown : s.vm.findClass RL = some m.cls := hown
  have ht : ∀ w ∈ tb, w.before #[Value.ref b] s = true := fun w hw => hts w (List.mem_filter.mp hw).1
  have hbA : ¬ A b := fun h => absurd (hA2 _ h) (Nat.not_le.mpr hbl)
  by_cases h1 : xs 1 = 0
  · refine lv_aload_n hx hb dL_law_344 rfl (lv_at hl 3 rfl) ?_
    refine lv_aload_n hx hb dL_law_345 rfl (lv_at hl 4 rfl) ?_
    refine lv_iload hx hb dL_law_346 (lv_at hl 0 rfl) ?_
    refine lv_iconst (v := 1) hx hb dL_law_348 (by decide) ?_
    refine lv_iadd hx hb dL_law_349 ?_
    refine tk_i (y := 1) (by decide) ?_
    refine va_sld hx hb hX hbl hbA hS (by unfold vp_in; decide) dL_law_350 ?_
    refine tk_i (y := 0) h1 ?_
    refine ca_i (wr := [(mq, .inr (15, mfs1))]) (vx_runSW (As := [.ref xq, .int 0]) (rest := []) ⟨hx, hb, hml, hown, ht⟩ (l_end_ok l dC dI H.size xq xfs1 L_xfs1 K1_xfs1 ) (vx_cwSW 2 ht (gdS2 k_9_171 k_9_169 k_9_170 k_1_0) rfl rfl rfl (by decide +kernel) ⟨Nat.le_of_ble_eq_true rfl, Nat.le_of_ble_eq_true rfl⟩) ⟨pcw_blind, pcw_at hP hD hK [0] [] (by decide) rfl rfl rfl⟩ rfl rfl hl.1 rfl (lv_room (Nat.le_of_ble_eq_true rfl)) dL_law_351 ⟨Nat.le_of_ble_eq_true rfl, Nat.le_of_ble_eq_true rfl⟩) hP hD hK hS hA [0] [1] rfl rfl (by decide) (by decide) (fun r_1 u H locs w_2 hK hP hD hS => ?_)
    have hK : va_K (dC, dI) cls [] s := hK
    have hP : va_P (dC, dI) cls [(mq, .inr (15, mfs1))] H := hP
    have hD : va_D A [(mq, .inr (15, mfs1))] := hD
    obtain rfl : r_1 = 0 := w_2
    refine lv_istore (lv' := [(5, .int 0), (4, .int 0), (3, .ref ou), (2, .ref mq), (1, .ref xq), (0, .ref b)]) hx hb dL_law_354 hl (by decide) rfl (fun ls hl => ?_)
    refine lv_aload_n hx hb dL_law_356 rfl (lv_at hl 3 rfl) ?_
    refine lv_aload_n hx hb dL_law_357 rfl (lv_at hl 5 rfl) ?_
    refine lv_iload hx hb dL_law_358 (lv_at hl 1 rfl) ?_
    refine lv_iconst (v := 1) hx hb dL_law_360 (by decide) ?_
    refine lv_iadd hx hb dL_law_361 ?_
    refine tk_i (y := 1) (by decide) ?_
    refine va_sld hx hb hX hbl hbA hS (by unfold vp_in; decide) dL_law_362 ?_
    refine tk_i (y := 0) h1 ?_
    refine ca_v (wr := []) (va_runV (As := [.int 0]) (rest := []) ⟨hx, hb, hml, hown, ht⟩ (r_end_ok l dC dI H.size mq mfs1 L_mfs1 K53_mfs1 ) (cwV 1 ht (gdV k_12_213 k_12_210 k_12_211 k_12_212 k_1_17) rfl rfl rfl (by decide +kernel) ⟨Nat.le_of_ble_eq_true rfl, Nat.le_of_ble_eq_true rfl⟩) ⟨pcw_blind, va_recv hK hP (ci := 15) (q0 := 0) rfl rfl, pcw_at hP hD hK [0] [] (by decide) rfl rfl rfl⟩ rfl rfl hl.1 rfl (lv_room (Nat.le_of_ble_eq_true rfl)) dL_law_363 ⟨Nat.le_of_ble_eq_true rfl, Nat.le_of_ble_eq_true rfl⟩) hP hD hK hS hA [0] [] rfl rfl (by decide) (by decide) (fun u H locs w_4 hK hP hD hS => ?_)
    obtain ⟨F_5, rfl⟩ : ∃ z, z = u := ⟨_, rfl⟩
    have hK : va_K (dC, dI) cls [] s := hK
    have hP : va_P (dC, dI) cls [(mq, .inr (15, F_5))] H := hP
    have hD : va_D A [(mq, .inr (15, F_5))] := hD
    obtain ⟨w_4, K_6, K_7⟩ := w_4
    refine lv_aload_n hx hb dL_law_366 rfl (lv_at hl 3 rfl) ?_
    refine ca_i (wr := []) (va_runV (As := []) (rest := []) ⟨hx, hb, hml, hown, ht⟩ (r_thrown_0 l dC dI H.size mq F_5 K_6 K_7 ) (cwV 0 ht (gdV k_12_201 k_12_198 k_12_199 k_12_200 k_1_17) rfl rfl rfl (by decide +kernel) ⟨Nat.le_of_ble_eq_true rfl, Nat.le_of_ble_eq_true rfl⟩) ⟨pcw_blind, va_recv hK hP (ci := 15) (q0 := 0) rfl rfl, pcw_at hP hD hK [0] [] (by decide) rfl rfl rfl⟩ rfl rfl hl.1 rfl (lv_room (Nat.le_of_ble_eq_true rfl)) dL_law_367 ⟨Nat.le_of_ble_eq_true rfl, Nat.le_of_ble_eq_true rfl⟩) hP hD hK hS hA [0] [] rfl rfl (by decide) (by decide) (fun r_8 u H locs w_9 hK hP hD hS => ?_)
    have hK : va_K (dC, dI) cls [] s := hK
    have hP : va_P (dC, dI) cls [] H := hP
    have hD : va_D A [] := hD
    obtain rfl : r_8 = 0 := w_9
    refine lv_iload hx hb dL_law_370 (lv_at hl 0 rfl) ?_
    refine lv_icmp_eq (tgt := 377) hx hb dL_law_372 (by decide) (fun _ => ?_) (fun c0 => absurd c0 (by decide))
    refine lv_goto (tgt := 1597) hx hb dL_law_377 (by decide) ?_
    exact lw_tail l C0 hA2 hS (lv_sub hl [1, 5] rfl) (Nat.le_of_ble_eq_true rfl) (Nat.le_of_ble_eq_true rfl)
  · refine lv_aload_n hx hb dL_law_344 rfl (lv_at hl 3 rfl) ?_
    refine lv_aload_n hx hb dL_law_345 rfl (lv_at hl 4 rfl) ?_
    refine lv_iload hx hb dL_law_346 (lv_at hl 0 rfl) ?_
    refine lv_iconst (v := 1) hx hb dL_law_348 (by decide) ?_
    refine lv_iadd hx hb dL_law_349 ?_
    refine tk_i (y := 1) (by decide) ?_
    refine va_sld hx hb hX hbl hbA hS (by unfold vp_in; decide) dL_law_350 ?_
    refine tk_i (y := (xs 1)) rfl ?_
    refine ca_i (wr := [(mq, .inr (15, mfs1))]) (vx_runSW (As := [.ref xq, .int (xs 1)]) (rest := []) ⟨hx, hb, hml, hown, ht⟩ (l_end_no l dC dI H.size xq xfs1 st6 (xs 1) L_xfs1 K1_xfs1 h1 hlt) (vx_cwSW 2 ht (gdS2 k_9_171 k_9_169 k_9_170 k_1_0) rfl rfl rfl (by decide +kernel) ⟨Nat.le_of_ble_eq_true rfl, Nat.le_of_ble_eq_true rfl⟩) ⟨pcx_blind, pcx_at hP hD hK hS hA hE [0] [] [22, 9, 10, 5] (by decide) rfl rfl rfl rfl⟩ rfl rfl hl.1 rfl (lv_room (Nat.le_of_ble_eq_true rfl)) dL_law_351 ⟨Nat.le_of_ble_eq_true rfl, Nat.le_of_ble_eq_true rfl⟩) hP hD hK hS hA [0] [1] rfl rfl (by decide) (by decide) (fun r_10 u H locs w_11 hK hP hD hS => ?_)
    have hK : va_K (dC, dI) cls [] s := hK
    have hP : va_P (dC, dI) cls [(mq, .inr (15, mfs1))] H := hP
    have hD : va_D A [(mq, .inr (15, mfs1))] := hD
    refine W.widen (k := 952) (n := 1458907) (Nat.le_of_ble_eq_true rfl) (Nat.le_of_ble_eq_true rfl) ?_
    obtain rfl : r_10 = 1 := w_11
    refine lv_istore (lv' := [(5, .int 1), (4, .int 0), (3, .ref ou), (2, .ref mq), (1, .ref xq), (0, .ref b)]) hx hb dL_law_354 hl (by decide) rfl (fun ls hl => ?_)
    refine lv_aload_n hx hb dL_law_356 rfl (lv_at hl 3 rfl) ?_
    refine lv_aload_n hx hb dL_law_357 rfl (lv_at hl 5 rfl) ?_
    refine lv_iload hx hb dL_law_358 (lv_at hl 1 rfl) ?_
    refine lv_iconst (v := 1) hx hb dL_law_360 (by decide) ?_
    refine lv_iadd hx hb dL_law_361 ?_
    refine tk_i (y := 1) (by decide) ?_
    refine va_sld hx hb hX hbl hbA hS (by unfold vp_in; decide) dL_law_362 ?_
    refine tk_i (y := (xs 1)) rfl ?_
    refine ca_v (wr := []) (va_runV (As := [.int (xs 1)]) (rest := []) ⟨hx, hb, hml, hown, ht⟩ (r_end_no l dC dI H.size mq mfs1 (xs 1) L_mfs1 K53_mfs1 h1) (cwV 1 ht (gdV k_12_213 k_12_210 k_12_211 k_12_212 k_1_17) rfl rfl rfl (by decide +kernel) ⟨Nat.le_of_ble_eq_true rfl, Nat.le_of_ble_eq_true rfl⟩) ⟨pcw_blind, va_recv hK hP (ci := 15) (q0 := 0) rfl rfl, pcw_at hP hD hK [0] [] (by decide) rfl rfl rfl⟩ rfl rfl hl.1 rfl (lv_room (Nat.le_of_ble_eq_true rfl)) dL_law_363 ⟨Nat.le_of_ble_eq_true rfl, Nat.le_of_ble_eq_true rfl⟩) hP hD hK hS hA [0] [] rfl rfl (by decide) (by decide) (fun u H locs w_13 hK hP hD hS => ?_)
    obtain ⟨F_14, rfl⟩ : ∃ z, z = u := ⟨_, rfl⟩
    have hK : va_K (dC, dI) cls [] s := hK
    have hP : va_P (dC, dI) cls [(mq, .inr (15, F_14))] H := hP
    have hD : va_D A [(mq, .inr (15, F_14))] := hD
    obtain ⟨w_13, K_15, K_16⟩ := w_13
    refine lv_aload_n hx hb dL_law_366 rfl (lv_at hl 3 rfl) ?_
    refine ca_i (wr := []) (va_runV (As := []) (rest := []) ⟨hx, hb, hml, hown, ht⟩ (r_thrown_1 l dC dI H.size mq F_14 K_15 K_16 ) (cwV 0 ht (gdV k_12_201 k_12_198 k_12_199 k_12_200 k_1_17) rfl rfl rfl (by decide +kernel) ⟨Nat.le_of_ble_eq_true rfl, Nat.le_of_ble_eq_true rfl⟩) ⟨pcw_blind, va_recv hK hP (ci := 15) (q0 := 0) rfl rfl, pcw_at hP hD hK [0] [] (by decide) rfl rfl rfl⟩ rfl rfl hl.1 rfl (lv_room (Nat.le_of_ble_eq_true rfl)) dL_law_367 ⟨Nat.le_of_ble_eq_true rfl, Nat.le_of_ble_eq_true rfl⟩) hP hD hK hS hA [0] [] rfl rfl (by decide) (by decide) (fun r_17 u H locs w_18 hK hP hD hS => ?_)
    have hK : va_K (dC, dI) cls [] s := hK
    have hP : va_P (dC, dI) cls [] H := hP
    have hD : va_D A [] := hD
    obtain rfl : r_17 = 1 := w_18
    refine lv_iload hx hb dL_law_370 (lv_at hl 0 rfl) ?_
    refine lv_icmp_eq (tgt := 377) hx hb dL_law_372 (by decide) (fun _ => ?_) (fun c0 => absurd c0 (by decide))
    refine lv_goto (tgt := 1597) hx hb dL_law_377 (by decide) ?_
    exact lw_tail l C0 hA2 hS (lv_sub hl [1, 5] rfl) (Nat.le_of_ble_eq_true rfl) (Nat.le_of_ble_eq_true rfl)
set_option maxHeartbeats 4000000 in
set_option maxRecDepth 100000 in
theorem lw_c2 {p : Program} {e : Env} {s : State} {m : MethodId} {below : List Frame} {meth : Method} {c : Code} (l : Launch) {b : Nat} {xs : Nat → Int32} (C0 : lw_At p s m meth c b 6 xs) (dC : Nat → ClassId) (dI : Nat → Nat → Nat) {A : Nat → Prop} (hA : ∀ q : Nat, s.heap.size ≤ q → A q) (hA2 : ∀ q : Nat, A q → s.heap.size ≤ q) (xq : Nat) (xfs1 : List Value) (xac : Nat) (xg0 : List Value) (xsh : Nat) (xgsh : List Value) (xwr : Nat) (xgw : List Value) (xma : Nat) (xgm : List Value) (xdk : Nat) (xgd : List Value) (mq : Nat) (mfs1 : List Value) (ou : Nat) {H : Heap} {locs : List Loc} {ls : Array Slot} (hK : va_K (dC, dI) cls [] s) (hP : va_P (dC, dI) cls [(xq, .inr (11, xfs1)), (xac, .inr (0, xg0)), (xsh, .inr (8, xgsh)), (xwr, .inr (10, xgw)), (xma, .inr (5, xgm)), (xdk, .inr (2, xgd)), (mq, .inr (15, mfs1))] H) (hD : va_D A [(xq, .inr (11, xfs1)), (xac, .inr (0, xg0)), (xsh, .inr (8, xgsh)), (xwr, .inr (10, xgw)), (xma, .inr (5, xgm)), (xdk, .inr (2, xgd)), (mq, .inr (15, mfs1))]) (hS : va_S A s.heap H locs) (hl : lv_has ls 7 [(4, .int 0), (3, .ref ou), (2, .ref mq), (1, .ref xq), (0, .ref b)]) (L_xfs1 : xfs1.length = 18) (K1_xfs1 : xfs1[1]? = some (.int 0)) (K2_xfs1 : xfs1[2]? = some (.int 0)) (K7_xfs1 : xfs1[7]? = some (.ref xac)) (K11_xfs1 : xfs1[11]? = some (.int 0)) (K13_xfs1 : xfs1[13]? = some (.ref xsh)) (K15_xfs1 : xfs1[15]? = some (.ref xwr)) (K16_xfs1 : xfs1[16]? = some (.ref xma)) (K17_xfs1 : xfs1[17]? = some (.ref xdk)) (L_xg0 : xg0.length = 16) (K5_xg0 : xg0[5]? = some (.int 0)) (L_xgsh : xgsh.length = 22) (K9_xgsh : xgsh[9]? = some (.int 0)) (L_xgw : xgw.length = 21) (K0_xgw : xgw[0]? = some (.int 0)) (L_xgm : xgm.length = 15) (K0_xgm : xgm[0]? = some (.int 0)) (L_xgd : xgd.length = 7) (K1_xgd : xgd[1]? = some (.int 0)) (K3_xgd : xgd[3]? = some (.int 0)) (K4_xgd : xgd[4]? = some (.int 0)) (L_mfs1 : mfs1.length = 163) (K5_mfs1 : mfs1[5]? = some (.int 26)) (K53_mfs1 : mfs1[53]? = some (.int 0)) (K54_mfs1 : mfs1[54]? = some (.int 0)) (K77_mfs1 : mfs1[77]? = some (.int 0)) (K109_mfs1 : mfs1[109]? = some (.int 0)) (K128_mfs1 : mfs1[128]? = some (.int 0)) (K154_mfs1 : mfs1[154]? = some (.int 0)) (K156_mfs1 : mfs1[156]? = some (.int 0)) (K160_mfs1 : mfs1[160]? = some (.int 0)) (K38_mfs1 : mfs1[38]? = some (.null)) : W p l e room_1 s m #[Value.ref b] below meth c H locs 951 1458901 (lw_Z below #[Value.ref b] s) (F0 m 380 ls []) := by
  obtain ⟨hx, hb, hr, hml, hown, hts, hX, hbl, hlocks, hgv⟩ := id C0
  have hown : s.vm.findClass RL = some m.cls := hown
  have ht : ∀ w ∈ tb, w.before #[Value.ref b] s = true := fun w hw => hts w (List.mem_filter.mp hw).1
  have hbA : ¬ A b := fun h => absurd (hA2 _ h) (Nat.not_le.mpr hbl)
  refine lv_aload_n hx hb dL_law_380 rfl (lv_at hl 3 rfl) ?_
  refine lv_aload_n hx hb dL_law_381 rfl (lv_at hl 4 rfl) ?_
  refine lv_iload hx hb dL_law_382 (lv_at hl 0 rfl) ?_
  refine lv_iconst (v := 1) hx hb dL_law_384 (by decide) ?_
  refine lv_iadd hx hb dL_law_385 ?_
  refine tk_i (y := 1) (by decide) ?_
  refine va_sld hx hb hX hbl hbA hS (by unfold vp_in; decide) dL_law_386 ?_
  refine tk_i (y := (xs 1)) rfl ?_
  refine ca_i (wr := [(mq, .inr (15, mfs1))]) (va_runV (As := [.int (xs 1)]) (rest := []) ⟨hx, hb, hml, hown, ht⟩ (x_told l dC dI H.size xq xfs1 (xs 1) xac xsh xwr xma xdk xg0 xgsh xgw xgm xgd L_xfs1 K1_xfs1 K2_xfs1 K7_xfs1 K11_xfs1 K13_xfs1 K15_xfs1 K16_xfs1 K17_xfs1 L_xg0 K5_xg0 L_xgsh K9_xgsh L_xgw K0_xgw L_xgm K0_xgm L_xgd K1_xgd K3_xgd K4_xgd ) (cwV 1 ht (gdV k_4_149 k_4_146 k_4_147 k_4_148 k_1_1) rfl rfl rfl (by decide +kernel) ⟨Nat.le_of_ble_eq_true rfl, Nat.le_of_ble_eq_true rfl⟩) ⟨pcw_blind, va_recv hK hP (ci := 11) (q0 := 0) rfl rfl, pcw_at hP hD hK [0, 1, 2, 3, 4, 5] [] (by decide) rfl rfl rfl⟩ rfl rfl hl.1 rfl (lv_room (Nat.le_of_ble_eq_true rfl)) dL_law_387 ⟨Nat.le_of_ble_eq_true rfl, Nat.le_of_ble_eq_true rfl⟩) hP hD hK hS hA [0, 1, 2, 3, 4, 5] [6] rfl rfl (by decide) (by decide) (fun r_1 u H locs w_2 hK hP hD hS => ?_)
  have hK : va_K (dC, dI) cls [] s := hK
  have hP : va_P (dC, dI) cls [(mq, .inr (15, mfs1))] H := hP
  have hD : va_D A [(mq, .inr (15, mfs1))] := hD
  refine lv_aload_n hx hb dL_law_390 rfl (lv_at hl 2 rfl) ?_
  refine lv_aload_n hx hb dL_law_391 rfl (lv_at hl 4 rfl) ?_
  refine lv_iload hx hb dL_law_392 (lv_at hl 0 rfl) ?_
  refine lv_iconst (v := 1) hx hb dL_law_394 (by decide) ?_
  refine lv_iadd hx hb dL_law_395 ?_
  refine tk_i (y := 1) (by decide) ?_
  refine va_sld hx hb hX hbl hbA hS (by unfold vp_in; decide) dL_law_396 ?_
  refine tk_i (y := (xs 1)) rfl ?_
  refine ca_i (wr := []) (va_runV (As := [.int (xs 1)]) (rest := [.int r_1]) ⟨hx, hb, hml, hown, ht⟩ (r_told l dC dI H.size mq mfs1 (xs 1) L_mfs1 K5_mfs1 K38_mfs1 K53_mfs1 K54_mfs1 K77_mfs1 K109_mfs1 K128_mfs1 K154_mfs1 K156_mfs1 K160_mfs1 ) (cwV 1 ht (gdV k_12_224 k_12_221 k_12_222 k_12_223 k_1_17) rfl rfl rfl (by decide +kernel) ⟨Nat.le_of_ble_eq_true rfl, Nat.le_of_ble_eq_true rfl⟩) ⟨pcw_blind, va_recv hK hP (ci := 15) (q0 := 0) rfl rfl, pcw_at hP hD hK [0] [] (by decide) rfl rfl rfl⟩ rfl rfl hl.1 rfl (lv_room (Nat.le_of_ble_eq_true rfl)) dL_law_397 ⟨Nat.le_of_ble_eq_true rfl, Nat.le_of_ble_eq_true rfl⟩) hP hD hK hS hA [0] [] rfl rfl (by decide) (by decide) (fun r_3 u H locs w_4 hK hP hD hS => ?_)
  have hK : va_K (dC, dI) cls [] s := hK
  have hP : va_P (dC, dI) cls [] H := hP
  have hD : va_D A [] := hD
  refine lv_icmp_eq (tgt := 1597) hx hb dL_law_400 (by decide) (fun _ => ?_) (fun c0 => absurd (w_2.trans w_4.symm) c0)
  exact lw_tail l C0 hA2 hS (lv_sub hl [0, 4] rfl) (Nat.le_of_ble_eq_true rfl) (Nat.le_of_ble_eq_true rfl)
set_option maxHeartbeats 4000000 in
set_option maxRecDepth 100000 in
theorem lw_c3 {p : Program} {e : Env} {s : State} {m : MethodId} {below : List Frame} {meth : Method} {c : Code} (l : Launch) {b : Nat} {xs : Nat → Int32} (C0 : lw_At p s m meth c b 6 xs) (dC : Nat → ClassId) (dI : Nat → Nat → Nat) {A : Nat → Prop} (hA : ∀ q : Nat, s.heap.size ≤ q → A q) (hA2 : ∀ q : Nat, A q → s.heap.size ≤ q) (xq : Nat) (xfs1 : List Value) (mq : Nat) (mfs1 : List Value) (ou : Nat) {H : Heap} {locs : List Loc} {ls : Array Slot} (hK : va_K (dC, dI) cls [] s) (hP : va_P (dC, dI) cls [(xq, .inr (11, xfs1)), (mq, .inr (15, mfs1))] H) (hD : va_D A [(xq, .inr (11, xfs1)), (mq, .inr (15, mfs1))]) (hS : va_S A s.heap H locs) (hl : lv_has ls 7 [(4, .int 0), (3, .ref ou), (2, .ref mq), (1, .ref xq), (0, .ref b)]) (L_xfs1 : xfs1.length = 18) (K3_xfs1 : xfs1[3]? = some (.int (-1))) (L_mfs1 : mfs1.length = 163) (K54_mfs1 : mfs1[54]? = some (.int 0)) (K55_mfs1 : mfs1[55]? = some (.int (-1))) : W p l e room_1 s m #[Value.ref b] below meth c H locs 951 1458901 (lw_Z below #[Value.ref b] s) (F0 m 405 ls []) := by
  obtain ⟨hx, hb, hr, hml, hown, hts, hX, hbl, hlocks, hgv⟩ := id C0
  have hown : s.vm.findClass RL = some m.cls := hown
  have ht : ∀ w ∈ tb, w.before #[Value.ref b] s = true := fun w hw => hts w (List.mem_filter.mp hw).1
  have hbA : ¬ A b := fun h => absurd (hA2 _ h) (Nat.not_le.mpr hbl)
  refine lv_aload_n hx hb dL_law_405 rfl (lv_at hl 3 rfl) ?_
  refine ca_i (wr := [(mq, .inr (15, mfs1))]) (va_runV (As := []) (rest := []) ⟨hx, hb, hml, hown, ht⟩ (x_place l dC dI H.size xq xfs1 L_xfs1 K3_xfs1 ) (cwV 0 ht (gdV k_4_157 k_4_154 k_4_155 k_4_156 k_1_1) rfl rfl rfl (by decide +kernel) ⟨Nat.le_of_ble_eq_true rfl, Nat.le_of_ble_eq_true rfl⟩) ⟨pcw_blind, va_recv hK hP (ci := 11) (q0 := 0) rfl rfl, pcw_at hP hD hK [0] [] (by decide) rfl rfl rfl⟩ rfl rfl hl.1 rfl (lv_room (Nat.le_of_ble_eq_true rfl)) dL_law_406 ⟨Nat.le_of_ble_eq_true rfl, Nat.le_of_ble_eq_true rfl⟩) hP hD hK hS hA [0] [1] rfl rfl (by decide) (by decide) (fun r_1 u H locs w_2 hK hP hD hS => ?_)
  have hK : va_K (dC, dI) cls [] s := hK
  have hP : va_P (dC, dI) cls [(mq, .inr (15, mfs1))] H := hP
  have hD : va_D A [(mq, .inr (15, mfs1))] := hD
  obtain rfl : r_1 = (-1) := w_2
  refine lv_aload_n hx hb dL_law_409 rfl (lv_at hl 2 rfl) ?_
  refine ca_i (wr := []) (va_runV (As := []) (rest := [.int (-1)]) ⟨hx, hb, hml, hown, ht⟩ (r_place l dC dI H.size mq mfs1 L_mfs1 K54_mfs1 K55_mfs1 ) (cwV 0 ht (gdV k_12_220 k_12_217 k_12_218 k_12_219 k_1_17) rfl rfl rfl (by decide +kernel) ⟨Nat.le_of_ble_eq_true rfl, Nat.le_of_ble_eq_true rfl⟩) ⟨pcw_blind, va_recv hK hP (ci := 15) (q0 := 0) rfl rfl, pcw_at hP hD hK [0] [] (by decide) rfl rfl rfl⟩ rfl rfl hl.1 rfl (lv_room (Nat.le_of_ble_eq_true rfl)) dL_law_410 ⟨Nat.le_of_ble_eq_true rfl, Nat.le_of_ble_eq_true rfl⟩) hP hD hK hS hA [0] [] rfl rfl (by decide) (by decide) (fun r_3 u H locs w_4 hK hP hD hS => ?_)
  have hK : va_K (dC, dI) cls [] s := hK
  have hP : va_P (dC, dI) cls [] H := hP
  have hD : va_D A [] := hD
  obtain rfl : r_3 = (-1) := w_4
  refine lv_icmp_eq (tgt := 1597) hx hb dL_law_413 (by decide) (fun _ => ?_) (fun c0 => absurd c0 (by decide))
  exact lw_tail l C0 hA2 hS (lv_sub hl [0, 4] rfl) (Nat.le_of_ble_eq_true rfl) (Nat.le_of_ble_eq_true rfl)
set_option maxHeartbeats 4000000 in
set_option maxRecDepth 100000 in
theorem lw_c4 {p : Program} {e : Env} {s : State} {m : MethodId} {below : List Frame} {meth : Method} {c : Code} (l : Launch) {b : Nat} {xs : Nat → Int32} (C0 : lw_At p s m meth c b 6 xs) (dC : Nat → ClassId) (dI : Nat → Nat → Nat) {A : Nat → Prop} (hA : ∀ q : Nat, s.heap.size ≤ q → A q) (hA2 : ∀ q : Nat, A q → s.heap.size ≤ q) (xq : Nat) (xfs1 : List Value) (xtp : Nat) (xcT : ClassId) (xft : Nat → Int32) (xrd : Nat) (xgr : List Value) (xnd : Nat) (xgn : List Value) (xas : Nat) (xsp : Nat) (xgp : List Value) (xlp : Nat) (xwr : Nat) (xma : Nat) (xdk : Nat) (mq : Nat) (mfs1 : List Value) (mbd : Nat) (mgb : List Value) (mfa : Nat) (mga : List Value) (ou : Nat) (st0 : Nat) (st1 : Nat) (st2 : Nat) (st3 : Nat) (st4 : Nat) (st5 : Nat) (st6 : Nat) (st7 : Nat) (sv0 : Nat) (sv1 : Nat) (sv2 : Nat) (hE : xf_all A s s.heap [.inr (.inl ("FinderHouse$Acts", 47, "add sub mul div rem min max and or xor less same not both any if pick cat len take drop rev head like code sign ", st0)), .inr (.inl ("FinderHouse$Acts", 63, "nnn nnn nnn nnn nnn nnn nnn nnn nnn nnn nnt nnt tt ttt ttt tnnn tsss sss sn sns sns ss ss sst sn ns ", st1)), .inl ("java/lang/String", "COMPACT_STRINGS", "Z", .int 1), .inr (.inr (.inr (.inr (.inl ("jdk/internal/util/Preconditions", "SIOOBE_FORMATTER", "Ljava/util/function/BiFunction;"))))), .inr (.inr (.inr (.inl "FinderHouse$Term"))), .inr (.inr (.inr (.inr (.inr (.inr ()))))), .inr (.inl ("FinderHouseModel", 313, "add nnn sub nnn mul nnn div nnn rem nnn min nnn max nnn and nnn or nnn xor nnn less nnt same nnt not tt both ttt any ttt if tnnn pick tsss cat sss len sn take sns drop sns rev ss head ss like sst code sn sign ns ", st2)), .inr (.inr (.inr (.inr (.inr (.inl .int))))), .inr (.inr (.inr (.inr (.inr (.inl .long))))), .inr (.inr (.inr (.inr (.inl ("java/lang/Throwable", "UNASSIGNED_STACK", "[Ljava/lang/StackTraceElement;"))))), .inr (.inr (.inr (.inr (.inl ("java/lang/Throwable", "SUPPRESSED_SENTINEL", "Ljava/util/List;"))))), .inr (.inr (.inl (st0, sv0, bsN))), .inr (.inr (.inl (st1, sv1, bsK))), .inr (.inr (.inl (st2, sv2, bsB))), .inr (.inl ("FinderHouse$Reader", 209, "find", st3)), .inr (.inl ("FinderHouse$Reader", 271, "act", st4)), .inr (.inl ("FinderHouse$Reader", 291, "loop", st5)), .inl ("FinderHouseModel", "TRUE", "J", .long 407354), .inl ("FinderHouseModel", "FALSE", "J", .long 3217595), .inl ("FinderHouseModel", "FIND", "J", .long 125041), .inl ("FinderHouseModel", "ACT", "J", .long 830), .inl ("FinderHouseModel", "LOOP", "J", .long 247552), .inr (.inl ("FinderHouse", 104, "the tape has not so many bytes", st6)), .inr (.inl ("FinderHouse", 534, "no such byte on the disk", st7))]) {H : Heap} {locs : List Loc} {ls : Array Slot} (hK : va_K (dC, dI) cls [(xcT, .byte)] s) (hP : va_P (dC, dI) cls [(xq, .inr (11, xfs1)), (xtp, .inl (xcT, 2000, .inl xft)), (xrd, .inr (6, xgr)), (xnd, .inr (9, xgn)), (xsp, .inr (1, xgp)), (mq, .inr (15, mfs1)), (mbd, .inr (13, mgb)), (mfa, .inr (12, mga))] H) (hD : va_D A [(xq, .inr (11, xfs1)), (xtp, .inl (xcT, 2000, .inl xft)), (xrd, .inr (6, xgr)), (xnd, .inr (9, xgn)), (xsp, .inr (1, xgp)), (mq, .inr (15, mfs1)), (mbd, .inr (13, mgb)), (mfa, .inr (12, mga))]) (hS : va_S A s.heap H locs) (hl : lv_has ls 7 [(4, .int 0), (3, .ref ou), (2, .ref mq), (1, .ref xq), (0, .ref b)]) (L_xfs1 : xfs1.length = 18) (K0_xfs1 : xfs1[0]? = some (.ref xtp)) (K1_xfs1 : xfs1[1]? = some (.int 0)) (K2_xfs1 : xfs1[2]? = some (.int 0)) (K8_xfs1 : xfs1[8]? = some (.ref xrd)) (K9_xfs1 : xfs1[9]? = some (.ref xas)) (K10_xfs1 : xfs1[10]? = some (.ref xsp)) (K11_xfs1 : xfs1[11]? = some (.int 0)) (K14_xfs1 : xfs1[14]? = some (.ref xlp)) (K15_xfs1 : xfs1[15]? = some (.ref xwr)) (K16_xfs1 : xfs1[16]? = some (.ref xma)) (K17_xfs1 : xfs1[17]? = some (.ref xdk)) (L_xgr : xgr.length = 20) (K11_xgr : xgr[11]? = some (.ref xnd)) (L_xgn : xgn.length = 4) (L_xgp : xgp.length = 16) (L_mfs1 : mfs1.length = 163) (K53_mfs1 : mfs1[53]? = some (.int 0)) (K54_mfs1 : mfs1[54]? = some (.int 0)) (K38_mfs1 : mfs1[38]? = some (.null)) (K23_mfs1 : mfs1[23]? = some (.ref mbd)) (K36_mfs1 : mfs1[36]? = some (.ref mfa)) (L_mgb : mgb.length = 8) (L_mga : mga.length = 28) (K0_mga : mga[0]? = some (.int 0)) : W p l e room_1 s m #[Value.ref b] below meth c H locs 951 1458901 (lw_Z below #[Value.ref b] s) (F0 m 418 ls []) := by
  obtain ⟨hx, hb, hr, hml, hown, hts, hX, hbl, hlocks, hgv⟩ := id C0
  have hown : s.vm.findClass RL = some m.cls := hown
  have ht : ∀ w ∈ tb, w.before #[Value.ref b] s = true := fun w hw => hts w (List.mem_filter.mp hw).1
  have hbA : ¬ A b := fun h => absurd (hA2 _ h) (Nat.not_le.mpr hbl)
  refine lv_aload_n hx hb dL_law_418 rfl (lv_at hl 3 rfl) ?_
  refine ca_i (wr := [(mq, .inr (15, mfs1)), (mbd, .inr (13, mgb)), (mfa, .inr (12, mga))]) (va_runV (As := []) (rest := []) ⟨hx, hb, hml, hown, ht⟩ (x_ask l dC dI H.size xq xfs1 xtp xrd xas xsp xlp xwr xma xdk xgr xnd xgn xcT xft xgp st3 L_xfs1 K0_xfs1 K1_xfs1 K2_xfs1 K8_xfs1 K9_xfs1 K10_xfs1 K11_xfs1 K14_xfs1 K15_xfs1 K16_xfs1 K17_xfs1 L_xgr K11_xgr L_xgn L_xgp ) (cwV 0 ht (gdV k_4_161 k_4_158 k_4_159 k_4_160 k_1_1) rfl rfl rfl (by decide +kernel) ⟨Nat.le_of_ble_eq_true rfl, Nat.le_of_ble_eq_true rfl⟩) ⟨pcx_blind, va_recv hK hP (ci := 11) (q0 := 0) rfl rfl, pcx_at hP hD hK hS hA hE [0, 2, 3, 1, 4] [0] [14] (by decide) rfl rfl rfl rfl⟩ rfl rfl hl.1 rfl (lv_room (Nat.le_of_ble_eq_true rfl)) dL_law_419 ⟨Nat.le_of_ble_eq_true rfl, Nat.le_of_ble_eq_true rfl⟩) hP hD hK hS hA [0, 2, 3, 1, 4] [5, 6, 7] rfl rfl (by decide) (by decide) (fun r_1 u H locs w_2 hK hP hD hS => ?_)
  have hK : va_K (dC, dI) cls [(xcT, .byte)] s := hK
  have hP : va_P (dC, dI) cls [(mq, .inr (15, mfs1)), (mbd, .inr (13, mgb)), (mfa, .inr (12, mga))] H := hP
  have hD : va_D A [(mq, .inr (15, mfs1)), (mbd, .inr (13, mgb)), (mfa, .inr (12, mga))] := hD
  obtain rfl : r_1 = (-11) := w_2
  refine lv_aload_n hx hb dL_law_422 rfl (lv_at hl 2 rfl) ?_
  refine ca_i (wr := []) (vx_runVW (As := []) (rest := [.int (-11)]) ⟨hx, hb, hml, hown, ht⟩ (r_ask l dC dI H.size mq mfs1 mbd mgb mfa mga 125041 0 L_mfs1 K23_mfs1 K36_mfs1 K38_mfs1 K53_mfs1 K54_mfs1 L_mgb L_mga K0_mga ) (vx_cwVW 0 ht (gdV k_12_233 k_12_230 k_12_231 k_12_232 k_1_17) rfl rfl rfl (by decide +kernel) ⟨Nat.le_of_ble_eq_true rfl, Nat.le_of_ble_eq_true rfl⟩) ⟨pcx_blind, va_recv hK hP (ci := 15) (q0 := 0) rfl rfl, pcx_at hP hD hK hS hA hE [0, 1, 2] [] [19, 5] (by decide) rfl rfl rfl rfl⟩ rfl rfl hl.1 rfl (lv_room (Nat.le_of_ble_eq_true rfl)) dL_law_423 ⟨Nat.le_of_ble_eq_true rfl, Nat.le_of_ble_eq_true rfl⟩) hP hD hK hS hA [0, 1, 2] [] rfl rfl (by decide) (by decide) (fun r_3 u H locs w_4 hK hP hD hS => ?_)
  have hK : va_K (dC, dI) cls [(xcT, .byte)] s := hK
  have hP : va_P (dC, dI) cls [] H := hP
  have hD : va_D A [] := hD
  obtain rfl : r_3 = (-11) := w_4
  refine lv_icmp_eq (tgt := 1597) hx hb dL_law_426 (by decide) (fun _ => ?_) (fun c0 => absurd c0 (by decide))
  exact lw_tail l C0 hA2 hS (lv_sub hl [0, 4] rfl) (Nat.le_of_ble_eq_true rfl) (Nat.le_of_ble_eq_true rfl)
set_option maxHeartbeats 4000000 in
set_option maxRecDepth 100000 in
theorem lw_c5 {p : Program} {e : Env} {s : State} {m : MethodId} {below : List Frame} {meth : Method} {c : Code} (l : Launch) {b : Nat} {xs : Nat → Int32} (C0 : lw_At p s m meth c b 6 xs) (dC : Nat → ClassId) (dI : Nat → Nat → Nat) {A : Nat → Prop} (hA : ∀ q : Nat, s.heap.size ≤ q → A q) (hA2 : ∀ q : Nat, A q → s.heap.size ≤ q) (xq : Nat) (xfs1 : List Value) (xtp : Nat) (xcT : ClassId) (xft : Nat → Int32) (xrd : Nat) (xgr : List Value) (xnd : Nat) (xgn : List Value) (xas : Nat) (xsp : Nat) (xlp : Nat) (xwr : Nat) (xma : Nat) (xdk : Nat) (mq : Nat) (mfs1 : List Value) (mbd : Nat) (mgb : List Value) (ou : Nat) (st0 : Nat) (st1 : Nat) (st2 : Nat) (st3 : Nat) (st4 : Nat) (st5 : Nat) (st6 : Nat) (st7 : Nat) (sv0 : Nat) (sv1 : Nat) (sv2 : Nat) (hE : xf_all A s s.heap [.inr (.inl ("FinderHouse$Acts", 47, "add sub mul div rem min max and or xor less same not both any if pick cat len take drop rev head like code sign ", st0)), .inr (.inl ("FinderHouse$Acts", 63, "nnn nnn nnn nnn nnn nnn nnn nnn nnn nnn nnt nnt tt ttt ttt tnnn tsss sss sn sns sns ss ss sst sn ns ", st1)), .inl ("java/lang/String", "COMPACT_STRINGS", "Z", .int 1), .inr (.inr (.inr (.inr (.inl ("jdk/internal/util/Preconditions", "SIOOBE_FORMATTER", "Ljava/util/function/BiFunction;"))))), .inr (.inr (.inr (.inl "FinderHouse$Term"))), .inr (.inr (.inr (.inr (.inr (.inr ()))))), .inr (.inl ("FinderHouseModel", 313, "add nnn sub nnn mul nnn div nnn rem nnn min nnn max nnn and nnn or nnn xor nnn less nnt same nnt not tt both ttt any ttt if tnnn pick tsss cat sss len sn take sns drop sns rev ss head ss like sst code sn sign ns ", st2)), .inr (.inr (.inr (.inr (.inr (.inl .int))))), .inr (.inr (.inr (.inr (.inr (.inl .long))))), .inr (.inr (.inr (.inr (.inl ("java/lang/Throwable", "UNASSIGNED_STACK", "[Ljava/lang/StackTraceElement;"))))), .inr (.inr (.inr (.inr (.inl ("java/lang/Throwable", "SUPPRESSED_SENTINEL", "Ljava/util/List;"))))), .inr (.inr (.inl (st0, sv0, bsN))), .inr (.inr (.inl (st1, sv1, bsK))), .inr (.inr (.inl (st2, sv2, bsB))), .inr (.inl ("FinderHouse$Reader", 209, "find", st3)), .inr (.inl ("FinderHouse$Reader", 271, "act", st4)), .inr (.inl ("FinderHouse$Reader", 291, "loop", st5)), .inl ("FinderHouseModel", "TRUE", "J", .long 407354), .inl ("FinderHouseModel", "FALSE", "J", .long 3217595), .inl ("FinderHouseModel", "FIND", "J", .long 125041), .inl ("FinderHouseModel", "ACT", "J", .long 830), .inl ("FinderHouseModel", "LOOP", "J", .long 247552), .inr (.inl ("FinderHouse", 104, "the tape has not so many bytes", st6)), .inr (.inl ("FinderHouse", 534, "no such byte on the disk", st7))]) {H : Heap} {locs : List Loc} {ls : Array Slot} (hK : va_K (dC, dI) cls [(xcT, .byte)] s) (hP : va_P (dC, dI) cls [(xq, .inr (11, xfs1)), (xtp, .inl (xcT, 2000, .inl xft)), (xrd, .inr (6, xgr)), (xnd, .inr (9, xgn)), (mq, .inr (15, mfs1)), (mbd, .inr (13, mgb))] H) (hD : va_D A [(xq, .inr (11, xfs1)), (xtp, .inl (xcT, 2000, .inl xft)), (xrd, .inr (6, xgr)), (xnd, .inr (9, xgn)), (mq, .inr (15, mfs1)), (mbd, .inr (13, mgb))]) (hS : va_S A s.heap H locs) (hl : lv_has ls 7 [(4, .int 0), (3, .ref ou), (2, .ref mq), (1, .ref xq), (0, .ref b)]) (L_xfs1 : xfs1.length = 18) (K0_xfs1 : xfs1[0]? = some (.ref xtp)) (K1_xfs1 : xfs1[1]? = some (.int 0)) (K2_xfs1 : xfs1[2]? = some (.int 0)) (K8_xfs1 : xfs1[8]? = some (.ref xrd)) (K9_xfs1 : xfs1[9]? = some (.ref xas)) (K10_xfs1 : xfs1[10]? = some (.ref xsp)) (K11_xfs1 : xfs1[11]? = some (.int 0)) (K14_xfs1 : xfs1[14]? = some (.ref xlp)) (K15_xfs1 : xfs1[15]? = some (.ref xwr)) (K16_xfs1 : xfs1[16]? = some (.ref xma)) (K17_xfs1 : xfs1[17]? = some (.ref xdk)) (L_xgr : xgr.length = 20) (K11_xgr : xgr[11]? = some (.ref xnd)) (L_xgn : xgn.length = 4) (L_mfs1 : mfs1.length = 163) (K53_mfs1 : mfs1[53]? = some (.int 0)) (K54_mfs1 : mfs1[54]? = some (.int 0)) (K23_mfs1 : mfs1[23]? = some (.ref mbd)) (L_mgb : mgb.length = 8) : W p l e room_1 s m #[Value.ref b] below meth c H locs 951 1458901 (lw_Z below #[Value.ref b] s) (F0 m 431 ls []) := by
  obtain ⟨hx, hb, hr, hml, hown, hts, hX, hbl, hlocks, hgv⟩ := id C0
  have hown : s.vm.findClass RL = some m.cls := hown
  have ht : ∀ w ∈ tb, w.before #[Value.ref b] s = true := fun w hw => hts w (List.mem_filter.mp hw).1
  have hbA : ¬ A b := fun h => absurd (hA2 _ h) (Nat.not_le.mpr hbl)
  refine lv_aload_n hx hb dL_law_431 rfl (lv_at hl 3 rfl) ?_
  refine ca_i (wr := [(mq, .inr (15, mfs1)), (mbd, .inr (13, mgb))]) (va_runV (As := []) (rest := []) ⟨hx, hb, hml, hown, ht⟩ (x_act l dC dI H.size xq xfs1 xtp xrd xas xsp xlp xwr xma xdk xgr xnd xgn xcT xft st4 L_xfs1 K0_xfs1 K1_xfs1 K2_xfs1 K8_xfs1 K9_xfs1 K10_xfs1 K11_xfs1 K14_xfs1 K15_xfs1 K16_xfs1 K17_xfs1 L_xgr K11_xgr L_xgn ) (cwV 0 ht (gdV k_5_145 k_5_142 k_5_143 k_5_144 k_1_1) rfl rfl rfl (by decide +kernel) ⟨Nat.le_of_ble_eq_true rfl, Nat.le_of_ble_eq_true rfl⟩) ⟨pcx_blind, va_recv hK hP (ci := 11) (q0 := 0) rfl rfl, pcx_at hP hD hK hS hA hE [0, 2, 3, 1] [0] [15] (by decide) rfl rfl rfl rfl⟩ rfl rfl hl.1 rfl (lv_room (Nat.le_of_ble_eq_true rfl)) dL_law_432 ⟨Nat.le_of_ble_eq_true rfl, Nat.le_of_ble_eq_true rfl⟩) hP hD hK hS hA [0, 2, 3, 1] [4, 5] rfl rfl (by decide) (by decide) (fun r_1 u H locs w_2 hK hP hD hS => ?_)
  have hK : va_K (dC, dI) cls [(xcT, .byte)] s := hK
  have hP : va_P (dC, dI) cls [(mq, .inr (15, mfs1)), (mbd, .inr (13, mgb))] H := hP
  have hD : va_D A [(mq, .inr (15, mfs1)), (mbd, .inr (13, mgb))] := hD
  obtain rfl : r_1 = (-11) := w_2
  refine lv_aload_n hx hb dL_law_435 rfl (lv_at hl 2 rfl) ?_
  refine ca_i (wr := []) (vx_runVW (As := []) (rest := [.int (-11)]) ⟨hx, hb, hml, hown, ht⟩ (r_act l dC dI H.size mq mfs1 mbd mgb 830 L_mfs1 K23_mfs1 K53_mfs1 K54_mfs1 L_mgb ) (vx_cwVW 0 ht (gdV k_13_173 k_13_170 k_13_171 k_13_172 k_1_17) rfl rfl rfl (by decide +kernel) ⟨Nat.le_of_ble_eq_true rfl, Nat.le_of_ble_eq_true rfl⟩) ⟨pcx_blind, va_recv hK hP (ci := 15) (q0 := 0) rfl rfl, pcx_at hP hD hK hS hA hE [0, 1] [] [20, 5] (by decide) rfl rfl rfl rfl⟩ rfl rfl hl.1 rfl (lv_room (Nat.le_of_ble_eq_true rfl)) dL_law_436 ⟨Nat.le_of_ble_eq_true rfl, Nat.le_of_ble_eq_true rfl⟩) hP hD hK hS hA [0, 1] [] rfl rfl (by decide) (by decide) (fun r_3 u H locs w_4 hK hP hD hS => ?_)
  have hK : va_K (dC, dI) cls [(xcT, .byte)] s := hK
  have hP : va_P (dC, dI) cls [] H := hP
  have hD : va_D A [] := hD
  obtain rfl : r_3 = (-11) := w_4
  refine lv_icmp_eq (tgt := 1597) hx hb dL_law_439 (by decide) (fun _ => ?_) (fun c0 => absurd c0 (by decide))
  exact lw_tail l C0 hA2 hS (lv_sub hl [0, 4] rfl) (Nat.le_of_ble_eq_true rfl) (Nat.le_of_ble_eq_true rfl)
set_option maxHeartbeats 4000000 in
set_option maxRecDepth 100000 in
theorem lw_c6 {p : Program} {e : Env} {s : State} {m : MethodId} {below : List Frame} {meth : Method} {c : Code} (l : Launch) {b : Nat} {xs : Nat → Int32} (C0 : lw_At p s m meth c b 6 xs) (dC : Nat → ClassId) (dI : Nat → Nat → Nat) {A : Nat → Prop} (hA : ∀ q : Nat, s.heap.size ≤ q → A q) (hA2 : ∀ q : Nat, A q → s.heap.size ≤ q) (xq : Nat) (xfs1 : List Value) (mq : Nat) (mfs1 : List Value) (ou : Nat) {H : Heap} {locs : List Loc} {ls : Array Slot} (hK : va_K (dC, dI) cls [] s) (hP : va_P (dC, dI) cls [(xq, .inr (11, xfs1)), (mq, .inr (15, mfs1))] H) (hD : va_D A [(xq, .inr (11, xfs1)), (mq, .inr (15, mfs1))]) (hS : va_S A s.heap H locs) (hl : lv_has ls 7 [(4, .int 0), (3, .ref ou), (2, .ref mq), (1, .ref xq), (0, .ref b)]) (L_xfs1 : xfs1.length = 18) (K2_xfs1 : xfs1[2]? = some (.int 0)) (K11_xfs1 : xfs1[11]? = some (.int 0)) (L_mfs1 : mfs1.length = 163) (K54_mfs1 : mfs1[54]? = some (.int 0)) (K38_mfs1 : mfs1[38]? = some (.null)) : W p l e room_1 s m #[Value.ref b] below meth c H locs 951 1458901 (lw_Z below #[Value.ref b] s) (F0 m 444 ls []) := by
  obtain ⟨hx, hb, hr, hml, hown, hts, hX, hbl, hlocks, hgv⟩ := id C0
  have hown : s.vm.findClass RL = some m.cls := hown
  have ht : ∀ w ∈ tb, w.before #[Value.ref b] s = true := fun w hw => hts w (List.mem_filter.mp hw).1
  have hbA : ¬ A b := fun h => absurd (hA2 _ h) (Nat.not_le.mpr hbl)
  refine lv_aload_n hx hb dL_law_444 rfl (lv_at hl 3 rfl) ?_
  refine lv_aload_n hx hb dL_law_445 rfl (lv_at hl 4 rfl) ?_
  refine lv_iload hx hb dL_law_446 (lv_at hl 0 rfl) ?_
  refine lv_iconst (v := 1) hx hb dL_law_448 (by decide) ?_
  refine lv_iadd hx hb dL_law_449 ?_
  refine tk_i (y := 1) (by decide) ?_
  refine va_sld hx hb hX hbl hbA hS (by unfold vp_in; decide) dL_law_450 ?_
  refine tk_i (y := (xs 1)) rfl ?_
  refine ca_i (wr := [(mq, .inr (15, mfs1))]) (va_runV (As := [.int (xs 1)]) (rest := []) ⟨hx, hb, hml, hown, ht⟩ (x_find l dC dI H.size xq xfs1 (xs 1) L_xfs1 K2_xfs1 K11_xfs1 ) (cwV 1 ht (gdV k_5_227 k_5_224 k_5_225 k_5_226 k_1_1) rfl rfl rfl (by decide +kernel) ⟨Nat.le_of_ble_eq_true rfl, Nat.le_of_ble_eq_true rfl⟩) ⟨pcw_blind, va_recv hK hP (ci := 11) (q0 := 0) rfl rfl, pcw_at hP hD hK [0] [] (by decide) rfl rfl rfl⟩ rfl rfl hl.1 rfl (lv_room (Nat.le_of_ble_eq_true rfl)) dL_law_451 ⟨Nat.le_of_ble_eq_true rfl, Nat.le_of_ble_eq_true rfl⟩) hP hD hK hS hA [0] [1] rfl rfl (by decide) (by decide) (fun r_1 u H locs w_2 hK hP hD hS => ?_)
  have hK : va_K (dC, dI) cls [] s := hK
  have hP : va_P (dC, dI) cls [(mq, .inr (15, mfs1))] H := hP
  have hD : va_D A [(mq, .inr (15, mfs1))] := hD
  refine lv_aload_n hx hb dL_law_454 rfl (lv_at hl 2 rfl) ?_
  refine lv_aload_n hx hb dL_law_455 rfl (lv_at hl 4 rfl) ?_
  refine lv_iload hx hb dL_law_456 (lv_at hl 0 rfl) ?_
  refine lv_iconst (v := 1) hx hb dL_law_458 (by decide) ?_
  refine lv_iadd hx hb dL_law_459 ?_
  refine tk_i (y := 1) (by decide) ?_
  refine va_sld hx hb hX hbl hbA hS (by unfold vp_in; decide) dL_law_460 ?_
  refine tk_i (y := (xs 1)) rfl ?_
  refine ca_i (wr := []) (va_runV (As := [.int (xs 1)]) (rest := [.int r_1]) ⟨hx, hb, hml, hown, ht⟩ (r_find l dC dI H.size mq mfs1 (xs 1) L_mfs1 K38_mfs1 K54_mfs1 ) (cwV 1 ht (gdV k_13_218 k_13_215 k_13_216 k_13_217 k_1_17) rfl rfl rfl (by decide +kernel) ⟨Nat.le_of_ble_eq_true rfl, Nat.le_of_ble_eq_true rfl⟩) ⟨pcw_blind, va_recv hK hP (ci := 15) (q0 := 0) rfl rfl, pcw_at hP hD hK [0] [] (by decide) rfl rfl rfl⟩ rfl rfl hl.1 rfl (lv_room (Nat.le_of_ble_eq_true rfl)) dL_law_461 ⟨Nat.le_of_ble_eq_true rfl, Nat.le_of_ble_eq_true rfl⟩) hP hD hK hS hA [0] [] rfl rfl (by decide) (by decide) (fun r_3 u H locs w_4 hK hP hD hS => ?_)
  have hK : va_K (dC, dI) cls [] s := hK
  have hP : va_P (dC, dI) cls [] H := hP
  have hD : va_D A [] := hD
  refine lv_icmp_eq (tgt := 1597) hx hb dL_law_464 (by decide) (fun _ => ?_) (fun c0 => absurd (w_2.trans w_4.symm) c0)
  exact lw_tail l C0 hA2 hS (lv_sub hl [0, 4] rfl) (Nat.le_of_ble_eq_true rfl) (Nat.le_of_ble_eq_true rfl)
set_option maxHeartbeats 4000000 in
set_option maxRecDepth 100000 in
theorem lw_c7 {p : Program} {e : Env} {s : State} {m : MethodId} {below : List Frame} {meth : Method} {c : Code} (l : Launch) {b : Nat} {xs : Nat → Int32} (C0 : lw_At p s m meth c b 6 xs) (dC : Nat → ClassId) (dI : Nat → Nat → Nat) {A : Nat → Prop} (hA : ∀ q : Nat, s.heap.size ≤ q → A q) (hA2 : ∀ q : Nat, A q → s.heap.size ≤ q) (xq : Nat) (xfs1 : List Value) (mq : Nat) (mfs1 : List Value) (ou : Nat) {H : Heap} {locs : List Loc} {ls : Array Slot} (hK : va_K (dC, dI) cls [] s) (hP : va_P (dC, dI) cls [(xq, .inr (11, xfs1)), (mq, .inr (15, mfs1))] H) (hD : va_D A [(xq, .inr (11, xfs1)), (mq, .inr (15, mfs1))]) (hS : va_S A s.heap H locs) (hl : lv_has ls 7 [(4, .int 0), (3, .ref ou), (2, .ref mq), (1, .ref xq), (0, .ref b)]) (L_xfs1 : xfs1.length = 18) (K2_xfs1 : xfs1[2]? = some (.int 0)) (K11_xfs1 : xfs1[11]? = some (.int 0)) (L_mfs1 : mfs1.length = 163) (K54_mfs1 : mfs1[54]? = some (.int 0)) (K38_mfs1 : mfs1[38]? = some (.null)) : W p l e room_1 s m #[Value.ref b] below meth c H locs 951 1458901 (lw_Z below #[Value.ref b] s) (F0 m 469 ls []) := by
  obtain ⟨hx, hb, hr, hml, hown, hts, hX, hbl, hlocks, hgv⟩ := id C0
  have hown : s.vm.findClass RL = some m.cls := hown
  have ht : ∀ w ∈ tb, w.before #[Value.ref b] s = true := fun w hw => hts w (List.mem_filter.mp hw).1
  have hbA : ¬ A b := fun h => absurd (hA2 _ h) (Nat.not_le.mpr hbl)
  refine lv_aload_n hx hb dL_law_469 rfl (lv_at hl 3 rfl) ?_
  refine lv_aload_n hx hb dL_law_470 rfl (lv_at hl 4 rfl) ?_
  refine lv_iload hx hb dL_law_471 (lv_at hl 0 rfl) ?_
  refine lv_iconst (v := 1) hx hb dL_law_473 (by decide) ?_
  refine lv_iadd hx hb dL_law_474 ?_
  refine tk_i (y := 1) (by decide) ?_
  refine va_sld hx hb hX hbl hbA hS (by unfold vp_in; decide) dL_law_475 ?_
  refine tk_i (y := (xs 1)) rfl ?_
  refine ca_l (wr := [(mq, .inr (15, mfs1))]) (va_runV (As := [.int (xs 1)]) (rest := []) ⟨hx, hb, hml, hown, ht⟩ (x_count l dC dI H.size xq xfs1 (xs 1) L_xfs1 K2_xfs1 K11_xfs1 ) (cwV 1 ht (gdV k_6_118 k_6_115 k_6_116 k_6_117 k_1_1) rfl rfl rfl (by decide +kernel) ⟨Nat.le_of_ble_eq_true rfl, Nat.le_of_ble_eq_true rfl⟩) ⟨pcw_blind, va_recv hK hP (ci := 11) (q0 := 0) rfl rfl, pcw_at hP hD hK [0] [] (by decide) rfl rfl rfl⟩ rfl rfl hl.1 rfl (lv_room (Nat.le_of_ble_eq_true rfl)) dL_law_476 ⟨Nat.le_of_ble_eq_true rfl, Nat.le_of_ble_eq_true rfl⟩) hP hD hK hS hA [0] [1] rfl rfl (by decide) (by decide) (fun r_1 u H locs w_2 hK hP hD hS => ?_)
  have hK : va_K (dC, dI) cls [] s := hK
  have hP : va_P (dC, dI) cls [(mq, .inr (15, mfs1))] H := hP
  have hD : va_D A [(mq, .inr (15, mfs1))] := hD
  refine lv_aload_n hx hb dL_law_479 rfl (lv_at hl 2 rfl) ?_
  refine lv_aload_n hx hb dL_law_480 rfl (lv_at hl 4 rfl) ?_
  refine lv_iload hx hb dL_law_481 (lv_at hl 0 rfl) ?_
  refine lv_iconst (v := 1) hx hb dL_law_483 (by decide) ?_
  refine lv_iadd hx hb dL_law_484 ?_
  refine tk_i (y := 1) (by decide) ?_
  refine va_sld hx hb hX hbl hbA hS (by unfold vp_in; decide) dL_law_485 ?_
  refine tk_i (y := (xs 1)) rfl ?_
  refine ca_l (wr := []) (va_runV (As := [.int (xs 1)]) (rest := [.long r_1]) ⟨hx, hb, hml, hown, ht⟩ (r_count l dC dI H.size mq mfs1 (xs 1) L_mfs1 K38_mfs1 K54_mfs1 ) (cwV 1 ht (gdV k_14_111 k_14_108 k_14_109 k_14_110 k_1_17) rfl rfl rfl (by decide +kernel) ⟨Nat.le_of_ble_eq_true rfl, Nat.le_of_ble_eq_true rfl⟩) ⟨pcw_blind, va_recv hK hP (ci := 15) (q0 := 0) rfl rfl, pcw_at hP hD hK [0] [] (by decide) rfl rfl rfl⟩ rfl rfl hl.1 rfl (lv_room (Nat.le_of_ble_eq_true rfl)) dL_law_486 ⟨Nat.le_of_ble_eq_true rfl, Nat.le_of_ble_eq_true rfl⟩) hP hD hK hS hA [0] [] rfl rfl (by decide) (by decide) (fun r_3 u H locs w_4 hK hP hD hS => ?_)
  have hK : va_K (dC, dI) cls [] s := hK
  have hP : va_P (dC, dI) cls [] H := hP
  have hD : va_D A [] := hD
  refine W.lcmp hx hb dL_law_489 ?_
  refine lv_if_eq (tgt := 1597) hx hb dL_law_490 (by decide) (fun _ => ?_) (fun c0 => absurd ((lg_cmp_eq _ _).mpr (w_2.trans w_4.symm)) c0)
  exact lw_tail l C0 hA2 hS (lv_sub hl [0, 4] rfl) (Nat.le_of_ble_eq_true rfl) (Nat.le_of_ble_eq_true rfl)
set_option maxHeartbeats 4000000 in
set_option maxRecDepth 100000 in
theorem lw_c8 {p : Program} {e : Env} {s : State} {m : MethodId} {below : List Frame} {meth : Method} {c : Code} (l : Launch) {b : Nat} {xs : Nat → Int32} (C0 : lw_At p s m meth c b 6 xs) (dC : Nat → ClassId) (dI : Nat → Nat → Nat) {A : Nat → Prop} (hA : ∀ q : Nat, s.heap.size ≤ q → A q) (hA2 : ∀ q : Nat, A q → s.heap.size ≤ q) (xq : Nat) (xfs1 : List Value) (mq : Nat) (mfs1 : List Value) (ou : Nat) {H : Heap} {locs : List Loc} {ls : Array Slot} (hK : va_K (dC, dI) cls [] s) (hP : va_P (dC, dI) cls [(xq, .inr (11, xfs1)), (mq, .inr (15, mfs1))] H) (hD : va_D A [(xq, .inr (11, xfs1)), (mq, .inr (15, mfs1))]) (hS : va_S A s.heap H locs) (hl : lv_has ls 7 [(4, .int 0), (3, .ref ou), (2, .ref mq), (1, .ref xq), (0, .ref b)]) (L_xfs1 : xfs1.length = 18) (K2_xfs1 : xfs1[2]? = some (.int 0)) (K11_xfs1 : xfs1[11]? = some (.int 0)) (L_mfs1 : mfs1.length = 163) (K54_mfs1 : mfs1[54]? = some (.int 0)) (K38_mfs1 : mfs1[38]? = some (.null)) : W p l e room_1 s m #[Value.ref b] below meth c H locs 951 1458901 (lw_Z below #[Value.ref b] s) (F0 m 495 ls []) := by
  obtain ⟨hx, hb, hr, hml, hown, hts, hX, hbl, hlocks, hgv⟩ := id C0
  have hown : s.vm.findClass RL = some m.cls := hown
  have ht : ∀ w ∈ tb, w.before #[Value.ref b] s = true := fun w hw => hts w (List.mem_filter.mp hw).1
  have hbA : ¬ A b := fun h => absurd (hA2 _ h) (Nat.not_le.mpr hbl)
  refine lv_aload_n hx hb dL_law_495 rfl (lv_at hl 3 rfl) ?_
  refine lv_aload_n hx hb dL_law_496 rfl (lv_at hl 4 rfl) ?_
  refine lv_iload hx hb dL_law_497 (lv_at hl 0 rfl) ?_
  refine lv_iconst (v := 1) hx hb dL_law_499 (by decide) ?_
  refine lv_iadd hx hb dL_law_500 ?_
  refine tk_i (y := 1) (by decide) ?_
  refine va_sld hx hb hX hbl hbA hS (by unfold vp_in; decide) dL_law_501 ?_
  refine tk_i (y := (xs 1)) rfl ?_
  refine lv_aload_n hx hb dL_law_502 rfl (lv_at hl 4 rfl) ?_
  refine lv_iload hx hb dL_law_503 (lv_at hl 0 rfl) ?_
  refine lv_iconst (v := 2) hx hb dL_law_505 (by decide) ?_
  refine lv_iadd hx hb dL_law_506 ?_
  refine tk_i (y := 2) (by decide) ?_
  refine va_sld hx hb hX hbl hbA hS (by unfold vp_in; decide) dL_law_507 ?_
  refine tk_i (y := (xs 2)) rfl ?_
  refine lv_i2l hx hb dL_law_508 rfl ?_
  refine tk_l (y := (xs 2).toInt64) rfl ?_
  refine lv_bipush (v := 32) hx hb dL_law_509 (by decide) ?_
  refine lv_lshl hx hb dL_law_511 rfl ?_
  refine tk_l (y := (((xs 2).toInt64) <<< ((32 : Int32).toInt64 &&& 63))) rfl ?_
  refine lv_aload_n hx hb dL_law_512 rfl (lv_at hl 4 rfl) ?_
  refine lv_iload hx hb dL_law_513 (lv_at hl 0 rfl) ?_
  refine lv_iconst (v := 3) hx hb dL_law_515 (by decide) ?_
  refine lv_iadd hx hb dL_law_516 ?_
  refine tk_i (y := 3) (by decide) ?_
  refine va_sld hx hb hX hbl hbA hS (by unfold vp_in; decide) dL_law_517 ?_
  refine tk_i (y := (xs 3)) rfl ?_
  refine lv_i2l hx hb dL_law_518 rfl ?_
  refine tk_l (y := (xs 3).toInt64) rfl ?_
  refine lv_ldc2 (v := 4294967295) hx hb hown (ht _ k_16_113) dL_law_519 ?_
  refine lv_land hx hb dL_law_522 ?_
  refine tk_l (y := (((xs 3).toInt64) &&& 4294967295)) rfl ?_
  refine lv_lor hx hb dL_law_523 ?_
  refine tk_l (y := ((((xs 2).toInt64) <<< ((32 : Int32).toInt64 &&& 63)) ||| (((xs 3).toInt64) &&& 4294967295))) rfl ?_
  refine ca_i (wr := [(mq, .inr (15, mfs1))]) (va_runV (As := [.int (xs 1), .long ((((xs 2).toInt64) <<< ((32 : Int32).toInt64 &&& 63)) ||| (((xs 3).toInt64) &&& 4294967295))]) (rest := []) ⟨hx, hb, hml, hown, ht⟩ (x_ith l dC dI H.size xq xfs1 (xs 1) ((((xs 2).toInt64) <<< ((32 : Int32).toInt64 &&& 63)) ||| (((xs 3).toInt64) &&& 4294967295)) L_xfs1 K2_xfs1 K11_xfs1 ) (cwV 2 ht (gdV k_6_126 k_6_123 k_6_124 k_6_125 k_1_1) rfl rfl rfl (by decide +kernel) ⟨Nat.le_of_ble_eq_true rfl, Nat.le_of_ble_eq_true rfl⟩) ⟨pcw_blind, va_recv hK hP (ci := 11) (q0 := 0) rfl rfl, pcw_at hP hD hK [0] [] (by decide) rfl rfl rfl⟩ rfl rfl hl.1 rfl (lv_room (Nat.le_of_ble_eq_true rfl)) dL_law_524 ⟨Nat.le_of_ble_eq_true rfl, Nat.le_of_ble_eq_true rfl⟩) hP hD hK hS hA [0] [1] rfl rfl (by decide) (by decide) (fun r_1 u H locs w_2 hK hP hD hS => ?_)
  have hK : va_K (dC, dI) cls [] s := hK
  have hP : va_P (dC, dI) cls [(mq, .inr (15, mfs1))] H := hP
  have hD : va_D A [(mq, .inr (15, mfs1))] := hD
  refine lv_aload_n hx hb dL_law_527 rfl (lv_at hl 2 rfl) ?_
  refine lv_aload_n hx hb dL_law_528 rfl (lv_at hl 4 rfl) ?_
  refine lv_iload hx hb dL_law_529 (lv_at hl 0 rfl) ?_
  refine lv_iconst (v := 1) hx hb dL_law_531 (by decide) ?_
  refine lv_iadd hx hb dL_law_532 ?_
  refine tk_i (y := 1) (by decide) ?_
  refine va_sld hx hb hX hbl hbA hS (by unfold vp_in; decide) dL_law_533 ?_
  refine tk_i (y := (xs 1)) rfl ?_
  refine lv_aload_n hx hb dL_law_534 rfl (lv_at hl 4 rfl) ?_
  refine lv_iload hx hb dL_law_535 (lv_at hl 0 rfl) ?_
  refine lv_iconst (v := 2) hx hb dL_law_537 (by decide) ?_
  refine lv_iadd hx hb dL_law_538 ?_
  refine tk_i (y := 2) (by decide) ?_
  refine va_sld hx hb hX hbl hbA hS (by unfold vp_in; decide) dL_law_539 ?_
  refine tk_i (y := (xs 2)) rfl ?_
  refine lv_i2l hx hb dL_law_540 rfl ?_
  refine tk_l (y := (xs 2).toInt64) rfl ?_
  refine lv_bipush (v := 32) hx hb dL_law_541 (by decide) ?_
  refine lv_lshl hx hb dL_law_543 rfl ?_
  refine tk_l (y := (((xs 2).toInt64) <<< ((32 : Int32).toInt64 &&& 63))) rfl ?_
  refine lv_aload_n hx hb dL_law_544 rfl (lv_at hl 4 rfl) ?_
  refine lv_iload hx hb dL_law_545 (lv_at hl 0 rfl) ?_
  refine lv_iconst (v := 3) hx hb dL_law_547 (by decide) ?_
  refine lv_iadd hx hb dL_law_548 ?_
  refine tk_i (y := 3) (by decide) ?_
  refine va_sld hx hb hX hbl hbA hS (by unfold vp_in; decide) dL_law_549 ?_
  refine tk_i (y := (xs 3)) rfl ?_
  refine lv_i2l hx hb dL_law_550 rfl ?_
  refine tk_l (y := (xs 3).toInt64) rfl ?_
  refine lv_ldc2 (v := 4294967295) hx hb hown (ht _ k_16_113) dL_law_551 ?_
  refine lv_land hx hb dL_law_554 ?_
  refine tk_l (y := (((xs 3).toInt64) &&& 4294967295)) rfl ?_
  refine lv_lor hx hb dL_law_555 ?_
  refine tk_l (y := ((((xs 2).toInt64) <<< ((32 : Int32).toInt64 &&& 63)) ||| (((xs 3).toInt64) &&& 4294967295))) rfl ?_
  refine ca_i (wr := []) (va_runV (As := [.int (xs 1), .long ((((xs 2).toInt64) <<< ((32 : Int32).toInt64 &&& 63)) ||| (((xs 3).toInt64) &&& 4294967295))]) (rest := [.int r_1]) ⟨hx, hb, hml, hown, ht⟩ (r_ith l dC dI H.size mq mfs1 (xs 1) ((((xs 2).toInt64) <<< ((32 : Int32).toInt64 &&& 63)) ||| (((xs 3).toInt64) &&& 4294967295)) L_mfs1 K38_mfs1 K54_mfs1 ) (cwV 2 ht (gdV k_14_150 k_14_147 k_14_148 k_14_149 k_1_17) rfl rfl rfl (by decide +kernel) ⟨Nat.le_of_ble_eq_true rfl, Nat.le_of_ble_eq_true rfl⟩) ⟨pcw_blind, va_recv hK hP (ci := 15) (q0 := 0) rfl rfl, pcw_at hP hD hK [0] [] (by decide) rfl rfl rfl⟩ rfl rfl hl.1 rfl (lv_room (Nat.le_of_ble_eq_true rfl)) dL_law_556 ⟨Nat.le_of_ble_eq_true rfl, Nat.le_of_ble_eq_true rfl⟩) hP hD hK hS hA [0] [] rfl rfl (by decide) (by decide) (fun r_3 u H locs w_4 hK hP hD hS => ?_)
  have hK : va_K (dC, dI) cls [] s := hK
  have hP : va_P (dC, dI) cls [] H := hP
  have hD : va_D A [] := hD
  refine lv_icmp_eq (tgt := 1597) hx hb dL_law_559 (by decide) (fun _ => ?_) (fun c0 => absurd (w_2.trans w_4.symm) c0)
  exact lw_tail l C0 hA2 hS (lv_sub hl [0, 4] rfl) (Nat.le_of_ble_eq_true rfl) (Nat.le_of_ble_eq_true rfl)
set_option maxHeartbeats 4000000 in
set_option maxRecDepth 100000 in
theorem lw_c9 {p : Program} {e : Env} {s : State} {m : MethodId} {below : List Frame} {meth : Method} {c : Code} (l : Launch) {b : Nat} {xs : Nat → Int32} (C0 : lw_At p s m meth c b 6 xs) (dC : Nat → ClassId) (dI : Nat → Nat → Nat) {A : Nat → Prop} (hA : ∀ q : Nat, s.heap.size ≤ q → A q) (hA2 : ∀ q : Nat, A q → s.heap.size ≤ q) (xq : Nat) (xfs1 : List Value) (mq : Nat) (mfs1 : List Value) (ou : Nat) {H : Heap} {locs : List Loc} {ls : Array Slot} (hK : va_K (dC, dI) cls [] s) (hP : va_P (dC, dI) cls [(xq, .inr (11, xfs1)), (mq, .inr (15, mfs1))] H) (hD : va_D A [(xq, .inr (11, xfs1)), (mq, .inr (15, mfs1))]) (hS : va_S A s.heap H locs) (hl : lv_has ls 7 [(4, .int 0), (3, .ref ou), (2, .ref mq), (1, .ref xq), (0, .ref b)]) (L_xfs1 : xfs1.length = 18) (K2_xfs1 : xfs1[2]? = some (.int 0)) (K11_xfs1 : xfs1[11]? = some (.int 0)) (L_mfs1 : mfs1.length = 163) (K54_mfs1 : mfs1[54]? = some (.int 0)) (K38_mfs1 : mfs1[38]? = some (.null)) : W p l e room_1 s m #[Value.ref b] below meth c H locs 951 1458901 (lw_Z below #[Value.ref b] s) (F0 m 564 ls []) := by
  obtain ⟨hx, hb, hr, hml, hown, hts, hX, hbl, hlocks, hgv⟩ := id C0
  have hown : s.vm.findClass RL = some m.cls := hown
  have ht : ∀ w ∈ tb, w.before #[Value.ref b] s = true := fun w hw => hts w (List.mem_filter.mp hw).1
  have hbA : ¬ A b := fun h => absurd (hA2 _ h) (Nat.not_le.mpr hbl)
  refine lv_aload_n hx hb dL_law_564 rfl (lv_at hl 3 rfl) ?_
  refine lv_aload_n hx hb dL_law_565 rfl (lv_at hl 4 rfl) ?_
  refine lv_iload hx hb dL_law_566 (lv_at hl 0 rfl) ?_
  refine lv_iconst (v := 1) hx hb dL_law_568 (by decide) ?_
  refine lv_iadd hx hb dL_law_569 ?_
  refine tk_i (y := 1) (by decide) ?_
  refine va_sld hx hb hX hbl hbA hS (by unfold vp_in; decide) dL_law_570 ?_
  refine tk_i (y := (xs 1)) rfl ?_
  refine ca_i (wr := [(mq, .inr (15, mfs1))]) (va_runV (As := [.int (xs 1)]) (rest := []) ⟨hx, hb, hml, hown, ht⟩ (x_different l dC dI H.size xq xfs1 (xs 1) L_xfs1 K2_xfs1 K11_xfs1 ) (cwV 1 ht (gdV k_6_159 k_6_156 k_6_157 k_6_158 k_1_1) rfl rfl rfl (by decide +kernel) ⟨Nat.le_of_ble_eq_true rfl, Nat.le_of_ble_eq_true rfl⟩) ⟨pcw_blind, va_recv hK hP (ci := 11) (q0 := 0) rfl rfl, pcw_at hP hD hK [0] [] (by decide) rfl rfl rfl⟩ rfl rfl hl.1 rfl (lv_room (Nat.le_of_ble_eq_true rfl)) dL_law_571 ⟨Nat.le_of_ble_eq_true rfl, Nat.le_of_ble_eq_true rfl⟩) hP hD hK hS hA [0] [1] rfl rfl (by decide) (by decide) (fun r_1 u H locs w_2 hK hP hD hS => ?_)
  have hK : va_K (dC, dI) cls [] s := hK
  have hP : va_P (dC, dI) cls [(mq, .inr (15, mfs1))] H := hP
  have hD : va_D A [(mq, .inr (15, mfs1))] := hD
  refine lv_aload_n hx hb dL_law_574 rfl (lv_at hl 2 rfl) ?_
  refine lv_aload_n hx hb dL_law_575 rfl (lv_at hl 4 rfl) ?_
  refine lv_iload hx hb dL_law_576 (lv_at hl 0 rfl) ?_
  refine lv_iconst (v := 1) hx hb dL_law_578 (by decide) ?_
  refine lv_iadd hx hb dL_law_579 ?_
  refine tk_i (y := 1) (by decide) ?_
  refine va_sld hx hb hX hbl hbA hS (by unfold vp_in; decide) dL_law_580 ?_
  refine tk_i (y := (xs 1)) rfl ?_
  refine ca_i (wr := []) (va_runV (As := [.int (xs 1)]) (rest := [.int r_1]) ⟨hx, hb, hml, hown, ht⟩ (r_different l dC dI H.size mq mfs1 (xs 1) L_mfs1 K38_mfs1 K54_mfs1 ) (cwV 1 ht (gdV k_14_167 k_14_164 k_14_165 k_14_166 k_1_17) rfl rfl rfl (by decide +kernel) ⟨Nat.le_of_ble_eq_true rfl, Nat.le_of_ble_eq_true rfl⟩) ⟨pcw_blind, va_recv hK hP (ci := 15) (q0 := 0) rfl rfl, pcw_at hP hD hK [0] [] (by decide) rfl rfl rfl⟩ rfl rfl hl.1 rfl (lv_room (Nat.le_of_ble_eq_true rfl)) dL_law_581 ⟨Nat.le_of_ble_eq_true rfl, Nat.le_of_ble_eq_true rfl⟩) hP hD hK hS hA [0] [] rfl rfl (by decide) (by decide) (fun r_3 u H locs w_4 hK hP hD hS => ?_)
  have hK : va_K (dC, dI) cls [] s := hK
  have hP : va_P (dC, dI) cls [] H := hP
  have hD : va_D A [] := hD
  refine lv_icmp_eq (tgt := 1597) hx hb dL_law_584 (by decide) (fun _ => ?_) (fun c0 => absurd (w_2.trans w_4.symm) c0)
  exact lw_tail l C0 hA2 hS (lv_sub hl [0, 4] rfl) (Nat.le_of_ble_eq_true rfl) (Nat.le_of_ble_eq_true rfl)
set_option maxHeartbeats 4000000 in
set_option maxRecDepth 100000 in
theorem lw_c10 {p : Program} {e : Env} {s : State} {m : MethodId} {below : List Frame} {meth : Method} {c : Code} (l : Launch) {b : Nat} {xs : Nat → Int32} (C0 : lw_At p s m meth c b 6 xs) (dC : Nat → ClassId) (dI : Nat → Nat → Nat) {A : Nat → Prop} (hA : ∀ q : Nat, s.heap.size ≤ q → A q) (hA2 : ∀ q : Nat, A q → s.heap.size ≤ q) (xq : Nat) (xfs1 : List Value) (mq : Nat) (mfs1 : List Value) (ou : Nat) {H : Heap} {locs : List Loc} {ls : Array Slot} (hK : va_K (dC, dI) cls [] s) (hP : va_P (dC, dI) cls [(xq, .inr (11, xfs1)), (mq, .inr (15, mfs1))] H) (hD : va_D A [(xq, .inr (11, xfs1)), (mq, .inr (15, mfs1))]) (hS : va_S A s.heap H locs) (hl : lv_has ls 7 [(4, .int 0), (3, .ref ou), (2, .ref mq), (1, .ref xq), (0, .ref b)]) (L_xfs1 : xfs1.length = 18) (K2_xfs1 : xfs1[2]? = some (.int 0)) (K11_xfs1 : xfs1[11]? = some (.int 0)) (L_mfs1 : mfs1.length = 163) (K54_mfs1 : mfs1[54]? = some (.int 0)) (K38_mfs1 : mfs1[38]? = some (.null)) : W p l e room_1 s m #[Value.ref b] below meth c H locs 951 1458901 (lw_Z below #[Value.ref b] s) (F0 m 589 ls []) := by
  obtain ⟨hx, hb, hr, hml, hown, hts, hX, hbl, hlocks, hgv⟩ := id C0
  have hown : s.vm.findClass RL = some m.cls := hown
  have ht : ∀ w ∈ tb, w.before #[Value.ref b] s = true := fun w hw => hts w (List.mem_filter.mp hw).1
  have hbA : ¬ A b := fun h => absurd (hA2 _ h) (Nat.not_le.mpr hbl)
  refine lv_aload_n hx hb dL_law_589 rfl (lv_at hl 3 rfl) ?_
  refine lv_aload_n hx hb dL_law_590 rfl (lv_at hl 4 rfl) ?_
  refine lv_iload hx hb dL_law_591 (lv_at hl 0 rfl) ?_
  refine lv_iconst (v := 1) hx hb dL_law_593 (by decide) ?_
  refine lv_iadd hx hb dL_law_594 ?_
  refine tk_i (y := 1) (by decide) ?_
  refine va_sld hx hb hX hbl hbA hS (by unfold vp_in; decide) dL_law_595 ?_
  refine tk_i (y := (xs 1)) rfl ?_
  refine ca_i (wr := [(mq, .inr (15, mfs1))]) (va_runV (As := [.int (xs 1)]) (rest := []) ⟨hx, hb, hml, hown, ht⟩ (x_question l dC dI H.size xq xfs1 (xs 1) L_xfs1 K2_xfs1 K11_xfs1 ) (cwV 1 ht (gdV k_6_167 k_6_164 k_6_165 k_6_166 k_1_1) rfl rfl rfl (by decide +kernel) ⟨Nat.le_of_ble_eq_true rfl, Nat.le_of_ble_eq_true rfl⟩) ⟨pcw_blind, va_recv hK hP (ci := 11) (q0 := 0) rfl rfl, pcw_at hP hD hK [0] [] (by decide) rfl rfl rfl⟩ rfl rfl hl.1 rfl (lv_room (Nat.le_of_ble_eq_true rfl)) dL_law_596 ⟨Nat.le_of_ble_eq_true rfl, Nat.le_of_ble_eq_true rfl⟩) hP hD hK hS hA [0] [1] rfl rfl (by decide) (by decide) (fun r_1 u H locs w_2 hK hP hD hS => ?_)
  have hK : va_K (dC, dI) cls [] s := hK
  have hP : va_P (dC, dI) cls [(mq, .inr (15, mfs1))] H := hP
  have hD : va_D A [(mq, .inr (15, mfs1))] := hD
  refine lv_aload_n hx hb dL_law_599 rfl (lv_at hl 2 rfl) ?_
  refine lv_aload_n hx hb dL_law_600 rfl (lv_at hl 4 rfl) ?_
  refine lv_iload hx hb dL_law_601 (lv_at hl 0 rfl) ?_
  refine lv_iconst (v := 1) hx hb dL_law_603 (by decide) ?_
  refine lv_iadd hx hb dL_law_604 ?_
  refine tk_i (y := 1) (by decide) ?_
  refine va_sld hx hb hX hbl hbA hS (by unfold vp_in; decide) dL_law_605 ?_
  refine tk_i (y := (xs 1)) rfl ?_
  refine ca_i (wr := []) (va_runV (As := [.int (xs 1)]) (rest := [.int r_1]) ⟨hx, hb, hml, hown, ht⟩ (r_question l dC dI H.size mq mfs1 (xs 1) L_mfs1 K38_mfs1 K54_mfs1 ) (cwV 1 ht (gdV k_14_171 k_14_168 k_14_169 k_14_170 k_1_17) rfl rfl rfl (by decide +kernel) ⟨Nat.le_of_ble_eq_true rfl, Nat.le_of_ble_eq_true rfl⟩) ⟨pcw_blind, va_recv hK hP (ci := 15) (q0 := 0) rfl rfl, pcw_at hP hD hK [0] [] (by decide) rfl rfl rfl⟩ rfl rfl hl.1 rfl (lv_room (Nat.le_of_ble_eq_true rfl)) dL_law_606 ⟨Nat.le_of_ble_eq_true rfl, Nat.le_of_ble_eq_true rfl⟩) hP hD hK hS hA [0] [] rfl rfl (by decide) (by decide) (fun r_3 u H locs w_4 hK hP hD hS => ?_)
  have hK : va_K (dC, dI) cls [] s := hK
  have hP : va_P (dC, dI) cls [] H := hP
  have hD : va_D A [] := hD
  refine lv_icmp_eq (tgt := 1597) hx hb dL_law_609 (by decide) (fun _ => ?_) (fun c0 => absurd (w_2.trans w_4.symm) c0)
  exact lw_tail l C0 hA2 hS (lv_sub hl [0, 4] rfl) (Nat.le_of_ble_eq_true rfl) (Nat.le_of_ble_eq_true rfl)
set_option maxHeartbeats 4000000 in
set_option maxRecDepth 100000 in
theorem lw_c11 {p : Program} {e : Env} {s : State} {m : MethodId} {below : List Frame} {meth : Method} {c : Code} (l : Launch) {b : Nat} {xs : Nat → Int32} (C0 : lw_At p s m meth c b 6 xs) (dC : Nat → ClassId) (dI : Nat → Nat → Nat) {A : Nat → Prop} (hA : ∀ q : Nat, s.heap.size ≤ q → A q) (hA2 : ∀ q : Nat, A q → s.heap.size ≤ q) (xq : Nat) (xfs1 : List Value) (xtp : Nat) (xcT : ClassId) (xft : Nat → Int32) (xrd : Nat) (xgr : List Value) (xnd : Nat) (xgn : List Value) (xas : Nat) (xga : List Value) (xks : Nat) (xsp : Nat) (xlp : Nat) (xwr : Nat) (xma : Nat) (xdk : Nat) (mq : Nat) (mfs1 : List Value) (mbd : Nat) (mgb : List Value) (ou : Nat) (st0 : Nat) (st1 : Nat) (st2 : Nat) (st3 : Nat) (st4 : Nat) (st5 : Nat) (st6 : Nat) (st7 : Nat) (sv0 : Nat) (sv1 : Nat) (sv2 : Nat) (hE : xf_all A s s.heap [.inr (.inl ("FinderHouse$Acts", 47, "add sub mul div rem min max and or xor less same not both any if pick cat len take drop rev head like code sign ", st0)), .inr (.inl ("FinderHouse$Acts", 63, "nnn nnn nnn nnn nnn nnn nnn nnn nnn nnn nnt nnt tt ttt ttt tnnn tsss sss sn sns sns ss ss sst sn ns ", st1)), .inl ("java/lang/String", "COMPACT_STRINGS", "Z", .int 1), .inr (.inr (.inr (.inr (.inl ("jdk/internal/util/Preconditions", "SIOOBE_FORMATTER", "Ljava/util/function/BiFunction;"))))), .inr (.inr (.inr (.inl "FinderHouse$Term"))), .inr (.inr (.inr (.inr (.inr (.inr ()))))), .inr (.inl ("FinderHouseModel", 313, "add nnn sub nnn mul nnn div nnn rem nnn min nnn max nnn and nnn or nnn xor nnn less nnt same nnt not tt both ttt any ttt if tnnn pick tsss cat sss len sn take sns drop sns rev ss head ss like sst code sn sign ns ", st2)), .inr (.inr (.inr (.inr (.inr (.inl .int))))), .inr (.inr (.inr (.inr (.inr (.inl .long))))), .inr (.inr (.inr (.inr (.inl ("java/lang/Throwable", "UNASSIGNED_STACK", "[Ljava/lang/StackTraceElement;"))))), .inr (.inr (.inr (.inr (.inl ("java/lang/Throwable", "SUPPRESSED_SENTINEL", "Ljava/util/List;"))))), .inr (.inr (.inl (st0, sv0, bsN))), .inr (.inr (.inl (st1, sv1, bsK))), .inr (.inr (.inl (st2, sv2, bsB))), .inr (.inl ("FinderHouse$Reader", 209, "find", st3)), .inr (.inl ("FinderHouse$Reader", 271, "act", st4)), .inr (.inl ("FinderHouse$Reader", 291, "loop", st5)), .inl ("FinderHouseModel", "TRUE", "J", .long 407354), .inl ("FinderHouseModel", "FALSE", "J", .long 3217595), .inl ("FinderHouseModel", "FIND", "J", .long 125041), .inl ("FinderHouseModel", "ACT", "J", .long 830), .inl ("FinderHouseModel", "LOOP", "J", .long 247552), .inr (.inl ("FinderHouse", 104, "the tape has not so many bytes", st6)), .inr (.inl ("FinderHouse", 534, "no such byte on the disk", st7))]) {H : Heap} {locs : List Loc} {ls : Array Slot} (hK : va_K (dC, dI) cls [(xcT, .byte)] s) (hP : va_P (dC, dI) cls [(xq, .inr (11, xfs1)), (xtp, .inl (xcT, 2000, .inl xft)), (xrd, .inr (6, xgr)), (xnd, .inr (9, xgn)), (xas, .inr (1, xga)), (mq, .inr (15, mfs1)), (mbd, .inr (13, mgb))] H) (hD : va_D A [(xq, .inr (11, xfs1)), (xtp, .inl (xcT, 2000, .inl xft)), (xrd, .inr (6, xgr)), (xnd, .inr (9, xgn)), (xas, .inr (1, xga)), (mq, .inr (15, mfs1)), (mbd, .inr (13, mgb))]) (hS : va_S A s.heap H locs) (hl : lv_has ls 7 [(4, .int 0), (3, .ref ou), (2, .ref mq), (1, .ref xq), (0, .ref b)]) (L_xfs1 : xfs1.length = 18) (K0_xfs1 : xfs1[0]? = some (.ref xtp)) (K1_xfs1 : xfs1[1]? = some (.int 0)) (K2_xfs1 : xfs1[2]? = some (.int 0)) (K8_xfs1 : xfs1[8]? = some (.ref xrd)) (K9_xfs1 : xfs1[9]? = some (.ref xas)) (K10_xfs1 : xfs1[10]? = some (.ref xsp)) (K11_xfs1 : xfs1[11]? = some (.int 0)) (K14_xfs1 : xfs1[14]? = some (.ref xlp)) (K15_xfs1 : xfs1[15]? = some (.ref xwr)) (K16_xfs1 : xfs1[16]? = some (.ref xma)) (K17_xfs1 : xfs1[17]? = some (.ref xdk)) (L_xgr : xgr.length = 20) (K11_xgr : xgr[11]? = some (.ref xnd)) (L_xgn : xgn.length = 4) (L_xga : xga.length = 16) (K1_xga : xga[1]? = some (.ref xks)) (L_mfs1 : mfs1.length = 163) (K53_mfs1 : mfs1[53]? = some (.int 0)) (K54_mfs1 : mfs1[54]? = some (.int 0)) (K23_mfs1 : mfs1[23]? = some (.ref mbd)) (L_mgb : mgb.length = 8) : W p l e room_1 s m #[Value.ref b] below meth c H locs 951 1458901 (lw_Z below #[Value.ref b] s) (F0 m 614 ls []) := by
  obtain ⟨hx, hb, hr, hml, hown, hts, hX, hbl, hlocks, hgv⟩ := id C0
  have hown : s.vm.findClass RL = some m.cls := hown
  have ht : ∀ w ∈ tb, w.before #[Value.ref b] s = true := fun w hw => hts w (List.mem_filter.mp hw).1
  have hbA : ¬ A b := fun h => absurd (hA2 _ h) (Nat.not_le.mpr hbl)
  refine lv_aload_n hx hb dL_law_614 rfl (lv_at hl 3 rfl) ?_
  refine ca_i (wr := [(mq, .inr (15, mfs1)), (mbd, .inr (13, mgb))]) (va_runV (As := []) (rest := []) ⟨hx, hb, hml, hown, ht⟩ (x_cheaper l dC dI H.size xq xfs1 xtp xrd xas xsp xlp xwr xma xdk xgr xnd xgn xcT xft xga xks L_xfs1 K0_xfs1 K1_xfs1 K2_xfs1 K8_xfs1 K9_xfs1 K10_xfs1 K11_xfs1 K14_xfs1 K15_xfs1 K16_xfs1 K17_xfs1 L_xgr K11_xgr L_xgn L_xga K1_xga ) (cwV 0 ht (gdV k_6_180 k_6_177 k_6_178 k_6_179 k_1_1) rfl rfl rfl (by decide +kernel) ⟨Nat.le_of_ble_eq_true rfl, Nat.le_of_ble_eq_true rfl⟩) ⟨pcw_blind, va_recv hK hP (ci := 11) (q0 := 0) rfl rfl, pcw_at hP hD hK [0, 2, 3, 1, 4] [0] (by decide) rfl rfl rfl⟩ rfl rfl hl.1 rfl (lv_room (Nat.le_of_ble_eq_true rfl)) dL_law_615 ⟨Nat.le_of_ble_eq_true rfl, Nat.le_of_ble_eq_true rfl⟩) hP hD hK hS hA [0, 2, 3, 1, 4] [5, 6] rfl rfl (by decide) (by decide) (fun r_1 u H locs w_2 hK hP hD hS => ?_)
  have hK : va_K (dC, dI) cls [(xcT, .byte)] s := hK
  have hP : va_P (dC, dI) cls [(mq, .inr (15, mfs1)), (mbd, .inr (13, mgb))] H := hP
  have hD : va_D A [(mq, .inr (15, mfs1)), (mbd, .inr (13, mgb))] := hD
  obtain rfl : r_1 = (-11) := w_2
  refine lv_aload_n hx hb dL_law_618 rfl (lv_at hl 2 rfl) ?_
  refine ca_i (wr := []) (vx_runVW (As := []) (rest := [.int (-11)]) ⟨hx, hb, hml, hown, ht⟩ (r_cheaper l dC dI H.size mq mfs1 mbd mgb 407354 3217595 L_mfs1 K23_mfs1 K53_mfs1 K54_mfs1 L_mgb ) (vx_cwVW 0 ht (gdV k_14_175 k_14_172 k_14_173 k_14_174 k_1_17) rfl rfl rfl (by decide +kernel) ⟨Nat.le_of_ble_eq_true rfl, Nat.le_of_ble_eq_true rfl⟩) ⟨pcx_blind, va_recv hK hP (ci := 15) (q0 := 0) rfl rfl, pcx_at hP hD hK hS hA hE [0, 1] [] [17, 18, 5] (by decide) rfl rfl rfl rfl⟩ rfl rfl hl.1 rfl (lv_room (Nat.le_of_ble_eq_true rfl)) dL_law_619 ⟨Nat.le_of_ble_eq_true rfl, Nat.le_of_ble_eq_true rfl⟩) hP hD hK hS hA [0, 1] [] rfl rfl (by decide) (by decide) (fun r_3 u H locs w_4 hK hP hD hS => ?_)
  have hK : va_K (dC, dI) cls [(xcT, .byte)] s := hK
  have hP : va_P (dC, dI) cls [] H := hP
  have hD : va_D A [] := hD
  obtain rfl : r_3 = (-11) := w_4
  refine lv_icmp_eq (tgt := 1597) hx hb dL_law_622 (by decide) (fun _ => ?_) (fun c0 => absurd c0 (by decide))
  exact lw_tail l C0 hA2 hS (lv_sub hl [0, 4] rfl) (Nat.le_of_ble_eq_true rfl) (Nat.le_of_ble_eq_true rfl)
set_option maxHeartbeats 4000000 in
set_option maxRecDepth 100000 in
theorem lw_c12 {p : Program} {e : Env} {s : State} {m : MethodId} {below : List Frame} {meth : Method} {c : Code} (l : Launch) {b : Nat} {xs : Nat → Int32} (C0 : lw_At p s m meth c b 6 xs) (dC : Nat → ClassId) (dI : Nat → Nat → Nat) {A : Nat → Prop} (hA : ∀ q : Nat, s.heap.size ≤ q → A q) (hA2 : ∀ q : Nat, A q → s.heap.size ≤ q) (xq : Nat) (xfs1 : List Value) (xtp : Nat) (xcT : ClassId) (xft : Nat → Int32) (xrd : Nat) (xgr : List Value) (xnd : Nat) (xgn : List Value) (xas : Nat) (xga : List Value) (xks : Nat) (xcK : ClassId) (xfk : Nat → Int32) (xsp : Nat) (xlp : Nat) (xwr : Nat) (xma : Nat) (xdk : Nat) (mq : Nat) (mfs1 : List Value) (mbd : Nat) (mgb : List Value) (ou : Nat) (st0 : Nat) (st1 : Nat) (st2 : Nat) (st3 : Nat) (st4 : Nat) (st5 : Nat) (st6 : Nat) (st7 : Nat) (sv0 : Nat) (sv1 : Nat) (sv2 : Nat) (hE : xf_all A s s.heap [.inr (.inl ("FinderHouse$Acts", 47, "add sub mul div rem min max and or xor less same not both any if pick cat len take drop rev head like code sign ", st0)), .inr (.inl ("FinderHouse$Acts", 63, "nnn nnn nnn nnn nnn nnn nnn nnn nnn nnn nnt nnt tt ttt ttt tnnn tsss sss sn sns sns ss ss sst sn ns ", st1)), .inl ("java/lang/String", "COMPACT_STRINGS", "Z", .int 1), .inr (.inr (.inr (.inr (.inl ("jdk/internal/util/Preconditions", "SIOOBE_FORMATTER", "Ljava/util/function/BiFunction;"))))), .inr (.inr (.inr (.inl "FinderHouse$Term"))), .inr (.inr (.inr (.inr (.inr (.inr ()))))), .inr (.inl ("FinderHouseModel", 313, "add nnn sub nnn mul nnn div nnn rem nnn min nnn max nnn and nnn or nnn xor nnn less nnt same nnt not tt both ttt any ttt if tnnn pick tsss cat sss len sn take sns drop sns rev ss head ss like sst code sn sign ns ", st2)), .inr (.inr (.inr (.inr (.inr (.inl .int))))), .inr (.inr (.inr (.inr (.inr (.inl .long))))), .inr (.inr (.inr (.inr (.inl ("java/lang/Throwable", "UNASSIGNED_STACK", "[Ljava/lang/StackTraceElement;"))))), .inr (.inr (.inr (.inr (.inl ("java/lang/Throwable", "SUPPRESSED_SENTINEL", "Ljava/util/List;"))))), .inr (.inr (.inl (st0, sv0, bsN))), .inr (.inr (.inl (st1, sv1, bsK))), .inr (.inr (.inl (st2, sv2, bsB))), .inr (.inl ("FinderHouse$Reader", 209, "find", st3)), .inr (.inl ("FinderHouse$Reader", 271, "act", st4)), .inr (.inl ("FinderHouse$Reader", 291, "loop", st5)), .inl ("FinderHouseModel", "TRUE", "J", .long 407354), .inl ("FinderHouseModel", "FALSE", "J", .long 3217595), .inl ("FinderHouseModel", "FIND", "J", .long 125041), .inl ("FinderHouseModel", "ACT", "J", .long 830), .inl ("FinderHouseModel", "LOOP", "J", .long 247552), .inr (.inl ("FinderHouse", 104, "the tape has not so many bytes", st6)), .inr (.inl ("FinderHouse", 534, "no such byte on the disk", st7))]) {H : Heap} {locs : List Loc} {ls : Array Slot} (hK : va_K (dC, dI) cls [(xcT, .byte), (xcK, .int)] s) (hP : va_P (dC, dI) cls [(xq, .inr (11, xfs1)), (xtp, .inl (xcT, 2000, .inl xft)), (xrd, .inr (6, xgr)), (xnd, .inr (9, xgn)), (xas, .inr (1, xga)), (xks, .inl (xcK, 4, .inl xfk)), (mq, .inr (15, mfs1)), (mbd, .inr (13, mgb))] H) (hD : va_D A [(xq, .inr (11, xfs1)), (xtp, .inl (xcT, 2000, .inl xft)), (xrd, .inr (6, xgr)), (xnd, .inr (9, xgn)), (xas, .inr (1, xga)), (xks, .inl (xcK, 4, .inl xfk)), (mq, .inr (15, mfs1)), (mbd, .inr (13, mgb))]) (hS : va_S A s.heap H locs) (hl : lv_has ls 7 [(4, .int 0), (3, .ref ou), (2, .ref mq), (1, .ref xq), (0, .ref b)]) (L_xfs1 : xfs1.length = 18) (K0_xfs1 : xfs1[0]? = some (.ref xtp)) (K1_xfs1 : xfs1[1]? = some (.int 0)) (K2_xfs1 : xfs1[2]? = some (.int 0)) (K8_xfs1 : xfs1[8]? = some (.ref xrd)) (K9_xfs1 : xfs1[9]? = some (.ref xas)) (K10_xfs1 : xfs1[10]? = some (.ref xsp)) (K11_xfs1 : xfs1[11]? = some (.int 0)) (K14_xfs1 : xfs1[14]? = some (.ref xlp)) (K15_xfs1 : xfs1[15]? = some (.ref xwr)) (K16_xfs1 : xfs1[16]? = some (.ref xma)) (K17_xfs1 : xfs1[17]? = some (.ref xdk)) (L_xgr : xgr.length = 20) (K11_xgr : xgr[11]? = some (.ref xnd)) (L_xgn : xgn.length = 4) (L_xga : xga.length = 16) (K1_xga : xga[1]? = some (.ref xks)) (L_mfs1 : mfs1.length = 163) (K53_mfs1 : mfs1[53]? = some (.int 0)) (K54_mfs1 : mfs1[54]? = some (.int 0)) (K23_mfs1 : mfs1[23]? = some (.ref mbd)) (L_mgb : mgb.length = 8) : W p l e room_1 s m #[Value.ref b] below meth c H locs 951 1458901 (lw_Z below #[Value.ref b] s) (F0 m 627 ls []) := by
  obtain ⟨hx, hb, hr, hml, hown, hts, hX, hbl, hlocks, hgv⟩ := id C0
  have hown : s.vm.findClass RL = some m.cls := hown
  have ht : ∀ w ∈ tb, w.before #[Value.ref b] s = true := fun w hw => hts w (List.mem_filter.mp hw).1
  have hbA : ¬ A b := fun h => absurd (hA2 _ h) (Nat.not_le.mpr hbl)
  refine lv_aload_n hx hb dL_law_627 rfl (lv_at hl 3 rfl) ?_
  refine ca_i (wr := [(mq, .inr (15, mfs1)), (mbd, .inr (13, mgb))]) (va_runV (As := []) (rest := []) ⟨hx, hb, hml, hown, ht⟩ (x_sketch l dC dI H.size xq xfs1 xtp xrd xas xsp xlp xwr xma xdk xgr xnd xgn xcT xft xga xks xcK xfk L_xfs1 K0_xfs1 K1_xfs1 K2_xfs1 K8_xfs1 K9_xfs1 K10_xfs1 K11_xfs1 K14_xfs1 K15_xfs1 K16_xfs1 K17_xfs1 L_xgr K11_xgr L_xgn L_xga K1_xga ) (cwV 0 ht (gdV k_6_214 k_6_211 k_6_212 k_6_213 k_1_1) rfl rfl rfl (by decide +kernel) ⟨Nat.le_of_ble_eq_true rfl, Nat.le_of_ble_eq_true rfl⟩) ⟨pcw_blind, va_recv hK hP (ci := 11) (q0 := 0) rfl rfl, pcw_at hP hD hK [0, 2, 3, 1, 4, 5] [0, 1] (by decide) rfl rfl rfl⟩ rfl rfl hl.1 rfl (lv_room (Nat.le_of_ble_eq_true rfl)) dL_law_628 ⟨Nat.le_of_ble_eq_true rfl, Nat.le_of_ble_eq_true rfl⟩) hP hD hK hS hA [0, 2, 3, 1, 4, 5] [6, 7] rfl rfl (by decide) (by decide) (fun r_1 u H locs w_2 hK hP hD hS => ?_)
  have hK : va_K (dC, dI) cls [(xcT, .byte), (xcK, .int)] s := hK
  have hP : va_P (dC, dI) cls [(mq, .inr (15, mfs1)), (mbd, .inr (13, mgb))] H := hP
  have hD : va_D A [(mq, .inr (15, mfs1)), (mbd, .inr (13, mgb))] := hD
  obtain rfl : r_1 = (-11) := w_2
  refine lv_aload_n hx hb dL_law_631 rfl (lv_at hl 2 rfl) ?_
  refine ca_i (wr := []) (vx_runVW (As := []) (rest := [.int (-11)]) ⟨hx, hb, hml, hown, ht⟩ (r_sketch l dC dI H.size mq mfs1 mbd mgb 407354 3217595 L_mfs1 K23_mfs1 K53_mfs1 K54_mfs1 L_mgb ) (vx_cwVW 0 ht (gdV k_14_187 k_14_184 k_14_185 k_14_186 k_1_17) rfl rfl rfl (by decide +kernel) ⟨Nat.le_of_ble_eq_true rfl, Nat.le_of_ble_eq_true rfl⟩) ⟨pcx_blind, va_recv hK hP (ci := 15) (q0 := 0) rfl rfl, pcx_at hP hD hK hS hA hE [0, 1] [] [17, 18, 5] (by decide) rfl rfl rfl rfl⟩ rfl rfl hl.1 rfl (lv_room (Nat.le_of_ble_eq_true rfl)) dL_law_632 ⟨Nat.le_of_ble_eq_true rfl, Nat.le_of_ble_eq_true rfl⟩) hP hD hK hS hA [0, 1] [] rfl rfl (by decide) (by decide) (fun r_3 u H locs w_4 hK hP hD hS => ?_)
  have hK : va_K (dC, dI) cls [(xcT, .byte), (xcK, .int)] s := hK
  have hP : va_P (dC, dI) cls [] H := hP
  have hD : va_D A [] := hD
  obtain rfl : r_3 = (-11) := w_4
  refine lv_icmp_eq (tgt := 1597) hx hb dL_law_635 (by decide) (fun _ => ?_) (fun c0 => absurd c0 (by decide))
  exact lw_tail l C0 hA2 hS (lv_sub hl [0, 4] rfl) (Nat.le_of_ble_eq_true rfl) (Nat.le_of_ble_eq_true rfl)
