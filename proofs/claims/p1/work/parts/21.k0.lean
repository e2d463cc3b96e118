theorem dX11_kindOfLetter_0 : decode cX11_kindOfLetter 0 = .ok (.iload_n 0, 1) := by decide +kernel
theorem dX11_kindOfLetter_1 : decode cX11_kindOfLetter 1 = .ok (.bipush 110, 2) := by decide +kernel
theorem dX11_kindOfLetter_3 : decode cX11_kindOfLetter 3 = .ok (.if_icmp .ne 7, 3) := by decide +kernel
theorem dX11_kindOfLetter_10 : decode cX11_kindOfLetter 10 = .ok (.iload_n 0, 1) := by decide +kernel
theorem dX11_kindOfLetter_11 : decode cX11_kindOfLetter 11 = .ok (.bipush 116, 2) := by decide +kernel
theorem dX11_kindOfLetter_13 : decode cX11_kindOfLetter 13 = .ok (.if_icmp .ne 7, 3) := by decide +kernel
theorem dX11_kindOfLetter_20 : decode cX11_kindOfLetter 20 = .ok (.iload_n 0, 1) := by decide +kernel
theorem dX11_kindOfLetter_21 : decode cX11_kindOfLetter 21 = .ok (.bipush 115, 2) := by decide +kernel
theorem dX11_kindOfLetter_23 : decode cX11_kindOfLetter 23 = .ok (.if_icmp .ne 7, 3) := by decide +kernel
theorem dX11_kindOfLetter_30 : decode cX11_kindOfLetter 30 = .ok (.iconst 0, 1) := by decide +kernel
theorem dX11_kindOfLetter_31 : decode cX11_kindOfLetter 31 = .ok (.ireturn, 1) := by decide +kernel
theorem dX11_kindOfLetter_26 : decode cX11_kindOfLetter 26 = .ok (.iconst 3, 1) := by decide +kernel
theorem dX11_kindOfLetter_27 : decode cX11_kindOfLetter 27 = .ok (.goto 4, 3) := by decide +kernel
theorem dX11_kindOfLetter_16 : decode cX11_kindOfLetter 16 = .ok (.iconst 2, 1) := by decide +kernel
theorem dX11_kindOfLetter_17 : decode cX11_kindOfLetter 17 = .ok (.goto 14, 3) := by decide +kernel
theorem dX11_kindOfLetter_6 : decode cX11_kindOfLetter 6 = .ok (.iconst 1, 1) := by decide +kernel
theorem dX11_kindOfLetter_7 : decode cX11_kindOfLetter 7 = .ok (.goto 24, 3) := by decide +kernel
theorem dX0_init_0 : decode cX0_init 0 = .ok (.aload_n 0, 1) := by decide +kernel
theorem k_1_43 : Jvm.Cond.methodLink "FinderHouse$Acts" (5 : Nat) ({ cls := "java/lang/Object", name := "<init>", desc := "()V" } : Jvm.MethodName) ∈ tb := tb1 43 (by decide +kernel) (by decide +kernel)
theorem dX0_init_1 : decode cX0_init 1 = .ok (.invokespecial 5, 3) := by decide +kernel
theorem dX0_init_4 : decode cX0_init 4 = .ok (.aload_n 0, 1) := by decide +kernel
theorem dX0_init_5 : decode cX0_init 5 = .ok (.bipush 36, 2) := by decide +kernel
theorem dX0_init_7 : decode cX0_init 7 = .ok (.newarray .long, 2) := by decide +kernel
theorem k_1_141 : Jvm.Cond.fieldLink "FinderHouse$Acts" (11 : Nat) "FinderHouse$Acts" "names" "[J" ∈ tb := tb1 141 (by decide +kernel) (by decide +kernel)
theorem dX0_init_9 : decode cX0_init 9 = .ok (.putfield 11, 3) := by decide +kernel
theorem dX0_init_12 : decode cX0_init 12 = .ok (.aload_n 0, 1) := by decide +kernel
theorem dX0_init_13 : decode cX0_init 13 = .ok (.sipush 144, 3) := by decide +kernel
theorem dX0_init_16 : decode cX0_init 16 = .ok (.newarray .int, 2) := by decide +kernel
theorem k_1_142 : Jvm.Cond.fieldLink "FinderHouse$Acts" (15 : Nat) "FinderHouse$Acts" "kinds" "[I" ∈ tb := tb1 142 (by decide +kernel) (by decide +kernel)
theorem dX0_init_18 : decode cX0_init 18 = .ok (.putfield 15, 3) := by decide +kernel
theorem dX0_init_21 : decode cX0_init 21 = .ok (.aload_n 0, 1) := by decide +kernel
theorem dX0_init_22 : decode cX0_init 22 = .ok (.bipush 36, 2) := by decide +kernel
theorem dX0_init_24 : decode cX0_init 24 = .ok (.newarray .int, 2) := by decide +kernel
theorem k_1_148 : Jvm.Cond.fieldLink "FinderHouse$Acts" (19 : Nat) "FinderHouse$Acts" "arity" "[I" ∈ tb := tb1 148 (by decide +kernel) (by decide +kernel)
theorem dX0_init_26 : decode cX0_init 26 = .ok (.putfield 19, 3) := by decide +kernel
theorem dX0_init_29 : decode cX0_init 29 = .ok (.aload_n 0, 1) := by decide +kernel
theorem dX0_init_30 : decode cX0_init 30 = .ok (.bipush 36, 2) := by decide +kernel
theorem dX0_init_32 : decode cX0_init 32 = .ok (.newarray .int, 2) := by decide +kernel
theorem k_1_153 : Jvm.Cond.fieldLink "FinderHouse$Acts" (22 : Nat) "FinderHouse$Acts" "weight" "[I" ∈ tb := tb1 153 (by decide +kernel) (by decide +kernel)
theorem dX0_init_34 : decode cX0_init 34 = .ok (.putfield 22, 3) := by decide +kernel
theorem dX0_init_37 : decode cX0_init 37 = .ok (.aload_n 0, 1) := by decide +kernel
theorem dX0_init_38 : decode cX0_init 38 = .ok (.bipush 10, 2) := by decide +kernel
theorem k_1_44 : Jvm.Cond.classLink "FinderHouse$Acts" (25 : Nat) "FinderHouse$Term" ∈ tb := tb1 44 (by decide +kernel) (by decide +kernel)
theorem dX0_init_40 : decode cX0_init 40 = .ok (.anewarray 25, 3) := by decide +kernel
theorem k_1_155 : Jvm.Cond.fieldLink "FinderHouse$Acts" (27 : Nat) "FinderHouse$Acts" "terms" "[LFinderHouse$Term;" ∈ tb := tb1 155 (by decide +kernel) (by decide +kernel)
theorem dX0_init_43 : decode cX0_init 43 = .ok (.putfield 27, 3) := by decide +kernel
theorem dX0_init_46 : decode cX0_init 46 = .ok (.aload_n 0, 1) := by decide +kernel
theorem dX0_init_47 : decode cX0_init 47 = .ok (.bipush 10, 2) := by decide +kernel
theorem k_1_140 : Jvm.Cond.arrayClass Jvm.ClassFile.FieldType.boolean ∈ tb := tb1 140 (by decide +kernel) (by decide +kernel)
theorem dX0_init_49 : decode cX0_init 49 = .ok (.newarray .boolean, 2) := by decide +kernel
theorem k_1_161 : Jvm.Cond.fieldLink "FinderHouse$Acts" (31 : Nat) "FinderHouse$Acts" "tabled" "[Z" ∈ tb := tb1 161 (by decide +kernel) (by decide +kernel)
theorem dX0_init_51 : decode cX0_init 51 = .ok (.putfield 31, 3) := by decide +kernel
theorem dX0_init_54 : decode cX0_init 54 = .ok (.aload_n 0, 1) := by decide +kernel
theorem dX0_init_55 : decode cX0_init 55 = .ok (.sipush 2560, 3) := by decide +kernel
theorem dX0_init_58 : decode cX0_init 58 = .ok (.newarray .int, 2) := by decide +kernel
theorem k_1_162 : Jvm.Cond.fieldLink "FinderHouse$Acts" (35 : Nat) "FinderHouse$Acts" "table" "[I" ∈ tb := tb1 162 (by decide +kernel) (by decide +kernel)
theorem dX0_init_60 : decode cX0_init 60 = .ok (.putfield 35, 3) := by decide +kernel
theorem dX0_init_63 : decode cX0_init 63 = .ok (.aload_n 0, 1) := by decide +kernel
theorem dX0_init_64 : decode cX0_init 64 = .ok (.sipush 2560, 3) := by decide +kernel
theorem dX0_init_67 : decode cX0_init 67 = .ok (.newarray .int, 2) := by decide +kernel
theorem k_1_163 : Jvm.Cond.fieldLink "FinderHouse$Acts" (38 : Nat) "FinderHouse$Acts" "tableWorked" "[I" ∈ tb := tb1 163 (by decide +kernel) (by decide +kernel)
theorem dX0_init_69 : decode cX0_init 69 = .ok (.putfield 38, 3) := by decide +kernel
theorem dX0_init_72 : decode cX0_init 72 = .ok (.aload_n 0, 1) := by decide +kernel
theorem dX0_init_73 : decode cX0_init 73 = .ok (.sipush 1452, 3) := by decide +kernel
theorem dX0_init_76 : decode cX0_init 76 = .ok (.newarray .int, 2) := by decide +kernel
theorem k_1_164 : Jvm.Cond.fieldLink "FinderHouse$Acts" (41 : Nat) "FinderHouse$Acts" "answers" "[I" ∈ tb := tb1 164 (by decide +kernel) (by decide +kernel)
theorem dX0_init_78 : decode cX0_init 78 = .ok (.putfield 41, 3) := by decide +kernel
theorem dX0_init_81 : decode cX0_init 81 = .ok (.aload_n 0, 1) := by decide +kernel
theorem dX0_init_82 : decode cX0_init 82 = .ok (.sipush 1452, 3) := by decide +kernel
theorem dX0_init_85 : decode cX0_init 85 = .ok (.newarray .int, 2) := by decide +kernel
theorem k_1_165 : Jvm.Cond.fieldLink "FinderHouse$Acts" (44 : Nat) "FinderHouse$Acts" "worked" "[I" ∈ tb := tb1 165 (by decide +kernel) (by decide +kernel)
theorem dX0_init_87 : decode cX0_init 87 = .ok (.putfield 44, 3) := by decide +kernel
theorem dX0_init_90 : decode cX0_init 90 = .ok (.iconst 0, 1) := by decide +kernel
theorem dX0_init_91 : decode cX0_init 91 = .ok (.istore_n 1, 1) := by decide +kernel
theorem dX0_init_92 : decode cX0_init 92 = .ok (.iconst 0, 1) := by decide +kernel
theorem dX0_init_93 : decode cX0_init 93 = .ok (.istore_n 2, 1) := by decide +kernel
theorem dX0_init_94 : decode cX0_init 94 = .ok (.iconst 0, 1) := by decide +kernel
theorem dX0_init_95 : decode cX0_init 95 = .ok (.istore_n 3, 1) := by decide +kernel
theorem dX0_init_96 : decode cX0_init 96 = .ok (.iload_n 3, 1) := by decide +kernel
theorem dX0_init_97 : decode cX0_init 97 = .ok (.bipush 26, 2) := by decide +kernel
theorem dX0_init_99 : decode cX0_init 99 = .ok (.if_icmp .ge 199, 3) := by decide +kernel
theorem dX0_init_298 : decode cX0_init 298 = .ok (.iconst 0, 1) := by decide +kernel
theorem dX0_init_299 : decode cX0_init 299 = .ok (.istore_n 3, 1) := by decide +kernel
theorem dX0_init_300 : decode cX0_init 300 = .ok (.iload_n 3, 1) := by decide +kernel
theorem dX0_init_301 : decode cX0_init 301 = .ok (.bipush 10, 2) := by decide +kernel
theorem dX0_init_303 : decode cX0_init 303 = .ok (.if_icmp .ge 24, 3) := by decide +kernel
theorem dX0_init_306 : decode cX0_init 306 = .ok (.aload_n 0, 1) := by decide +kernel
theorem dX0_init_307 : decode cX0_init 307 = .ok (.getfield 27, 3) := by decide +kernel
theorem dX0_init_310 : decode cX0_init 310 = .ok (.iload_n 3, 1) := by decide +kernel
theorem dX0_init_311 : decode cX0_init 311 = .ok (.new 25, 3) := by decide +kernel
theorem dX0_init_314 : decode cX0_init 314 = .ok (.dup, 1) := by decide +kernel
theorem dX0_init_315 : decode cX0_init 315 = .ok (.bipush 121, 2) := by decide +kernel
theorem k_1_102 : Jvm.Cond.methodLink "FinderHouse$Acts" (69 : Nat) ({ cls := "FinderHouse$Term", name := "<init>", desc := "(I)V" } : Jvm.MethodName) ∈ tb := tb1 102 (by decide +kernel) (by decide +kernel)
theorem dX0_init_317 : decode cX0_init 317 = .ok (.invokespecial 69, 3) := by decide +kernel
theorem dX0_init_320 : decode cX0_init 320 = .ok (.aastore, 1) := by decide +kernel
theorem dX0_init_321 : decode cX0_init 321 = .ok (.iinc 3 1, 3) := by decide +kernel
theorem dX0_init_324 : decode cX0_init 324 = .ok (.goto (-24), 3) := by decide +kernel
theorem dX0_init_327 : decode cX0_init 327 = .ok (.return_, 1) := by decide +kernel
theorem dX0_init_102 : decode cX0_init 102 = .ok (.iload_n 1, 1) := by decide +kernel
theorem dX0_init_103 : decode cX0_init 103 = .ok (.ldc 47, 2) := by decide +kernel
theorem k_1_50 : Jvm.Cond.code ({ cls := "java/lang/String", name := "length", desc := "()I" } : Jvm.MethodName) prog_24_method_54_code (1 : Nat) (Option.some Jvm.ClassFile.FieldType.int) ∈ tb := tb1 50 (by decide +kernel) (by decide +kernel)
theorem k_1_47 : Jvm.Cond.methodLink "FinderHouse$Acts" (49 : Nat) ({ cls := "java/lang/String", name := "length", desc := "()I" } : Jvm.MethodName) ∈ tb := tb1 47 (by decide +kernel) (by decide +kernel)
theorem k_1_48 : Jvm.Cond.instanceMethod ({ cls := "java/lang/String", name := "length", desc := "()I" } : Jvm.MethodName) ∈ tb := tb1 48 (by decide +kernel) (by decide +kernel)
theorem k_1_49 : Jvm.Cond.selects "java/lang/String" ({ cls := "java/lang/String", name := "length", desc := "()I" } : Jvm.MethodName) ({ cls := "java/lang/String", name := "length", desc := "()I" } : Jvm.MethodName) ∈ tb := tb1 49 (by decide +kernel) (by decide +kernel)
theorem dX0_init_105 : decode cX0_init 105 = .ok (.invokevirtual 49, 3) := by decide +kernel
theorem dX0_init_108 : decode cX0_init 108 = .ok (.if_icmp .ge 50, 3) := by decide +kernel
theorem dX0_init_158 : decode cX0_init 158 = .ok (.iload_n 2, 1) := by decide +kernel
theorem dX0_init_159 : decode cX0_init 159 = .ok (.ldc 63, 2) := by decide +kernel
theorem dX0_init_161 : decode cX0_init 161 = .ok (.invokevirtual 49, 3) := by decide +kernel
theorem dX0_init_164 : decode cX0_init 164 = .ok (.if_icmp .ge 54, 3) := by decide +kernel
theorem dX0_init_167 : decode cX0_init 167 = .ok (.ldc 63, 2) := by decide +kernel
theorem dX0_init_169 : decode cX0_init 169 = .ok (.iload_n 2, 1) := by decide +kernel
theorem k_1_60 : Jvm.Cond.code ({ cls := "java/lang/String", name := "charAt", desc := "(I)C" } : Jvm.MethodName) prog_24_method_56_code (2 : Nat) (Option.some Jvm.ClassFile.FieldType.char) ∈ tb := tb1 60 (by decide +kernel) (by decide +kernel)
theorem k_1_57 : Jvm.Cond.methodLink "FinderHouse$Acts" (55 : Nat) ({ cls := "java/lang/String", name := "charAt", desc := "(I)C" } : Jvm.MethodName) ∈ tb := tb1 57 (by decide +kernel) (by decide +kernel)
theorem k_1_58 : Jvm.Cond.instanceMethod ({ cls := "java/lang/String", name := "charAt", desc := "(I)C" } : Jvm.MethodName) ∈ tb := tb1 58 (by decide +kernel) (by decide +kernel)
theorem k_1_59 : Jvm.Cond.selects "java/lang/String" ({ cls := "java/lang/String", name := "charAt", desc := "(I)C" } : Jvm.MethodName) ({ cls := "java/lang/String", name := "charAt", desc := "(I)C" } : Jvm.MethodName) ∈ tb := tb1 59 (by decide +kernel) (by decide +kernel)
theorem dX0_init_170 : decode cX0_init 170 = .ok (.invokevirtual 55, 3) := by decide +kernel
theorem dX0_init_173 : decode cX0_init 173 = .ok (.bipush 32, 2) := by decide +kernel
theorem dX0_init_175 : decode cX0_init 175 = .ok (.if_icmp .eq 43, 3) := by decide +kernel
theorem dX0_init_218 : decode cX0_init 218 = .ok (.aload_n 0, 1) := by decide +kernel
theorem dX0_init_219 : decode cX0_init 219 = .ok (.getfield 19, 3) := by decide +kernel
theorem dX0_init_222 : decode cX0_init 222 = .ok (.iload_n 3, 1) := by decide +kernel
theorem dX0_init_223 : decode cX0_init 223 = .ok (.dup2, 1) := by decide +kernel
theorem dX0_init_224 : decode cX0_init 224 = .ok (.iaload, 1) := by decide +kernel
theorem dX0_init_225 : decode cX0_init 225 = .ok (.iconst 1, 1) := by decide +kernel
theorem dX0_init_226 : decode cX0_init 226 = .ok (.isub, 1) := by decide +kernel
theorem dX0_init_227 : decode cX0_init 227 = .ok (.iastore, 1) := by decide +kernel
theorem dX0_init_228 : decode cX0_init 228 = .ok (.aload_n 0, 1) := by decide +kernel
theorem dX0_init_229 : decode cX0_init 229 = .ok (.getfield 15, 3) := by decide +kernel
theorem dX0_init_232 : decode cX0_init 232 = .ok (.iload_n 3, 1) := by decide +kernel
theorem dX0_init_233 : decode cX0_init 233 = .ok (.iconst 4, 1) := by decide +kernel
theorem dX0_init_234 : decode cX0_init 234 = .ok (.imul, 1) := by decide +kernel
theorem dX0_init_235 : decode cX0_init 235 = .ok (.iconst 3, 1) := by decide +kernel
theorem dX0_init_236 : decode cX0_init 236 = .ok (.iadd, 1) := by decide +kernel
theorem dX0_init_237 : decode cX0_init 237 = .ok (.aload_n 0, 1) := by decide +kernel
theorem dX0_init_238 : decode cX0_init 238 = .ok (.getfield 15, 3) := by decide +kernel
theorem dX0_init_241 : decode cX0_init 241 = .ok (.iload_n 3, 1) := by decide +kernel
theorem dX0_init_242 : decode cX0_init 242 = .ok (.iconst 4, 1) := by decide +kernel
theorem dX0_init_243 : decode cX0_init 243 = .ok (.imul, 1) := by decide +kernel
theorem dX0_init_244 : decode cX0_init 244 = .ok (.aload_n 0, 1) := by decide +kernel
theorem dX0_init_245 : decode cX0_init 245 = .ok (.getfield 19, 3) := by decide +kernel
theorem dX0_init_248 : decode cX0_init 248 = .ok (.iload_n 3, 1) := by decide +kernel
theorem dX0_init_249 : decode cX0_init 249 = .ok (.iaload, 1) := by decide +kernel
theorem dX0_init_250 : decode cX0_init 250 = .ok (.iadd, 1) := by decide +kernel
theorem dX0_init_251 : decode cX0_init 251 = .ok (.iaload, 1) := by decide +kernel
theorem dX0_init_252 : decode cX0_init 252 = .ok (.iastore, 1) := by decide +kernel
theorem dX0_init_253 : decode cX0_init 253 = .ok (.aload_n 0, 1) := by decide +kernel
theorem dX0_init_254 : decode cX0_init 254 = .ok (.getfield 19, 3) := by decide +kernel
theorem dX0_init_257 : decode cX0_init 257 = .ok (.iload_n 3, 1) := by decide +kernel
theorem dX0_init_258 : decode cX0_init 258 = .ok (.iaload, 1) := by decide +kernel
theorem dX0_init_259 : decode cX0_init 259 = .ok (.iconst 3, 1) := by decide +kernel
theorem dX0_init_260 : decode cX0_init 260 = .ok (.if_icmp .ge 19, 3) := by decide +kernel
theorem dX0_init_279 : decode cX0_init 279 = .ok (.aload_n 0, 1) := by decide +kernel
theorem dX0_init_280 : decode cX0_init 280 = .ok (.getfield 22, 3) := by decide +kernel
theorem dX0_init_283 : decode cX0_init 283 = .ok (.iload_n 3, 1) := by decide +kernel
theorem dX0_init_284 : decode cX0_init 284 = .ok (.iconst 1, 1) := by decide +kernel
theorem dX0_init_285 : decode cX0_init 285 = .ok (.iastore, 1) := by decide +kernel
theorem dX0_init_286 : decode cX0_init 286 = .ok (.iinc 1 1, 3) := by decide +kernel
theorem dX0_init_289 : decode cX0_init 289 = .ok (.iinc 2 1, 3) := by decide +kernel
theorem dX0_init_292 : decode cX0_init 292 = .ok (.iinc 3 1, 3) := by decide +kernel
theorem dX0_init_295 : decode cX0_init 295 = .ok (.goto (-199), 3) := by decide +kernel
theorem dX0_init_263 : decode cX0_init 263 = .ok (.aload_n 0, 1) := by decide +kernel
theorem dX0_init_264 : decode cX0_init 264 = .ok (.getfield 15, 3) := by decide +kernel
theorem dX0_init_267 : decode cX0_init 267 = .ok (.iload_n 3, 1) := by decide +kernel
theorem dX0_init_268 : decode cX0_init 268 = .ok (.iconst 4, 1) := by decide +kernel
theorem dX0_init_269 : decode cX0_init 269 = .ok (.imul, 1) := by decide +kernel
theorem dX0_init_270 : decode cX0_init 270 = .ok (.aload_n 0, 1) := by decide +kernel
theorem dX0_init_271 : decode cX0_init 271 = .ok (.getfield 19, 3) := by decide +kernel
theorem dX0_init_274 : decode cX0_init 274 = .ok (.iload_n 3, 1) := by decide +kernel
theorem dX0_init_275 : decode cX0_init 275 = .ok (.iaload, 1) := by decide +kernel
theorem dX0_init_276 : decode cX0_init 276 = .ok (.iadd, 1) := by decide +kernel
theorem dX0_init_277 : decode cX0_init 277 = .ok (.iconst 0, 1) := by decide +kernel
theorem dX0_init_278 : decode cX0_init 278 = .ok (.iastore, 1) := by decide +kernel
theorem dX0_init_178 : decode cX0_init 178 = .ok (.aload_n 0, 1) := by decide +kernel
theorem dX0_init_179 : decode cX0_init 179 = .ok (.getfield 15, 3) := by decide +kernel
theorem dX0_init_182 : decode cX0_init 182 = .ok (.iload_n 3, 1) := by decide +kernel
theorem dX0_init_183 : decode cX0_init 183 = .ok (.iconst 4, 1) := by decide +kernel
theorem dX0_init_184 : decode cX0_init 184 = .ok (.imul, 1) := by decide +kernel
theorem dX0_init_185 : decode cX0_init 185 = .ok (.aload_n 0, 1) := by decide +kernel
theorem dX0_init_186 : decode cX0_init 186 = .ok (.getfield 19, 3) := by decide +kernel
theorem dX0_init_189 : decode cX0_init 189 = .ok (.iload_n 3, 1) := by decide +kernel
theorem dX0_init_190 : decode cX0_init 190 = .ok (.iaload, 1) := by decide +kernel
theorem dX0_init_191 : decode cX0_init 191 = .ok (.iadd, 1) := by decide +kernel
theorem dX0_init_192 : decode cX0_init 192 = .ok (.ldc 63, 2) := by decide +kernel
theorem dX0_init_194 : decode cX0_init 194 = .ok (.iload_n 2, 1) := by decide +kernel
theorem dX0_init_195 : decode cX0_init 195 = .ok (.invokevirtual 55, 3) := by decide +kernel
theorem k_1_100 : Jvm.Cond.code ({ cls := "FinderHouse", name := "kindOfLetter", desc := "(I)I" } : Jvm.MethodName) prog_1_method_32_code (1 : Nat) (Option.some Jvm.ClassFile.FieldType.int) ∈ tb := tb1 100 (by decide +kernel) (by decide +kernel)
theorem kn_1_98 : Jvm.Cond.methodLinkNest "FinderHouse$Acts" (65 : Nat) ({ cls := "FinderHouse", name := "kindOfLetter", desc := "(I)I" } : Jvm.MethodName) "FinderHouse" ∈ nb := nb_of (List.mem_of_getElem? (i := 98) (by decide +kernel)) (by decide +kernel)
theorem k_1_99 : Jvm.Cond.static ({ cls := "FinderHouse", name := "kindOfLetter", desc := "(I)I" } : Jvm.MethodName) ∈ tb := tb1 99 (by decide +kernel) (by decide +kernel)
theorem dX0_init_198 : decode cX0_init 198 = .ok (.invokestatic 65, 3) := by decide +kernel
theorem dX0_init_201 : decode cX0_init 201 = .ok (.iastore, 1) := by decide +kernel
theorem dX0_init_202 : decode cX0_init 202 = .ok (.aload_n 0, 1) := by decide +kernel
theorem dX0_init_203 : decode cX0_init 203 = .ok (.getfield 19, 3) := by decide +kernel
theorem dX0_init_206 : decode cX0_init 206 = .ok (.iload_n 3, 1) := by decide +kernel
theorem dX0_init_207 : decode cX0_init 207 = .ok (.dup2, 1) := by decide +kernel
theorem dX0_init_208 : decode cX0_init 208 = .ok (.iaload, 1) := by decide +kernel
theorem dX0_init_209 : decode cX0_init 209 = .ok (.iconst 1, 1) := by decide +kernel
theorem dX0_init_210 : decode cX0_init 210 = .ok (.iadd, 1) := by decide +kernel
theorem dX0_init_211 : decode cX0_init 211 = .ok (.iastore, 1) := by decide +kernel
theorem dX0_init_212 : decode cX0_init 212 = .ok (.iinc 2 1, 3) := by decide +kernel
theorem dX0_init_215 : decode cX0_init 215 = .ok (.goto (-57), 3) := by decide +kernel
theorem dX0_init_111 : decode cX0_init 111 = .ok (.ldc 47, 2) := by decide +kernel
theorem dX0_init_113 : decode cX0_init 113 = .ok (.iload_n 1, 1) := by decide +kernel
theorem dX0_init_114 : decode cX0_init 114 = .ok (.invokevirtual 55, 3) := by decide +kernel
theorem dX0_init_117 : decode cX0_init 117 = .ok (.bipush 32, 2) := by decide +kernel
theorem dX0_init_119 : decode cX0_init 119 = .ok (.if_icmp .eq 39, 3) := by decide +kernel
theorem dX0_init_122 : decode cX0_init 122 = .ok (.aload_n 0, 1) := by decide +kernel
theorem dX0_init_123 : decode cX0_init 123 = .ok (.getfield 11, 3) := by decide +kernel
theorem dX0_init_126 : decode cX0_init 126 = .ok (.iload_n 3, 1) := by decide +kernel
theorem dX0_init_127 : decode cX0_init 127 = .ok (.aload_n 0, 1) := by decide +kernel
theorem dX0_init_128 : decode cX0_init 128 = .ok (.getfield 11, 3) := by decide +kernel
theorem dX0_init_131 : decode cX0_init 131 = .ok (.iload_n 3, 1) := by decide +kernel
theorem dX0_init_132 : decode cX0_init 132 = .ok (.laload, 1) := by decide +kernel
theorem k_1_95 : Jvm.Cond.constantLong "FinderHouse$Acts" (59 : Nat) (27 : Int64) ∈ tb := tb1 95 (by decide +kernel) (by decide +kernel)
theorem dX0_init_133 : decode cX0_init 133 = .ok (.ldc2_w 59, 3) := by decide +kernel
theorem dX0_init_136 : decode cX0_init 136 = .ok (.lmul, 1) := by decide +kernel
theorem dX0_init_137 : decode cX0_init 137 = .ok (.ldc 47, 2) := by decide +kernel
theorem dX0_init_139 : decode cX0_init 139 = .ok (.iload_n 1, 1) := by decide +kernel
theorem dX0_init_140 : decode cX0_init 140 = .ok (.invokevirtual 55, 3) := by decide +kernel
theorem dX0_init_143 : decode cX0_init 143 = .ok (.i2l, 1) := by decide +kernel
theorem dX0_init_144 : decode cX0_init 144 = .ok (.ladd, 1) := by decide +kernel
theorem k_1_96 : Jvm.Cond.constantLong "FinderHouse$Acts" (61 : Nat) (97 : Int64) ∈ tb := tb1 96 (by decide +kernel) (by decide +kernel)
theorem dX0_init_145 : decode cX0_init 145 = .ok (.ldc2_w 61, 3) := by decide +kernel
theorem dX0_init_148 : decode cX0_init 148 = .ok (.lsub, 1) := by decide +kernel
theorem dX0_init_149 : decode cX0_init 149 = .ok (.lconst 1, 1) := by decide +kernel
theorem dX0_init_150 : decode cX0_init 150 = .ok (.ladd, 1) := by decide +kernel
theorem dX0_init_151 : decode cX0_init 151 = .ok (.lastore, 1) := by decide +kernel
theorem dX0_init_152 : decode cX0_init 152 = .ok (.iinc 1 1, 3) := by decide +kernel
theorem dX0_init_155 : decode cX0_init 155 = .ok (.goto (-53), 3) := by decide +kernel
def bsN : List Int32 := [97, 100, 100, 32, 115, 117, 98, 32, 109, 117, 108, 32, 100, 105, 118, 32, 114, 101, 109, 32, 109, 105, 110, 32, 109, 97, 120, 32, 97, 110, 100, 32, 111, 114, 32, 120, 111, 114, 32, 108, 101, 115, 115, 32, 115, 97, 109, 101, 32, 110, 111, 116, 32, 98, 111, 116, 104, 32, 97, 110, 121, 32, 105, 102, 32, 112, 105, 99, 107, 32, 99, 97, 116, 32, 108, 101, 110, 32, 116, 97, 107, 101, 32, 100, 114, 111, 112, 32, 114, 101, 118, 32, 104, 101, 97, 100, 32, 108, 105, 107, 101, 32, 99, 111, 100, 101, 32, 115, 105, 103, 110, 32]
def bsK : List Int32 := [110, 110, 110, 32, 110, 110, 110, 32, 110, 110, 110, 32, 110, 110, 110, 32, 110, 110, 110, 32, 110, 110, 110, 32, 110, 110, 110, 32, 110, 110, 110, 32, 110, 110, 110, 32, 110, 110, 110, 32, 110, 110, 116, 32, 110, 110, 116, 32, 116, 116, 32, 116, 116, 116, 32, 116, 116, 116, 32, 116, 110, 110, 110, 32, 116, 115, 115, 115, 32, 115, 115, 115, 32, 115, 110, 32, 115, 110, 115, 32, 115, 110, 115, 32, 115, 115, 32, 115, 115, 32, 115, 115, 116, 32, 115, 110, 32, 110, 115, 32]
def kpT : List Nat := [0, 4, 8, 12, 16, 20, 24, 28, 32, 36, 40, 44, 48, 51, 55, 59, 64, 69, 73, 76, 80, 84, 87, 90, 94, 97, 100]
def klT : List Nat := [3, 3, 3, 3, 3, 3, 3, 3, 3, 3, 3, 3, 2, 3, 3, 4, 4, 3, 2, 3, 3, 2, 2, 3, 2, 2]
abbrev kp (k : Nat) : Nat := kpT.getD k 0
abbrev kl (k : Nat) : Nat := klT.getD k 0
theorem kd_len : bsK.length = 100 := by decide
theorem kd_fit : ∀ k, k < 26 → 2 ≤ kl k ∧ kl k ≤ 4 ∧ kp k + kl k < 100 ∧ kp (k + 1) = kp k + kl k + 1 := by decide
theorem kd_chr : ∀ k, k < 26 → ∀ a, a < 5 → a ≤ kl k → (chr bsK (nI (kp k + a)) = 32 ↔ a = kl k) := by decide
theorem nI_ge26 {k : Nat} (h : k ≤ 26) (h1 : ¬ 26 ≤ nI k) : k < 26 := by
  rcases Nat.lt_or_ge k 26 with h2 | h2
  · exact h2
  · have : k = 26 := by omega
    subst this
    exact absurd (by decide) h1
theorem nI_lt112 {n : Nat} (hn : n < 2 ^ 31) (h1 : ¬ 112 ≤ nI n) : n < 112 := by
  rcases Nat.lt_or_ge n 112 with h2 | h2
  · exact h2
  · exact absurd (show nI 112 ≤ nI n from nI_le h2 hn) h1
set_option maxHeartbeats 4000000 in
set_option maxRecDepth 100000 in
theorem x_kindOfLetter (l : Launch) (dC : Nat → ClassId) (dI : Nat → Nat → Nat) (sz : Nat) (p0 : Int32)  : Met l yX11_kindOfLetter (Cond.code yX11_kindOfLetter cX11_kindOfLetter 1 (some .int) :: tb) ({ frames := 0, cells := 0, slots := 0, locals := 0 }) (pcw [.int p0] (dC, dI) [] [] sz) (va_Qi (fun (r : Int32) => (fun (_ : Unit) => True)) (bw (dC, dI) (va_A [] sz) (fun (_ : Unit) => []) (fun (_ : Unit) => [])) (va_A [] sz)) 0 0 (va_A [] sz) := by
  refine Met.ofW (cc := cX11_kindOfLetter) (maxL := 1) (ret := (some .int)) (by decide) rfl ?_
  intro p e s m args below meth c s₁ B hml hv
  obtain ⟨rfl, hsz, hP, hK, hD0⟩ := hv
  have hx := B.exec
  have hb := B.bytes
  have hr := B.returns
  have hts := atoms_spec (ws := Cond.code yX11_kindOfLetter cX11_kindOfLetter 1 (some .int) :: tb) B.pre
  have ht : ∀ w ∈ tb, w.before _ s = true := fun w h => hts w (List.mem_cons_of_mem _ h)
  have hown : s.vm.findClass RX11 = some m.cls := findClass_of_methodNamed B.named
  have hlocks := B.notSynchronized
  subst hsz
  have hD := hD0.self (sz := s.heap.size)
  generalize hAe : va_A [] s.heap.size = A at hD ⊢
  have hA : ∀ q : Nat, s.heap.size ≤ q → A q := fun q h => by rw [← hAe]; exact Or.inr h
  have hS : va_S A s.heap s.heap [] := va_S.rf
  have hl := lv_entry ([.int p0]) (n := 1) (Nat.le_of_ble_eq_true rfl)
  rw [lg_entry_eq]
  generalize (lg_sl ([.int p0]) ++ List.replicate (1 - (lg_sl ([.int p0])).length) Slot.unset).toArray = ls at hl ⊢
  have hl : lv_has ls 1 [(0, .int p0)] := hl
  have hP : va_P (dC, dI) cls [] s.heap := hP
  refine lv_iload_n hx hb dX11_kindOfLetter_0 rfl (lv_at hl 0 rfl) ?_
  refine lv_bipush (v := 110) hx hb dX11_kindOfLetter_1 (by decide) ?_
  refine lv_icmp_ne (tgt := 10) hx hb dX11_kindOfLetter_3 (by decide) (fun b_1 => ?_) (fun b_1 => ?_)
  · refine lv_iload_n hx hb dX11_kindOfLetter_10 rfl (lv_at hl 0 rfl) ?_
    refine lv_bipush (v := 116) hx hb dX11_kindOfLetter_11 (by decide) ?_
    refine lv_icmp_ne (tgt := 20) hx hb dX11_kindOfLetter_13 (by decide) (fun b_2 => ?_) (fun b_2 => ?_)
    · refine lv_iload_n hx hb dX11_kindOfLetter_20 rfl (lv_at hl 0 rfl) ?_
      refine lv_bipush (v := 115) hx hb dX11_kindOfLetter_21 (by decide) ?_
      refine lv_icmp_ne (tgt := 30) hx hb dX11_kindOfLetter_23 (by decide) (fun b_3 => ?_) (fun b_3 => ?_)
      · refine lv_iconst (v := 0) hx hb dX11_kindOfLetter_30 (by decide) ?_
        exact W.iret (v := 0) hx hb hr (fun t ht9 hW => ⟨⟨0, (), rfl, trivial, by rw [ht9]; exact hP.sub [] rfl, va_K.moved hW.alike (hK.sub [] rfl), hD.sub [] (by decide) rfl⟩, hS.F ht9⟩) hS.2.2 dX11_kindOfLetter_31
      · refine lv_iconst (v := 3) hx hb dX11_kindOfLetter_26 (by decide) ?_
        refine lv_goto (tgt := 31) hx hb dX11_kindOfLetter_27 (by decide) ?_
        exact W.iret (v := 3) hx hb hr (fun t ht9 hW => ⟨⟨3, (), rfl, trivial, by rw [ht9]; exact hP.sub [] rfl, va_K.moved hW.alike (hK.sub [] rfl), hD.sub [] (by decide) rfl⟩, hS.F ht9⟩) hS.2.2 dX11_kindOfLetter_31
    · refine lv_iconst (v := 2) hx hb dX11_kindOfLetter_16 (by decide) ?_
      refine lv_goto (tgt := 31) hx hb dX11_kindOfLetter_17 (by decide) ?_
      exact W.iret (v := 2) hx hb hr (fun t ht9 hW => ⟨⟨2, (), rfl, trivial, by rw [ht9]; exact hP.sub [] rfl, va_K.moved hW.alike (hK.sub [] rfl), hD.sub [] (by decide) rfl⟩, hS.F ht9⟩) hS.2.2 dX11_kindOfLetter_31
  · refine lv_iconst (v := 1) hx hb dX11_kindOfLetter_6 (by decide) ?_
    refine lv_goto (tgt := 31) hx hb dX11_kindOfLetter_7 (by decide) ?_
    exact W.iret (v := 1) hx hb hr (fun t ht9 hW => ⟨⟨1, (), rfl, trivial, by rw [ht9]; exact hP.sub [] rfl, va_K.moved hW.alike (hK.sub [] rfl), hD.sub [] (by decide) rfl⟩, hS.F ht9⟩) hS.2.2 dX11_kindOfLetter_31
set_option maxHeartbeats 4000000 in
set_option maxRecDepth 100000 in
theorem k0 (l : Launch) (dC : Nat → ClassId) (dI : Nat → Nat → Nat) (sz : Nat) (q : Nat) (n1 : Nat) (n2 : Nat) (m1 : Nat) (m2 : Nat)  : Met l yX0_init (Cond.code yX0_init cX0_init 4 none :: tb) ({ frames := 4, cells := 50, slots := 11966, locals := 85 }) (pcx [.inr (.inl ("FinderHouse$Acts", 47, "add sub mul div rem min max and or xor less same not both any if pick cat len take drop rev head like code sign ", n1)), .inr (.inl ("FinderHouse$Acts", 63, "nnn nnn nnn nnn nnn nnn nnn nnn nnn nnn nnt nnt tt ttt ttt tnnn tsss sss sn sns sns ss ss sst sn ns ", n2)), .inr (.inr (.inl (n1, m1, bsN))), .inr (.inr (.inl (n2, m2, bsK))), .inl ("java/lang/String", "COMPACT_STRINGS", "Z", .int 1), .inr (.inr (.inr (.inr (.inl ("jdk/internal/util/Preconditions", "SIOOBE_FORMATTER", "Ljava/util/function/BiFunction;"))))), .inr (.inr (.inr (.inl "FinderHouse$Term"))), .inr (.inr (.inr (.inr (.inr (.inr ())))))] [.ref q] (dC, dI) [(q, .inr (0, [.null, .null, .null, .null, .null, .int 0, .null, .null, .null, .null, .null, .null, .null, .int 0, .int 0, .int 0]))] [] sz) (va_Qv (fun (fs1 : List Value) => (True) ∧ (fs1.length = 16) ∧ (fs1[5]? = some (.int 0))) (bw (dC, dI) (va_A [(q, .inr (0, [.null, .null, .null, .null, .null, .int 0, .null, .null, .null, .null, .null, .null, .null, .int 0, .int 0, .int 0]))] sz) (fun (fs1 : List Value) => [(q, .inr (0, fs1))]) (fun (fs1 : List Value) => [])) (va_A [(q, .inr (0, [.null, .null, .null, .null, .null, .int 0, .null, .null, .null, .null, .null, .null, .null, .int 0, .int 0, .int 0]))] sz)) 50 11966 (va_A [(q, .inr (0, [.null, .null, .null, .null, .null, .int 0, .null, .null, .null, .null, .null, .null, .null, .int 0, .int 0, .int 0]))] sz) := by
  refine Met.ofW (cc := cX0_init) (maxL := 4) (ret := none) (by decide) rfl ?_
  intro p e s m args below meth c s₁ B hml hv
  obtain ⟨rfl, hsz, hP, hK, hD0, hE⟩ := hv
  have hx := B.exec
  have hb := B.bytes
  have hr := B.returns
  have hts := atoms_spec (ws := Cond.code yX0_init cX0_init 4 none :: tb) B.pre
  have ht : ∀ w ∈ tb, w.before _ s = true := fun w h => hts w (List.mem_cons_of_mem _ h)
  have hown : s.vm.findClass RX0 = some m.cls := findClass_of_methodNamed B.named
  have hlocks := B.notSynchronized
  have hin : meth.name = "<init>" := (name_of_methodNamed B.named B.method).1
  subst hsz
  have hD := hD0.self (sz := s.heap.size)
  generalize hAe : va_A [(q, .inr (0, [.null, .null, .null, .null, .null, .int 0, .null, .null, .null, .null, .null, .null, .null, .int 0, .int 0, .int 0]))] s.heap.size = A at hD hE ⊢
  have hA : ∀ q : Nat, s.heap.size ≤ q → A q := fun q h => by rw [← hAe]; exact Or.inr h
  have hS : va_S A s.heap s.heap [] := va_S.rf
  have hl := lv_entry ([.ref q]) (n := 4) (Nat.le_of_ble_eq_true rfl)
  rw [lg_entry_eq]
  generalize (lg_sl ([.ref q]) ++ List.replicate (4 - (lg_sl ([.ref q])).length) Slot.unset).toArray = ls at hl ⊢
  have hl : lv_has ls 4 [(0, .ref q)] := hl
  have hP : va_P (dC, dI) cls [(q, .inr (0, [.null, .null, .null, .null, .null, .int 0, .null, .null, .null, .null, .null, .null, .null, .int 0, .int 0, .int 0]))] s.heap := hP
  refine lv_aload_n hx hb dX0_init_0 rfl (lv_at hl 0 rfl) ?_
  refine tk_o hx hb hown ht k_1_43 k_1_36 k_1_37 hml hl.1 dX0_init_1 (Nat.le_of_ble_eq_true rfl) (Nat.le_of_ble_eq_true rfl) ?_
  refine lv_aload_n hx hb dX0_init_4 rfl (lv_at hl 0 rfl) ?_
  refine lv_bipush (v := 36) hx hb dX0_init_5 (by decide) ?_
  refine va_newa (atype := .long) (ty := .long) (N' := 36) (a0 := (36, .inr (.inl (fun _ => 0)))) hx hb (ht _ k_1_138) rfl hK hP hD hS hA (fun _ => rfl) (by decide) (by decide) (Nat.le_of_ble_eq_true rfl) (Nat.le_of_ble_eq_true rfl) (Nat.le_of_ble_eq_true rfl) dX0_init_7 (fun q_1 c_2 H hK hP hD hS => ?_)
  have hK : va_K (dC, dI) cls [(c_2, .long)] s := hK
  have hP : va_P (dC, dI) cls [(q, .inr (0, [.null, .null, .null, .null, .null, .int 0, .null, .null, .null, .null, .null, .null, .null, .int 0, .int 0, .int 0])), (q_1, .inl (c_2, 36, .inr (.inl (fun _ => 0))))] H := hP
  have hD : va_D A [(q, .inr (0, [.null, .null, .null, .null, .null, .int 0, .null, .null, .null, .null, .null, .null, .null, .int 0, .int 0, .int 0])), (q_1, .inl (c_2, 36, .inr (.inl (fun _ => 0))))] := hD
  refine W.widen (k := 1) (n := 36) (by omega) (by omega) ?_
  refine va_putF (D := (dC, dI)) (ci := 0) (v := .ref q_1) (ty := .array .long) (C := RX0) (T := TX0) (N := 16) hx hb ht uX0 tyX0 tkX0 nmX0 hown hK hP hD hS 0 rfl rfl 0 (by decide) (ht _ k_1_141) (fun _ h9 => h9) rfl hin rfl (by decide +kernel) rfl rfl (Nat.le_of_ble_eq_true rfl) dX0_init_9 (fun H locs hP hD hS => ?_)
  have hP : va_P (dC, dI) cls [(q, .inr (0, [.ref q_1, .null, .null, .null, .null, .int 0, .null, .null, .null, .null, .null, .null, .null, .int 0, .int 0, .int 0])), (q_1, .inl (c_2, 36, .inr (.inl (fun _ => 0))))] H := hP
  have hD : va_D A [(q, .inr (0, [.ref q_1, .null, .null, .null, .null, .int 0, .null, .null, .null, .null, .null, .null, .null, .int 0, .int 0, .int 0])), (q_1, .inl (c_2, 36, .inr (.inl (fun _ => 0))))] := hD
  refine lv_aload_n hx hb dX0_init_12 rfl (lv_at hl 0 rfl) ?_
  refine lv_sipush (v := 144) hx hb dX0_init_13 (by decide) ?_
  refine va_newa (atype := .int) (ty := .int) (N' := 144) (a0 := (144, .inl (fun _ => 0))) hx hb (ht _ k_1_139) rfl hK hP hD hS hA (fun _ => rfl) (by decide) (by decide) (Nat.le_of_ble_eq_true rfl) (Nat.le_of_ble_eq_true rfl) (Nat.le_of_ble_eq_true rfl) dX0_init_16 (fun q_3 c_4 H hK hP hD hS => ?_)
  have hK : va_K (dC, dI) cls [(c_2, .long), (c_4, .int)] s := hK
  have hP : va_P (dC, dI) cls [(q, .inr (0, [.ref q_1, .null, .null, .null, .null, .int 0, .null, .null, .null, .null, .null, .null, .null, .int 0, .int 0, .int 0])), (q_1, .inl (c_2, 36, .inr (.inl (fun _ => 0)))), (q_3, .inl (c_4, 144, .inl (fun _ => 0)))] H := hP
  have hD : va_D A [(q, .inr (0, [.ref q_1, .null, .null, .null, .null, .int 0, .null, .null, .null, .null, .null, .null, .null, .int 0, .int 0, .int 0])), (q_1, .inl (c_2, 36, .inr (.inl (fun _ => 0)))), (q_3, .inl (c_4, 144, .inl (fun _ => 0)))] := hD
  refine W.widen (k := 2) (n := 180) (by omega) (by omega) ?_
  refine va_putF (D := (dC, dI)) (ci := 0) (v := .ref q_3) (ty := .array .int) (C := RX0) (T := TX0) (N := 16) hx hb ht uX0 tyX0 tkX0 nmX0 hown hK hP hD hS 0 rfl rfl 1 (by decide) (ht _ k_1_142) (fun _ h9 => h9) rfl hin rfl (by decide +kernel) rfl rfl (Nat.le_of_ble_eq_true rfl) dX0_init_18 (fun H locs hP hD hS => ?_)
  have hP : va_P (dC, dI) cls [(q, .inr (0, [.ref q_1, .ref q_3, .null, .null, .null, .int 0, .null, .null, .null, .null, .null, .null, .null, .int 0, .int 0, .int 0])), (q_1, .inl (c_2, 36, .inr (.inl (fun _ => 0)))), (q_3, .inl (c_4, 144, .inl (fun _ => 0)))] H := hP
  have hD : va_D A [(q, .inr (0, [.ref q_1, .ref q_3, .null, .null, .null, .int 0, .null, .null, .null, .null, .null, .null, .null, .int 0, .int 0, .int 0])), (q_1, .inl (c_2, 36, .inr (.inl (fun _ => 0)))), (q_3, .inl (c_4, 144, .inl (fun _ => 0)))] := hD
  refine lv_aload_n hx hb dX0_init_21 rfl (lv_at hl 0 rfl) ?_
  refine lv_bipush (v := 36) hx hb dX0_init_22 (by decide) ?_
  refine va_newa (atype := .int) (ty := .int) (N' := 36) (a0 := (36, .inl (fun _ => 0))) hx hb (ht _ k_1_139) rfl hK hP hD hS hA (fun _ => rfl) (by decide) (by decide) (Nat.le_of_ble_eq_true rfl) (Nat.le_of_ble_eq_true rfl) (Nat.le_of_ble_eq_true rfl) dX0_init_24 (fun q_5 c_6 H hK hP hD hS => ?_)
  have hK : va_K (dC, dI) cls [(c_2, .long), (c_4, .int), (c_6, .int)] s := hK
  have hP : va_P (dC, dI) cls [(q, .inr (0, [.ref q_1, .ref q_3, .null, .null, .null, .int 0, .null, .null, .null, .null, .null, .null, .null, .int 0, .int 0, .int 0])), (q_1, .inl (c_2, 36, .inr (.inl (fun _ => 0)))), (q_3, .inl (c_4, 144, .inl (fun _ => 0))), (q_5, .inl (c_6, 36, .inl (fun _ => 0)))] H := hP
  have hD : va_D A [(q, .inr (0, [.ref q_1, .ref q_3, .null, .null, .null, .int 0, .null, .null, .null, .null, .null, .null, .null, .int 0, .int 0, .int 0])), (q_1, .inl (c_2, 36, .inr (.inl (fun _ => 0)))), (q_3, .inl (c_4, 144, .inl (fun _ => 0))), (q_5, .inl (c_6, 36, .inl (fun _ => 0)))] := hD
  refine W.widen (k := 3) (n := 216) (by omega) (by omega) ?_
  refine va_putF (D := (dC, dI)) (ci := 0) (v := .ref q_5) (ty := .array .int) (C := RX0) (T := TX0) (N := 16) hx hb ht uX0 tyX0 tkX0 nmX0 hown hK hP hD hS 0 rfl rfl 2 (by decide) (ht _ k_1_148) (fun _ h9 => h9) rfl hin rfl (by decide +kernel) rfl rfl (Nat.le_of_ble_eq_true rfl) dX0_init_26 (fun H locs hP hD hS => ?_)
  have hP : va_P (dC, dI) cls [(q, .inr (0, [.ref q_1, .ref q_3, .ref q_5, .null, .null, .int 0, .null, .null, .null, .null, .null, .null, .null, .int 0, .int 0, .int 0])), (q_1, .inl (c_2, 36, .inr (.inl (fun _ => 0)))), (q_3, .inl (c_4, 144, .inl (fun _ => 0))), (q_5, .inl (c_6, 36, .inl (fun _ => 0)))] H := hP
  have hD : va_D A [(q, .inr (0, [.ref q_1, .ref q_3, .ref q_5, .null, .null, .int 0, .null, .null, .null, .null, .null, .null, .null, .int 0, .int 0, .int 0])), (q_1, .inl (c_2, 36, .inr (.inl (fun _ => 0)))), (q_3, .inl (c_4, 144, .inl (fun _ => 0))), (q_5, .inl (c_6, 36, .inl (fun _ => 0)))] := hD
  refine lv_aload_n hx hb dX0_init_29 rfl (lv_at hl 0 rfl) ?_
  refine lv_bipush (v := 36) hx hb dX0_init_30 (by decide) ?_
  refine va_newa (atype := .int) (ty := .int) (N' := 36) (a0 := (36, .inl (fun _ => 0))) hx hb (ht _ k_1_139) rfl hK hP hD hS hA (fun _ => rfl) (by decide) (by decide) (Nat.le_of_ble_eq_true rfl) (Nat.le_of_ble_eq_true rfl) (Nat.le_of_ble_eq_true rfl) dX0_init_32 (fun q_7 c_8 H hK hP hD hS => ?_)
  have hK : va_K (dC, dI) cls [(c_2, .long), (c_4, .int), (c_6, .int), (c_8, .int)] s := hK
  have hP : va_P (dC, dI) cls [(q, .inr (0, [.ref q_1, .ref q_3, .ref q_5, .null, .null, .int 0, .null, .null, .null, .null, .null, .null, .null, .int 0, .int 0, .int 0])), (q_1, .inl (c_2, 36, .inr (.inl (fun _ => 0)))), (q_3, .inl (c_4, 144, .inl (fun _ => 0))), (q_5, .inl (c_6, 36, .inl (fun _ => 0))), (q_7, .inl (c_8, 36, .inl (fun _ => 0)))] H := hP
  have hD : va_D A [(q, .inr (0, [.ref q_1, .ref q_3, .ref q_5, .null, .null, .int 0, .null, .null, .null, .null, .null, .null, .null, .int 0, .int 0, .int 0])), (q_1, .inl (c_2, 36, .inr (.inl (fun _ => 0)))), (q_3, .inl (c_4, 144, .inl (fun _ => 0))), (q_5, .inl (c_6, 36, .inl (fun _ => 0))), (q_7, .inl (c_8, 36, .inl (fun _ => 0)))] := hD
  refine W.widen (k := 4) (n := 252) (by omega) (by omega) ?_
  refine va_putF (D := (dC, dI)) (ci := 0) (v := .ref q_7) (ty := .array .int) (C := RX0) (T := TX0) (N := 16) hx hb ht uX0 tyX0 tkX0 nmX0 hown hK hP hD hS 0 rfl rfl 3 (by decide) (ht _ k_1_153) (fun _ h9 => h9) rfl hin rfl (by decide +kernel) rfl rfl (Nat.le_of_ble_eq_true rfl) dX0_init_34 (fun H locs hP hD hS => ?_)
  have hP : va_P (dC, dI) cls [(q, .inr (0, [.ref q_1, .ref q_3, .ref q_5, .ref q_7, .null, .int 0, .null, .null, .null, .null, .null, .null, .null, .int 0, .int 0, .int 0])), (q_1, .inl (c_2, 36, .inr (.inl (fun _ => 0)))), (q_3, .inl (c_4, 144, .inl (fun _ => 0))), (q_5, .inl (c_6, 36, .inl (fun _ => 0))), (q_7, .inl (c_8, 36, .inl (fun _ => 0)))] H := hP
  have hD : va_D A [(q, .inr (0, [.ref q_1, .ref q_3, .ref q_5, .ref q_7, .null, .int 0, .null, .null, .null, .null, .null, .null, .null, .int 0, .int 0, .int 0])), (q_1, .inl (c_2, 36, .inr (.inl (fun _ => 0)))), (q_3, .inl (c_4, 144, .inl (fun _ => 0))), (q_5, .inl (c_6, 36, .inl (fun _ => 0))), (q_7, .inl (c_8, 36, .inl (fun _ => 0)))] := hD
  refine lv_aload_n hx hb dX0_init_37 rfl (lv_at hl 0 rfl) ?_
  refine lv_bipush (v := 10) hx hb dX0_init_38 (by decide) ?_
  refine va_newq (C := "FinderHouse$Term") (N' := 10) hx hb hown (ht _ k_1_44) (xf_o hE 6 rfl) hK hP hD hS hA (by decide) (by decide) (Nat.le_of_ble_eq_true rfl) (Nat.le_of_ble_eq_true rfl) (Nat.le_of_ble_eq_true rfl) dX0_init_40 (fun q_9 c_10 H hK hP hD hS => ?_)
  have hK : va_K (dC, dI) cls [(c_2, .long), (c_4, .int), (c_6, .int), (c_8, .int), (c_10, .object "FinderHouse$Term")] s := hK
  have hP : va_P (dC, dI) cls [(q, .inr (0, [.ref q_1, .ref q_3, .ref q_5, .ref q_7, .null, .int 0, .null, .null, .null, .null, .null, .null, .null, .int 0, .int 0, .int 0])), (q_1, .inl (c_2, 36, .inr (.inl (fun _ => 0)))), (q_3, .inl (c_4, 144, .inl (fun _ => 0))), (q_5, .inl (c_6, 36, .inl (fun _ => 0))), (q_7, .inl (c_8, 36, .inl (fun _ => 0))), (q_9, .inl (c_10, 10, .inr (.inr (.inr (.inr (fun _ => none))))))] H := hP
  have hD : va_D A [(q, .inr (0, [.ref q_1, .ref q_3, .ref q_5, .ref q_7, .null, .int 0, .null, .null, .null, .null, .null, .null, .null, .int 0, .int 0, .int 0])), (q_1, .inl (c_2, 36, .inr (.inl (fun _ => 0)))), (q_3, .inl (c_4, 144, .inl (fun _ => 0))), (q_5, .inl (c_6, 36, .inl (fun _ => 0))), (q_7, .inl (c_8, 36, .inl (fun _ => 0))), (q_9, .inl (c_10, 10, .inr (.inr (.inr (.inr (fun _ => none))))))] := hD
  refine W.widen (k := 5) (n := 262) (by omega) (by omega) ?_
  refine va_putF (D := (dC, dI)) (ci := 0) (v := .ref q_9) (ty := .array (.object "FinderHouse$Term")) (C := RX0) (T := TX0) (N := 16) hx hb ht uX0 tyX0 tkX0 nmX0 hown hK hP hD hS 0 rfl rfl 4 (by decide) (ht _ k_1_155) (fun _ h9 => h9) rfl hin rfl (by decide +kernel) rfl rfl (Nat.le_of_ble_eq_true rfl) dX0_init_43 (fun H locs hP hD hS => ?_)
  have hP : va_P (dC, dI) cls [(q, .inr (0, [.ref q_1, .ref q_3, .ref q_5, .ref q_7, .ref q_9, .int 0, .null, .null, .null, .null, .null, .null, .null, .int 0, .int 0, .int 0])), (q_1, .inl (c_2, 36, .inr (.inl (fun _ => 0)))), (q_3, .inl (c_4, 144, .inl (fun _ => 0))), (q_5, .inl (c_6, 36, .inl (fun _ => 0))), (q_7, .inl (c_8, 36, .inl (fun _ => 0))), (q_9, .inl (c_10, 10, .inr (.inr (.inr (.inr (fun _ => none))))))] H := hP
  have hD : va_D A [(q, .inr (0, [.ref q_1, .ref q_3, .ref q_5, .ref q_7, .ref q_9, .int 0, .null, .null, .null, .null, .null, .null, .null, .int 0, .int 0, .int 0])), (q_1, .inl (c_2, 36, .inr (.inl (fun _ => 0)))), (q_3, .inl (c_4, 144, .inl (fun _ => 0))), (q_5, .inl (c_6, 36, .inl (fun _ => 0))), (q_7, .inl (c_8, 36, .inl (fun _ => 0))), (q_9, .inl (c_10, 10, .inr (.inr (.inr (.inr (fun _ => none))))))] := hD
  refine lv_aload_n hx hb dX0_init_46 rfl (lv_at hl 0 rfl) ?_
  refine lv_bipush (v := 10) hx hb dX0_init_47 (by decide) ?_
  refine va_newa (atype := .boolean) (ty := .boolean) (N' := 10) (a0 := (10, .inl (fun _ => 0))) hx hb (ht _ k_1_140) rfl hK hP hD hS hA (fun _ => rfl) (by decide) (by decide) (Nat.le_of_ble_eq_true rfl) (Nat.le_of_ble_eq_true rfl) (Nat.le_of_ble_eq_true rfl) dX0_init_49 (fun q_11 c_12 H hK hP hD hS => ?_)
  have hK : va_K (dC, dI) cls [(c_2, .long), (c_4, .int), (c_6, .int), (c_8, .int), (c_10, .object "FinderHouse$Term"), (c_12, .boolean)] s := hK
  have hP : va_P (dC, dI) cls [(q, .inr (0, [.ref q_1, .ref q_3, .ref q_5, .ref q_7, .ref q_9, .int 0, .null, .null, .null, .null, .null, .null, .null, .int 0, .int 0, .int 0])), (q_1, .inl (c_2, 36, .inr (.inl (fun _ => 0)))), (q_3, .inl (c_4, 144, .inl (fun _ => 0))), (q_5, .inl (c_6, 36, .inl (fun _ => 0))), (q_7, .inl (c_8, 36, .inl (fun _ => 0))), (q_9, .inl (c_10, 10, .inr (.inr (.inr (.inr (fun _ => none)))))), (q_11, .inl (c_12, 10, .inl (fun _ => 0)))] H := hP
  have hD : va_D A [(q, .inr (0, [.ref q_1, .ref q_3, .ref q_5, .ref q_7, .ref q_9, .int 0, .null, .null, .null, .null, .null, .null, .null, .int 0, .int 0, .int 0])), (q_1, .inl (c_2, 36, .inr (.inl (fun _ => 0)))), (q_3, .inl (c_4, 144, .inl (fun _ => 0))), (q_5, .inl (c_6, 36, .inl (fun _ => 0))), (q_7, .inl (c_8, 36, .inl (fun _ => 0))), (q_9, .inl (c_10, 10, .inr (.inr (.inr (.inr (fun _ => none)))))), (q_11, .inl (c_12, 10, .inl (fun _ => 0)))] := hD
  refine W.widen (k := 6) (n := 272) (by omega) (by omega) ?_
  refine va_putF (D := (dC, dI)) (ci := 0) (v := .ref q_11) (ty := .array .boolean) (C := RX0) (T := TX0) (N := 16) hx hb ht uX0 tyX0 tkX0 nmX0 hown hK hP hD hS 0 rfl rfl 6 (by decide) (ht _ k_1_161) (fun _ h9 => h9) rfl hin rfl (by decide +kernel) rfl rfl (Nat.le_of_ble_eq_true rfl) dX0_init_51 (fun H locs hP hD hS => ?_)
  have hP : va_P (dC, dI) cls [(q, .inr (0, [.ref q_1, .ref q_3, .ref q_5, .ref q_7, .ref q_9, .int 0, .ref q_11, .null, .null, .null, .null, .null, .null, .int 0, .int 0, .int 0])), (q_1, .inl (c_2, 36, .inr (.inl (fun _ => 0)))), (q_3, .inl (c_4, 144, .inl (fun _ => 0))), (q_5, .inl (c_6, 36, .inl (fun _ => 0))), (q_7, .inl (c_8, 36, .inl (fun _ => 0))), (q_9, .inl (c_10, 10, .inr (.inr (.inr (.inr (fun _ => none)))))), (q_11, .inl (c_12, 10, .inl (fun _ => 0)))] H := hP
  have hD : va_D A [(q, .inr (0, [.ref q_1, .ref q_3, .ref q_5, .ref q_7, .ref q_9, .int 0, .ref q_11, .null, .null, .null, .null, .null, .null, .int 0, .int 0, .int 0])), (q_1, .inl (c_2, 36, .inr (.inl (fun _ => 0)))), (q_3, .inl (c_4, 144, .inl (fun _ => 0))), (q_5, .inl (c_6, 36, .inl (fun _ => 0))), (q_7, .inl (c_8, 36, .inl (fun _ => 0))), (q_9, .inl (c_10, 10, .inr (.inr (.inr (.inr (fun _ => none)))))), (q_11, .inl (c_12, 10, .inl (fun _ => 0)))] := hD
  have hP := hP.sub (ws' := [(q, .inr (0, [.ref q_1, .ref q_3, .ref q_5, .ref q_7, .ref q_9, .int 0, .ref q_11, .null, .null, .null, .null, .null, .null, .int 0, .int 0, .int 0])), (q_1, .inl (c_2, 36, .inr (.inl (fun _ => 0)))), (q_3, .inl (c_4, 144, .inl (fun _ => 0))), (q_5, .inl (c_6, 36, .inl (fun _ => 0))), (q_7, .inl (c_8, 36, .inl (fun _ => 0))), (q_9, .inl (c_10, 10, .inr (.inr (.inr (.inr (fun _ => none))))))]) [0, 1, 2, 3, 4, 5] rfl
  have hD := hD.sub (ws' := [(q, .inr (0, [.ref q_1, .ref q_3, .ref q_5, .ref q_7, .ref q_9, .int 0, .ref q_11, .null, .null, .null, .null, .null, .null, .int 0, .int 0, .int 0])), (q_1, .inl (c_2, 36, .inr (.inl (fun _ => 0)))), (q_3, .inl (c_4, 144, .inl (fun _ => 0))), (q_5, .inl (c_6, 36, .inl (fun _ => 0))), (q_7, .inl (c_8, 36, .inl (fun _ => 0))), (q_9, .inl (c_10, 10, .inr (.inr (.inr (.inr (fun _ => none))))))]) [0, 1, 2, 3, 4, 5] (by decide) rfl
  refine lv_aload_n hx hb dX0_init_54 rfl (lv_at hl 0 rfl) ?_
  refine lv_sipush (v := 2560) hx hb dX0_init_55 (by decide) ?_
  refine va_newa (atype := .int) (ty := .int) (N' := 2560) (a0 := (2560, .inl (fun _ => 0))) hx hb (ht _ k_1_139) rfl hK hP hD hS hA (fun _ => rfl) (by decide) (by decide) (Nat.le_of_ble_eq_true rfl) (Nat.le_of_ble_eq_true rfl) (Nat.le_of_ble_eq_true rfl) dX0_init_58 (fun q_13 c_14 H hK hP hD hS => ?_)
  have hK : va_K (dC, dI) cls [(c_2, .long), (c_4, .int), (c_6, .int), (c_8, .int), (c_10, .object "FinderHouse$Term"), (c_12, .boolean), (c_14, .int)] s := hK
  have hP : va_P (dC, dI) cls [(q, .inr (0, [.ref q_1, .ref q_3, .ref q_5, .ref q_7, .ref q_9, .int 0, .ref q_11, .null, .null, .null, .null, .null, .null, .int 0, .int 0, .int 0])), (q_1, .inl (c_2, 36, .inr (.inl (fun _ => 0)))), (q_3, .inl (c_4, 144, .inl (fun _ => 0))), (q_5, .inl (c_6, 36, .inl (fun _ => 0))), (q_7, .inl (c_8, 36, .inl (fun _ => 0))), (q_9, .inl (c_10, 10, .inr (.inr (.inr (.inr (fun _ => none)))))), (q_13, .inl (c_14, 2560, .inl (fun _ => 0)))] H := hP
  have hD : va_D A [(q, .inr (0, [.ref q_1, .ref q_3, .ref q_5, .ref q_7, .ref q_9, .int 0, .ref q_11, .null, .null, .null, .null, .null, .null, .int 0, .int 0, .int 0])), (q_1, .inl (c_2, 36, .inr (.inl (fun _ => 0)))), (q_3, .inl (c_4, 144, .inl (fun _ => 0))), (q_5, .inl (c_6, 36, .inl (fun _ => 0))), (q_7, .inl (c_8, 36, .inl (fun _ => 0))), (q_9, .inl (c_10, 10, .inr (.inr (.inr (.inr (fun _ => none)))))), (q_13, .inl (c_14, 2560, .inl (fun _ => 0)))] := hD
  refine W.widen (k := 7) (n := 2832) (by omega) (by omega) ?_
  refine va_putF (D := (dC, dI)) (ci := 0) (v := .ref q_13) (ty := .array .int) (C := RX0) (T := TX0) (N := 16) hx hb ht uX0 tyX0 tkX0 nmX0 hown hK hP hD hS 0 rfl rfl 7 (by decide) (ht _ k_1_162) (fun _ h9 => h9) rfl hin rfl (by decide +kernel) rfl rfl (Nat.le_of_ble_eq_true rfl) dX0_init_60 (fun H locs hP hD hS => ?_)
  have hP : va_P (dC, dI) cls [(q, .inr (0, [.ref q_1, .ref q_3, .ref q_5, .ref q_7, .ref q_9, .int 0, .ref q_11, .ref q_13, .null, .null, .null, .null, .null, .int 0, .int 0, .int 0])), (q_1, .inl (c_2, 36, .inr (.inl (fun _ => 0)))), (q_3, .inl (c_4, 144, .inl (fun _ => 0))), (q_5, .inl (c_6, 36, .inl (fun _ => 0))), (q_7, .inl (c_8, 36, .inl (fun _ => 0))), (q_9, .inl (c_10, 10, .inr (.inr (.inr (.inr (fun _ => none)))))), (q_13, .inl (c_14, 2560, .inl (fun _ => 0)))] H := hP
  have hD : va_D A [(q, .inr (0, [.ref q_1, .ref q_3, .ref q_5, .ref q_7, .ref q_9, .int 0, .ref q_11, .ref q_13, .null, .null, .null, .null, .null, .int 0, .int 0, .int 0])), (q_1, .inl (c_2, 36, .inr (.inl (fun _ => 0)))), (q_3, .inl (c_4, 144, .inl (fun _ => 0))), (q_5, .inl (c_6, 36, .inl (fun _ => 0))), (q_7, .inl (c_8, 36, .inl (fun _ => 0))), (q_9, .inl (c_10, 10, .inr (.inr (.inr (.inr (fun _ => none)))))), (q_13, .inl (c_14, 2560, .inl (fun _ => 0)))] := hD
  have hP := hP.sub (ws' := [(q, .inr (0, [.ref q_1, .ref q_3, .ref q_5, .ref q_7, .ref q_9, .int 0, .ref q_11, .ref q_13, .null, .null, .null, .null, .null, .int 0, .int 0, .int 0])), (q_1, .inl (c_2, 36, .inr (.inl (fun _ => 0)))), (q_3, .inl (c_4, 144, .inl (fun _ => 0))), (q_5, .inl (c_6, 36, .inl (fun _ => 0))), (q_7, .inl (c_8, 36, .inl (fun _ => 0))), (q_9, .inl (c_10, 10, .inr (.inr (.inr (.inr (fun _ => none))))))]) [0, 1, 2, 3, 4, 5] rfl
  have hD := hD.sub (ws' := [(q, .inr (0, [.ref q_1, .ref q_3, .ref q_5, .ref q_7, .ref q_9, .int 0, .ref q_11, .ref q_13, .null, .null, .null, .null, .null, .int 0, .int 0, .int 0])), (q_1, .inl (c_2, 36, .inr (.inl (fun _ => 0)))), (q_3, .inl (c_4, 144, .inl (fun _ => 0))), (q_5, .inl (c_6, 36, .inl (fun _ => 0))), (q_7, .inl (c_8, 36, .inl (fun _ => 0))), (q_9, .inl (c_10, 10, .inr (.inr (.inr (.inr (fun _ => none))))))]) [0, 1, 2, 3, 4, 5] (by decide) rfl
  refine lv_aload_n hx hb dX0_init_63 rfl (lv_at hl 0 rfl) ?_
  refine lv_sipush (v := 2560) hx hb dX0_init_64 (by decide) ?_
  refine va_newa (atype := .int) (ty := .int) (N' := 2560) (a0 := (2560, .inl (fun _ => 0))) hx hb (ht _ k_1_139) rfl hK hP hD hS hA (fun _ => rfl) (by decide) (by decide) (Nat.le_of_ble_eq_true rfl) (Nat.le_of_ble_eq_true rfl) (Nat.le_of_ble_eq_true rfl) dX0_init_67 (fun q_15 c_16 H hK hP hD hS => ?_)
  have hK : va_K (dC, dI) cls [(c_2, .long), (c_4, .int), (c_6, .int), (c_8, .int), (c_10, .object "FinderHouse$Term"), (c_12, .boolean), (c_14, .int), (c_16, .int)] s := hK
  have hP : va_P (dC, dI) cls [(q, .inr (0, [.ref q_1, .ref q_3, .ref q_5, .ref q_7, .ref q_9, .int 0, .ref q_11, .ref q_13, .null, .null, .null, .null, .null, .int 0, .int 0, .int 0])), (q_1, .inl (c_2, 36, .inr (.inl (fun _ => 0)))), (q_3, .inl (c_4, 144, .inl (fun _ => 0))), (q_5, .inl (c_6, 36, .inl (fun _ => 0))), (q_7, .inl (c_8, 36, .inl (fun _ => 0))), (q_9, .inl (c_10, 10, .inr (.inr (.inr (.inr (fun _ => none)))))), (q_15, .inl (c_16, 2560, .inl (fun _ => 0)))] H := hP
  have hD : va_D A [(q, .inr (0, [.ref q_1, .ref q_3, .ref q_5, .ref q_7, .ref q_9, .int 0, .ref q_11, .ref q_13, .null, .null, .null, .null, .null, .int 0, .int 0, .int 0])), (q_1, .inl (c_2, 36, .inr (.inl (fun _ => 0)))), (q_3, .inl (c_4, 144, .inl (fun _ => 0))), (q_5, .inl (c_6, 36, .inl (fun _ => 0))), (q_7, .inl (c_8, 36, .inl (fun _ => 0))), (q_9, .inl (c_10, 10, .inr (.inr (.inr (.inr (fun _ => none)))))), (q_15, .inl (c_16, 2560, .inl (fun _ => 0)))] := hD
  refine W.widen (k := 8) (n := 5392) (by omega) (by omega) ?_
  refine va_putF (D := (dC, dI)) (ci := 0) (v := .ref q_15) (ty := .array .int) (C := RX0) (T := TX0) (N := 16) hx hb ht uX0 tyX0 tkX0 nmX0 hown hK hP hD hS 0 rfl rfl 8 (by decide) (ht _ k_1_163) (fun _ h9 => h9) rfl hin rfl (by decide +kernel) rfl rfl (Nat.le_of_ble_eq_true rfl) dX0_init_69 (fun H locs hP hD hS => ?_)
  have hP : va_P (dC, dI) cls [(q, .inr (0, [.ref q_1, .ref q_3, .ref q_5, .ref q_7, .ref q_9, .int 0, .ref q_11, .ref q_13, .ref q_15, .null, .null, .null, .null, .int 0, .int 0, .int 0])), (q_1, .inl (c_2, 36, .inr (.inl (fun _ => 0)))), (q_3, .inl (c_4, 144, .inl (fun _ => 0))), (q_5, .inl (c_6, 36, .inl (fun _ => 0))), (q_7, .inl (c_8, 36, .inl (fun _ => 0))), (q_9, .inl (c_10, 10, .inr (.inr (.inr (.inr (fun _ => none)))))), (q_15, .inl (c_16, 2560, .inl (fun _ => 0)))] H := hP
  have hD : va_D A [(q, .inr (0, [.ref q_1, .ref q_3, .ref q_5, .ref q_7, .ref q_9, .int 0, .ref q_11, .ref q_13, .ref q_15, .null, .null, .null, .null, .int 0, .int 0, .int 0])), (q_1, .inl (c_2, 36, .inr (.inl (fun _ => 0)))), (q_3, .inl (c_4, 144, .inl (fun _ => 0))), (q_5, .inl (c_6, 36, .inl (fun _ => 0))), (q_7, .inl (c_8, 36, .inl (fun _ => 0))), (q_9, .inl (c_10, 10, .inr (.inr (.inr (.inr (fun _ => none)))))), (q_15, .inl (c_16, 2560, .inl (fun _ => 0)))] := hD
  have hP := hP.sub (ws' := [(q, .inr (0, [.ref q_1, .ref q_3, .ref q_5, .ref q_7, .ref q_9, .int 0, .ref q_11, .ref q_13, .ref q_15, .null, .null, .null, .null, .int 0, .int 0, .int 0])), (q_1, .inl (c_2, 36, .inr (.inl (fun _ => 0)))), (q_3, .inl (c_4, 144, .inl (fun _ => 0))), (q_5, .inl (c_6, 36, .inl (fun _ => 0))), (q_7, .inl (c_8, 36, .inl (fun _ => 0))), (q_9, .inl (c_10, 10, .inr (.inr (.inr (.inr (fun _ => none))))))]) [0, 1, 2, 3, 4, 5] rfl
  have hD := hD.sub (ws' := [(q, .inr (0, [.ref q_1, .ref q_3, .ref q_5, .ref q_7, .ref q_9, .int 0, .ref q_11, .ref q_13, .ref q_15, .null, .null, .null, .null, .int 0, .int 0, .int 0])), (q_1, .inl (c_2, 36, .inr (.inl (fun _ => 0)))), (q_3, .inl (c_4, 144, .inl (fun _ => 0))), (q_5, .inl (c_6, 36, .inl (fun _ => 0))), (q_7, .inl (c_8, 36, .inl (fun _ => 0))), (q_9, .inl (c_10, 10, .inr (.inr (.inr (.inr (fun _ => none))))))]) [0, 1, 2, 3, 4, 5] (by decide) rfl
  refine lv_aload_n hx hb dX0_init_72 rfl (lv_at hl 0 rfl) ?_
  refine lv_sipush (v := 1452) hx hb dX0_init_73 (by decide) ?_
  refine va_newa (atype := .int) (ty := .int) (N' := 1452) (a0 := (1452, .inl (fun _ => 0))) hx hb (ht _ k_1_139) rfl hK hP hD hS hA (fun _ => rfl) (by decide) (by decide) (Nat.le_of_ble_eq_true rfl) (Nat.le_of_ble_eq_true rfl) (Nat.le_of_ble_eq_true rfl) dX0_init_76 (fun q_17 c_18 H hK hP hD hS => ?_)
  have hK : va_K (dC, dI) cls [(c_2, .long), (c_4, .int), (c_6, .int), (c_8, .int), (c_10, .object "FinderHouse$Term"), (c_12, .boolean), (c_14, .int), (c_16, .int), (c_18, .int)] s := hK
  have hP : va_P (dC, dI) cls [(q, .inr (0, [.ref q_1, .ref q_3, .ref q_5, .ref q_7, .ref q_9, .int 0, .ref q_11, .ref q_13, .ref q_15, .null, .null, .null, .null, .int 0, .int 0, .int 0])), (q_1, .inl (c_2, 36, .inr (.inl (fun _ => 0)))), (q_3, .inl (c_4, 144, .inl (fun _ => 0))), (q_5, .inl (c_6, 36, .inl (fun _ => 0))), (q_7, .inl (c_8, 36, .inl (fun _ => 0))), (q_9, .inl (c_10, 10, .inr (.inr (.inr (.inr (fun _ => none)))))), (q_17, .inl (c_18, 1452, .inl (fun _ => 0)))] H := hP
  have hD : va_D A [(q, .inr (0, [.ref q_1, .ref q_3, .ref q_5, .ref q_7, .ref q_9, .int 0, .ref q_11, .ref q_13, .ref q_15, .null, .null, .null, .null, .int 0, .int 0, .int 0])), (q_1, .inl (c_2, 36, .inr (.inl (fun _ => 0)))), (q_3, .inl (c_4, 144, .inl (fun _ => 0))), (q_5, .inl (c_6, 36, .inl (fun _ => 0))), (q_7, .inl (c_8, 36, .inl (fun _ => 0))), (q_9, .inl (c_10, 10, .inr (.inr (.inr (.inr (fun _ => none)))))), (q_17, .inl (c_18, 1452, .inl (fun _ => 0)))] := hD
  refine W.widen (k := 9) (n := 6844) (by omega) (by omega) ?_
  refine va_putF (D := (dC, dI)) (ci := 0) (v := .ref q_17) (ty := .array .int) (C := RX0) (T := TX0) (N := 16) hx hb ht uX0 tyX0 tkX0 nmX0 hown hK hP hD hS 0 rfl rfl 9 (by decide) (ht _ k_1_164) (fun _ h9 => h9) rfl hin rfl (by decide +kernel) rfl rfl (Nat.le_of_ble_eq_true rfl) dX0_init_78 (fun H locs hP hD hS => ?_)
  have hP : va_P (dC, dI) cls [(q, .inr (0, [.ref q_1, .ref q_3, .ref q_5, .ref q_7, .ref q_9, .int 0, .ref q_11, .ref q_13, .ref q_15, .ref q_17, .null, .null, .null, .int 0, .int 0, .int 0])), (q_1, .inl (c_2, 36, .inr (.inl (fun _ => 0)))), (q_3, .inl (c_4, 144, .inl (fun _ => 0))), (q_5, .inl (c_6, 36, .inl (fun _ => 0))), (q_7, .inl (c_8, 36, .inl (fun _ => 0))), (q_9, .inl (c_10, 10, .inr (.inr (.inr (.inr (fun _ => none)))))), (q_17, .inl (c_18, 1452, .inl (fun _ => 0)))] H := hP
  have hD : va_D A [(q, .inr (0, [.ref q_1, .ref q_3, .ref q_5, .ref q_7, .ref q_9, .int 0, .ref q_11, .ref q_13, .ref q_15, .ref q_17, .null, .null, .null, .int 0, .int 0, .int 0])), (q_1, .inl (c_2, 36, .inr (.inl (fun _ => 0)))), (q_3, .inl (c_4, 144, .inl (fun _ => 0))), (q_5, .inl (c_6, 36, .inl (fun _ => 0))), (q_7, .inl (c_8, 36, .inl (fun _ => 0))), (q_9, .inl (c_10, 10, .inr (.inr (.inr (.inr (fun _ => none)))))), (q_17, .inl (c_18, 1452, .inl (fun _ => 0)))] := hD
  have hP := hP.sub (ws' := [(q, .inr (0, [.ref q_1, .ref q_3, .ref q_5, .ref q_7, .ref q_9, .int 0, .ref q_11, .ref q_13, .ref q_15, .ref q_17, .null, .null, .null, .int 0, .int 0, .int 0])), (q_1, .inl (c_2, 36, .inr (.inl (fun _ => 0)))), (q_3, .inl (c_4, 144, .inl (fun _ => 0))), (q_5, .inl (c_6, 36, .inl (fun _ => 0))), (q_7, .inl (c_8, 36, .inl (fun _ => 0))), (q_9, .inl (c_10, 10, .inr (.inr (.inr (.inr (fun _ => none))))))]) [0, 1, 2, 3, 4, 5] rfl
  have hD := hD.sub (ws' := [(q, .inr (0, [.ref q_1, .ref q_3, .ref q_5, .ref q_7, .ref q_9, .int 0, .ref q_11, .ref q_13, .ref q_15, .ref q_17, .null, .null, .null, .int 0, .int 0, .int 0])), (q_1, .inl (c_2, 36, .inr (.inl (fun _ => 0)))), (q_3, .inl (c_4, 144, .inl (fun _ => 0))), (q_5, .inl (c_6, 36, .inl (fun _ => 0))), (q_7, .inl (c_8, 36, .inl (fun _ => 0))), (q_9, .inl (c_10, 10, .inr (.inr (.inr (.inr (fun _ => none))))))]) [0, 1, 2, 3, 4, 5] (by decide) rfl
  refine lv_aload_n hx hb dX0_init_81 rfl (lv_at hl 0 rfl) ?_
  refine lv_sipush (v := 1452) hx hb dX0_init_82 (by decide) ?_
  refine va_newa (atype := .int) (ty := .int) (N' := 1452) (a0 := (1452, .inl (fun _ => 0))) hx hb (ht _ k_1_139) rfl hK hP hD hS hA (fun _ => rfl) (by decide) (by decide) (Nat.le_of_ble_eq_true rfl) (Nat.le_of_ble_eq_true rfl) (Nat.le_of_ble_eq_true rfl) dX0_init_85 (fun q_19 c_20 H hK hP hD hS => ?_)
  have hK : va_K (dC, dI) cls [(c_2, .long), (c_4, .int), (c_6, .int), (c_8, .int), (c_10, .object "FinderHouse$Term"), (c_12, .boolean), (c_14, .int), (c_16, .int), (c_18, .int), (c_20, .int)] s := hK
  have hP : va_P (dC, dI) cls [(q, .inr (0, [.ref q_1, .ref q_3, .ref q_5, .ref q_7, .ref q_9, .int 0, .ref q_11, .ref q_13, .ref q_15, .ref q_17, .null, .null, .null, .int 0, .int 0, .int 0])), (q_1, .inl (c_2, 36, .inr (.inl (fun _ => 0)))), (q_3, .inl (c_4, 144, .inl (fun _ => 0))), (q_5, .inl (c_6, 36, .inl (fun _ => 0))), (q_7, .inl (c_8, 36, .inl (fun _ => 0))), (q_9, .inl (c_10, 10, .inr (.inr (.inr (.inr (fun _ => none)))))), (q_19, .inl (c_20, 1452, .inl (fun _ => 0)))] H := hP
  have hD : va_D A [(q, .inr (0, [.ref q_1, .ref q_3, .ref q_5, .ref q_7, .ref q_9, .int 0, .ref q_11, .ref q_13, .ref q_15, .ref q_17, .null, .null, .null, .int 0, .int 0, .int 0])), (q_1, .inl (c_2, 36, .inr (.inl (fun _ => 0)))), (q_3, .inl (c_4, 144, .inl (fun _ => 0))), (q_5, .inl (c_6, 36, .inl (fun _ => 0))), (q_7, .inl (c_8, 36, .inl (fun _ => 0))), (q_9, .inl (c_10, 10, .inr (.inr (.inr (.inr (fun _ => none)))))), (q_19, .inl (c_20, 1452, .inl (fun _ => 0)))] := hD
  refine W.widen (k := 10) (n := 8296) (by omega) (by omega) ?_
  refine va_putF (D := (dC, dI)) (ci := 0) (v := .ref q_19) (ty := .array .int) (C := RX0) (T := TX0) (N := 16) hx hb ht uX0 tyX0 tkX0 nmX0 hown hK hP hD hS 0 rfl rfl 10 (by decide) (ht _ k_1_165) (fun _ h9 => h9) rfl hin rfl (by decide +kernel) rfl rfl (Nat.le_of_ble_eq_true rfl) dX0_init_87 (fun H locs hP hD hS => ?_)
  have hP : va_P (dC, dI) cls [(q, .inr (0, [.ref q_1, .ref q_3, .ref q_5, .ref q_7, .ref q_9, .int 0, .ref q_11, .ref q_13, .ref q_15, .ref q_17, .ref q_19, .null, .null, .int 0, .int 0, .int 0])), (q_1, .inl (c_2, 36, .inr (.inl (fun _ => 0)))), (q_3, .inl (c_4, 144, .inl (fun _ => 0))), (q_5, .inl (c_6, 36, .inl (fun _ => 0))), (q_7, .inl (c_8, 36, .inl (fun _ => 0))), (q_9, .inl (c_10, 10, .inr (.inr (.inr (.inr (fun _ => none)))))), (q_19, .inl (c_20, 1452, .inl (fun _ => 0)))] H := hP
  have hD : va_D A [(q, .inr (0, [.ref q_1, .ref q_3, .ref q_5, .ref q_7, .ref q_9, .int 0, .ref q_11, .ref q_13, .ref q_15, .ref q_17, .ref q_19, .null, .null, .int 0, .int 0, .int 0])), (q_1, .inl (c_2, 36, .inr (.inl (fun _ => 0)))), (q_3, .inl (c_4, 144, .inl (fun _ => 0))), (q_5, .inl (c_6, 36, .inl (fun _ => 0))), (q_7, .inl (c_8, 36, .inl (fun _ => 0))), (q_9, .inl (c_10, 10, .inr (.inr (.inr (.inr (fun _ => none)))))), (q_19, .inl (c_20, 1452, .inl (fun _ => 0)))] := hD
  have hP := hP.sub (ws' := [(q, .inr (0, [.ref q_1, .ref q_3, .ref q_5, .ref q_7, .ref q_9, .int 0, .ref q_11, .ref q_13, .ref q_15, .ref q_17, .ref q_19, .null, .null, .int 0, .int 0, .int 0])), (q_1, .inl (c_2, 36, .inr (.inl (fun _ => 0)))), (q_3, .inl (c_4, 144, .inl (fun _ => 0))), (q_5, .inl (c_6, 36, .inl (fun _ => 0))), (q_7, .inl (c_8, 36, .inl (fun _ => 0))), (q_9, .inl (c_10, 10, .inr (.inr (.inr (.inr (fun _ => none))))))]) [0, 1, 2, 3, 4, 5] rfl
  have hD := hD.sub (ws' := [(q, .inr (0, [.ref q_1, .ref q_3, .ref q_5, .ref q_7, .ref q_9, .int 0, .ref q_11, .ref q_13, .ref q_15, .ref q_17, .ref q_19, .null, .null, .int 0, .int 0, .int 0])), (q_1, .inl (c_2, 36, .inr (.inl (fun _ => 0)))), (q_3, .inl (c_4, 144, .inl (fun _ => 0))), (q_5, .inl (c_6, 36, .inl (fun _ => 0))), (q_7, .inl (c_8, 36, .inl (fun _ => 0))), (q_9, .inl (c_10, 10, .inr (.inr (.inr (.inr (fun _ => none))))))]) [0, 1, 2, 3, 4, 5] (by decide) rfl
  refine lv_iconst (v := 0) hx hb dX0_init_90 (by decide) ?_
  refine lv_istore_n (lv' := [(1, .int 0), (0, .ref q)]) hx hb dX0_init_91 rfl hl (by decide) rfl (fun ls hl => ?_)
  refine lv_iconst (v := 0) hx hb dX0_init_92 (by decide) ?_
  refine lv_istore_n (lv' := [(2, .int 0), (1, .int 0), (0, .ref q)]) hx hb dX0_init_93 rfl hl (by decide) rfl (fun ls hl => ?_)
  refine lv_iconst (v := 0) hx hb dX0_init_94 (by decide) ?_
  refine lv_istore_n (lv' := [(3, .int 0), (2, .int 0), (1, .int 0), (0, .ref q)]) hx hb dX0_init_95 rfl hl (by decide) rfl (fun ls hl => ?_)
  refine lp_rule (fun H locs ls => W p l e _ s m _ below meth c H locs _ _ _ (F0 m 96 ls [])) (fun (z : Nat × Nat × (Nat → Int64) × (Nat → Int32) × (Nat → Int32) × (Nat → Int32)) H locs ls => match z with | (k, na, fn, fk, fa, fw) => va_P (dC, dI) cls [(q, .inr (0, [.ref q_1, .ref q_3, .ref q_5, .ref q_7, .ref q_9, .int 0, .ref q_11, .ref q_13, .ref q_15, .ref q_17, .ref q_19, .null, .null, .int 0, .int 0, .int 0])), (q_1, .inl (c_2, 36, .inr (.inl fn))), (q_3, .inl (c_4, 144, .inl fk)), (q_5, .inl (c_6, 36, .inl fa)), (q_7, .inl (c_8, 36, .inl fw)), (q_9, .inl (c_10, 10, .inr (.inr (.inr (.inr (fun _ => none))))))] H ∧ va_D A [(q, .inr (0, [.ref q_1, .ref q_3, .ref q_5, .ref q_7, .ref q_9, .int 0, .ref q_11, .ref q_13, .ref q_15, .ref q_17, .ref q_19, .null, .null, .int 0, .int 0, .int 0])), (q_1, .inl (c_2, 36, .inr (.inl fn))), (q_3, .inl (c_4, 144, .inl fk)), (q_5, .inl (c_6, 36, .inl fa)), (q_7, .inl (c_8, 36, .inl fw)), (q_9, .inl (c_10, 10, .inr (.inr (.inr (.inr (fun _ => none))))))] ∧ va_S A s.heap H locs ∧ lv_has ls 4 [(3, .int (nI k)), (2, .int (nI (kp k))), (1, .int (nI na)), (0, .ref q)] ∧ True ∧ k ≤ 26 ∧ na ≤ 112 + k ∧ ∀ j, k ≤ j → fa j = 0) (fun (z : Nat × Nat × (Nat → Int64) × (Nat → Int32) × (Nat → Int32) × (Nat → Int32)) => match z with | (k, na, fn, fk, fa, fw) => 26 - k) ?_ (0, 0, fun _ => 0, fun _ => 0, fun _ => 0, fun _ => 0) H locs ls ⟨hP, hD, hS, lv_sub hl [0, 1, 2, 3] rfl, trivial, (by decide), (by decide), (fun _ _ => rfl)⟩
  intro z H locs ls hI ih96
  obtain ⟨k, na, fn, fk, fa, fw⟩ := z
  obtain ⟨hP, hD, hS, hl, -, hk, hna, hfa⟩ := hI
  have hP : va_P (dC, dI) cls [(q, .inr (0, [.ref q_1, .ref q_3, .ref q_5, .ref q_7, .ref q_9, .int 0, .ref q_11, .ref q_13, .ref q_15, .ref q_17, .ref q_19, .null, .null, .int 0, .int 0, .int 0])), (q_1, .inl (c_2, 36, .inr (.inl fn))), (q_3, .inl (c_4, 144, .inl fk)), (q_5, .inl (c_6, 36, .inl fa)), (q_7, .inl (c_8, 36, .inl fw)), (q_9, .inl (c_10, 10, .inr (.inr (.inr (.inr (fun _ => none))))))] H := hP
  have hD : va_D A [(q, .inr (0, [.ref q_1, .ref q_3, .ref q_5, .ref q_7, .ref q_9, .int 0, .ref q_11, .ref q_13, .ref q_15, .ref q_17, .ref q_19, .null, .null, .int 0, .int 0, .int 0])), (q_1, .inl (c_2, 36, .inr (.inl fn))), (q_3, .inl (c_4, 144, .inl fk)), (q_5, .inl (c_6, 36, .inl fa)), (q_7, .inl (c_8, 36, .inl fw)), (q_9, .inl (c_10, 10, .inr (.inr (.inr (.inr (fun _ => none))))))] := hD
  have hl : lv_has ls 4 [(3, .int (nI k)), (2, .int (nI (kp k))), (1, .int (nI na)), (0, .ref q)] := hl
  refine lv_iload_n hx hb dX0_init_96 rfl (lv_at hl 0 rfl) ?_
  refine lv_bipush (v := 26) hx hb dX0_init_97 (by decide) ?_
  refine lv_icmp_ge (tgt := 298) hx hb dX0_init_99 (by decide) (fun b_21 => ?_) (fun b_21 => ?_)
  · refine lv_iconst (v := 0) hx hb dX0_init_298 (by decide) ?_
    refine lv_istore_n (lv' := [(3, .int 0), (2, .int (nI (kp k))), (1, .int (nI na)), (0, .ref q)]) hx hb dX0_init_299 rfl hl (by decide) rfl (fun ls hl => ?_)
    refine lv_iload_n hx hb dX0_init_300 rfl (lv_at hl 0 rfl) ?_
    refine lv_bipush (v := 10) hx hb dX0_init_301 (by decide) ?_
    refine lv_icmp_ge (tgt := 327) hx hb dX0_init_303 (by decide) (fun c0 => absurd c0 (by decide)) (fun _ => ?_)
    refine lv_aload_n hx hb dX0_init_306 rfl (lv_at hl 3 rfl) ?_
    refine va_get (D := (dC, dI)) (ci := 0) (v := .ref q_9) (C := RX0) (T := TX0) (N := 16) hx hb ht uX0 hown hK hP 0 rfl rfl 4 (by decide) (ht _ k_1_155) (fun _ h9 => h9) rfl dX0_init_307 ?_
    refine lv_iload_n hx hb dX0_init_310 rfl (lv_at hl 0 rfl) ?_
    refine va_new (ci := 9) (fs := [.null, .null, .null, .int 0]) (C := RX9) (T := TX9) (N := 4) hx hb ht uX9 tyX9 tkX9 hown (ht _ k_1_44) (ht _ k_1_101) (ht _ k_1_7) hK hP hD hS hA rfl (by decide +kernel) (Nat.le_of_ble_eq_true rfl) (Nat.le_of_ble_eq_true rfl) dX0_init_311 (fun q_22 H hP hD hS => ?_)
    have hP : va_P (dC, dI) cls [(q, .inr (0, [.ref q_1, .ref q_3, .ref q_5, .ref q_7, .ref q_9, .int 0, .ref q_11, .ref q_13, .ref q_15, .ref q_17, .ref q_19, .null, .null, .int 0, .int 0, .int 0])), (q_1, .inl (c_2, 36, .inr (.inl fn))), (q_3, .inl (c_4, 144, .inl fk)), (q_5, .inl (c_6, 36, .inl fa)), (q_7, .inl (c_8, 36, .inl fw)), (q_9, .inl (c_10, 10, .inr (.inr (.inr (.inr (fun _ => none)))))), (q_22, .inr (9, [.null, .null, .null, .int 0]))] H := hP
    have hD : va_D A [(q, .inr (0, [.ref q_1, .ref q_3, .ref q_5, .ref q_7, .ref q_9, .int 0, .ref q_11, .ref q_13, .ref q_15, .ref q_17, .ref q_19, .null, .null, .int 0, .int 0, .int 0])), (q_1, .inl (c_2, 36, .inr (.inl fn))), (q_3, .inl (c_4, 144, .inl fk)), (q_5, .inl (c_6, 36, .inl fa)), (q_7, .inl (c_8, 36, .inl fw)), (q_9, .inl (c_10, 10, .inr (.inr (.inr (.inr (fun _ => none)))))), (q_22, .inr (9, [.null, .null, .null, .int 0]))] := hD
    refine W.widen (k := 11) (n := 8300) (by omega) (by omega) ?_
    refine lv_dup hx hb dX0_init_314 rfl ?_
    refine lv_bipush (v := 121) hx hb dX0_init_315 (by decide) ?_
    refine ca_v (wr := [(q, .inr (0, [.ref q_1, .ref q_3, .ref q_5, .ref q_7, .ref q_9, .int 0, .ref q_11, .ref q_13, .ref q_15, .ref q_17, .ref q_19, .null, .null, .int 0, .int 0, .int 0])), (q_1, .inl (c_2, 36, .inr (.inl fn))), (q_3, .inl (c_4, 144, .inl fk)), (q_5, .inl (c_6, 36, .inl fa)), (q_7, .inl (c_8, 36, .inl fw)), (q_9, .inl (c_10, 10, .inr (.inr (.inr (.inr (fun _ => none))))))]) (va_runI (As := [.int 121]) (rest := [.ref q_22, .int 0, .ref q_9]) ⟨hx, hb, hml, hown, ht⟩ (k9_121 l dC dI H.size q_22  ) (cwI 1 ht (gdI k_1_104) rfl rfl rfl (ht _ k_1_7) (ht _ k_1_102) (ht _ k_1_103) rfl (by decide +kernel) ⟨Nat.le_of_ble_eq_true rfl, Nat.le_of_ble_eq_true rfl⟩) ⟨pcw_blind, pcw_at hP hD hK [6] [] (by decide) rfl rfl rfl⟩ rfl rfl hl.1 rfl (lv_room (Nat.le_of_ble_eq_true rfl)) dX0_init_317 ⟨Nat.le_of_ble_eq_true rfl, Nat.le_of_ble_eq_true rfl⟩) hP hD hK hS hA [6] [0, 1, 2, 3, 4, 5] rfl rfl (by decide) (by decide) (fun u H locs w_24 hK hP hD hS => ?_)
    obtain ⟨F_25, rfl⟩ : ∃ z, z = u := ⟨_, rfl⟩
    have hK : va_K (dC, dI) cls [(c_2, .long), (c_4, .int), (c_6, .int), (c_8, .int), (c_10, .object "FinderHouse$Term"), (c_12, .boolean), (c_14, .int), (c_16, .int), (c_18, .int), (c_20, .int)] s := hK
    have hP : va_P (dC, dI) cls [(q, .inr (0, [.ref q_1, .ref q_3, .ref q_5, .ref q_7, .ref q_9, .int 0, .ref q_11, .ref q_13, .ref q_15, .ref q_17, .ref q_19, .null, .null, .int 0, .int 0, .int 0])), (q_1, .inl (c_2, 36, .inr (.inl fn))), (q_3, .inl (c_4, 144, .inl fk)), (q_5, .inl (c_6, 36, .inl fa)), (q_7, .inl (c_8, 36, .inl fw)), (q_9, .inl (c_10, 10, .inr (.inr (.inr (.inr (fun _ => none)))))), (q_22, .inr (9, F_25))] H := hP
    have hD : va_D A [(q, .inr (0, [.ref q_1, .ref q_3, .ref q_5, .ref q_7, .ref q_9, .int 0, .ref q_11, .ref q_13, .ref q_15, .ref q_17, .ref q_19, .null, .null, .int 0, .int 0, .int 0])), (q_1, .inl (c_2, 36, .inr (.inl fn))), (q_3, .inl (c_4, 144, .inl fk)), (q_5, .inl (c_6, 36, .inl fa)), (q_7, .inl (c_8, 36, .inl fw)), (q_9, .inl (c_10, 10, .inr (.inr (.inr (.inr (fun _ => none)))))), (q_22, .inr (9, F_25))] := hD
    refine W.widen (k := 14) (n := 8663) (by omega) (by omega) ?_
    obtain ⟨w_24, K_26, K_27⟩ := w_24
    refine va_astq (r := (RX9, TX9, 4)) hx hb hK hP hD hS 5 4 6 9 rfl rfl rfl rfl (by unfold vp_in; decide) dX0_init_320 (fun H locs hP hD hS => ?_)
    obtain ⟨f_28, ef_28⟩ : ∃ g : Nat → Option Nat, g = va_up (fun _ => none) (0 : Int32).toNatClampNeg (some q_22) := ⟨_, rfl⟩
    rw [← ef_28] at hP hD
    have hP : va_P (dC, dI) cls [(q, .inr (0, [.ref q_1, .ref q_3, .ref q_5, .ref q_7, .ref q_9, .int 0, .ref q_11, .ref q_13, .ref q_15, .ref q_17, .ref q_19, .null, .null, .int 0, .int 0, .int 0])), (q_1, .inl (c_2, 36, .inr (.inl fn))), (q_3, .inl (c_4, 144, .inl fk)), (q_5, .inl (c_6, 36, .inl fa)), (q_7, .inl (c_8, 36, .inl fw)), (q_9, .inl (c_10, 10, .inr (.inr (.inr (.inr f_28))))), (q_22, .inr (9, F_25))] H := hP
    have hD : va_D A [(q, .inr (0, [.ref q_1, .ref q_3, .ref q_5, .ref q_7, .ref q_9, .int 0, .ref q_11, .ref q_13, .ref q_15, .ref q_17, .ref q_19, .null, .null, .int 0, .int 0, .int 0])), (q_1, .inl (c_2, 36, .inr (.inl fn))), (q_3, .inl (c_4, 144, .inl fk)), (q_5, .inl (c_6, 36, .inl fa)), (q_7, .inl (c_8, 36, .inl fw)), (q_9, .inl (c_10, 10, .inr (.inr (.inr (.inr f_28))))), (q_22, .inr (9, F_25))] := hD
    have hP := hP.sub (ws' := [(q, .inr (0, [.ref q_1, .ref q_3, .ref q_5, .ref q_7, .ref q_9, .int 0, .ref q_11, .ref q_13, .ref q_15, .ref q_17, .ref q_19, .null, .null, .int 0, .int 0, .int 0])), (q_1, .inl (c_2, 36, .inr (.inl fn))), (q_3, .inl (c_4, 144, .inl fk)), (q_5, .inl (c_6, 36, .inl fa)), (q_7, .inl (c_8, 36, .inl fw)), (q_9, .inl (c_10, 10, .inr (.inr (.inr (.inr f_28)))))]) [0, 1, 2, 3, 4, 5] rfl
    have hD := hD.sub (ws' := [(q, .inr (0, [.ref q_1, .ref q_3, .ref q_5, .ref q_7, .ref q_9, .int 0, .ref q_11, .ref q_13, .ref q_15, .ref q_17, .ref q_19, .null, .null, .int 0, .int 0, .int 0])), (q_1, .inl (c_2, 36, .inr (.inl fn))), (q_3, .inl (c_4, 144, .inl fk)), (q_5, .inl (c_6, 36, .inl fa)), (q_7, .inl (c_8, 36, .inl fw)), (q_9, .inl (c_10, 10, .inr (.inr (.inr (.inr f_28)))))]) [0, 1, 2, 3, 4, 5] (by decide) rfl
    refine lv_iinc (v := 1) (lv' := [(3, .int 1), (2, .int (nI (kp k))), (1, .int (nI na)), (0, .ref q)]) hx hb dX0_init_321 hl (k := 0) rfl (by decide) (by decide) rfl (fun ls hl => ?_)
    refine lv_goto (tgt := 300) hx hb dX0_init_324 (by decide) ?_
    refine lv_iload_n hx hb dX0_init_300 rfl (lv_at hl 0 rfl) ?_
    refine lv_bipush (v := 10) hx hb dX0_init_301 (by decide) ?_
    refine lv_icmp_ge (tgt := 327) hx hb dX0_init_303 (by decide) (fun c0 => absurd c0 (by decide)) (fun _ => ?_)
    refine lv_aload_n hx hb dX0_init_306 rfl (lv_at hl 3 rfl) ?_
    refine va_get (D := (dC, dI)) (ci := 0) (v := .ref q_9) (C := RX0) (T := TX0) (N := 16) hx hb ht uX0 hown hK hP 0 rfl rfl 4 (by decide) (ht _ k_1_155) (fun _ h9 => h9) rfl dX0_init_307 ?_
    refine lv_iload_n hx hb dX0_init_310 rfl (lv_at hl 0 rfl) ?_
    refine va_new (ci := 9) (fs := [.null, .null, .null, .int 0]) (C := RX9) (T := TX9) (N := 4) hx hb ht uX9 tyX9 tkX9 hown (ht _ k_1_44) (ht _ k_1_101) (ht _ k_1_7) hK hP hD hS hA rfl (by decide +kernel) (Nat.le_of_ble_eq_true rfl) (Nat.le_of_ble_eq_true rfl) dX0_init_311 (fun q_29 H hP hD hS => ?_)
    have hP : va_P (dC, dI) cls [(q, .inr (0, [.ref q_1, .ref q_3, .ref q_5, .ref q_7, .ref q_9, .int 0, .ref q_11, .ref q_13, .ref q_15, .ref q_17, .ref q_19, .null, .null, .int 0, .int 0, .int 0])), (q_1, .inl (c_2, 36, .inr (.inl fn))), (q_3, .inl (c_4, 144, .inl fk)), (q_5, .inl (c_6, 36, .inl fa)), (q_7, .inl (c_8, 36, .inl fw)), (q_9, .inl (c_10, 10, .inr (.inr (.inr (.inr f_28))))), (q_29, .inr (9, [.null, .null, .null, .int 0]))] H := hP
    have hD : va_D A [(q, .inr (0, [.ref q_1, .ref q_3, .ref q_5, .ref q_7, .ref q_9, .int 0, .ref q_11, .ref q_13, .ref q_15, .ref q_17, .ref q_19, .null, .null, .int 0, .int 0, .int 0])), (q_1, .inl (c_2, 36, .inr (.inl fn))), (q_3, .inl (c_4, 144, .inl fk)), (q_5, .inl (c_6, 36, .inl fa)), (q_7, .inl (c_8, 36, .inl fw)), (q_9, .inl (c_10, 10, .inr (.inr (.inr (.inr f_28))))), (q_29, .inr (9, [.null, .null, .null, .int 0]))] := hD
    refine W.widen (k := 15) (n := 8667) (by omega) (by omega) ?_
    refine lv_dup hx hb dX0_init_314 rfl ?_
    refine lv_bipush (v := 121) hx hb dX0_init_315 (by decide) ?_
    refine ca_v (wr := [(q, .inr (0, [.ref q_1, .ref q_3, .ref q_5, .ref q_7, .ref q_9, .int 0, .ref q_11, .ref q_13, .ref q_15, .ref q_17, .ref q_19, .null, .null, .int 0, .int 0, .int 0])), (q_1, .inl (c_2, 36, .inr (.inl fn))), (q_3, .inl (c_4, 144, .inl fk)), (q_5, .inl (c_6, 36, .inl fa)), (q_7, .inl (c_8, 36, .inl fw)), (q_9, .inl (c_10, 10, .inr (.inr (.inr (.inr f_28)))))]) (va_runI (As := [.int 121]) (rest := [.ref q_29, .int 1, .ref q_9]) ⟨hx, hb, hml, hown, ht⟩ (k9_121 l dC dI H.size q_29  ) (cwI 1 ht (gdI k_1_104) rfl rfl rfl (ht _ k_1_7) (ht _ k_1_102) (ht _ k_1_103) rfl (by decide +kernel) ⟨Nat.le_of_ble_eq_true rfl, Nat.le_of_ble_eq_true rfl⟩) ⟨pcw_blind, pcw_at hP hD hK [6] [] (by decide) rfl rfl rfl⟩ rfl rfl hl.1 rfl (lv_room (Nat.le_of_ble_eq_true rfl)) dX0_init_317 ⟨Nat.le_of_ble_eq_true rfl, Nat.le_of_ble_eq_true rfl⟩) hP hD hK hS hA [6] [0, 1, 2, 3, 4, 5] rfl rfl (by decide) (by decide) (fun u H locs w_31 hK hP hD hS => ?_)
    obtain ⟨F_32, rfl⟩ : ∃ z, z = u := ⟨_, rfl⟩
    have hK : va_K (dC, dI) cls [(c_2, .long), (c_4, .int), (c_6, .int), (c_8, .int), (c_10, .object "FinderHouse$Term"), (c_12, .boolean), (c_14, .int), (c_16, .int), (c_18, .int), (c_20, .int)] s := hK
    have hP : va_P (dC, dI) cls [(q, .inr (0, [.ref q_1, .ref q_3, .ref q_5, .ref q_7, .ref q_9, .int 0, .ref q_11, .ref q_13, .ref q_15, .ref q_17, .ref q_19, .null, .null, .int 0, .int 0, .int 0])), (q_1, .inl (c_2, 36, .inr (.inl fn))), (q_3, .inl (c_4, 144, .inl fk)), (q_5, .inl (c_6, 36, .inl fa)), (q_7, .inl (c_8, 36, .inl fw)), (q_9, .inl (c_10, 10, .inr (.inr (.inr (.inr f_28))))), (q_29, .inr (9, F_32))] H := hP
    have hD : va_D A [(q, .inr (0, [.ref q_1, .ref q_3, .ref q_5, .ref q_7, .ref q_9, .int 0, .ref q_11, .ref q_13, .ref q_15, .ref q_17, .ref q_19, .null, .null, .int 0, .int 0, .int 0])), (q_1, .inl (c_2, 36, .inr (.inl fn))), (q_3, .inl (c_4, 144, .inl fk)), (q_5, .inl (c_6, 36, .inl fa)), (q_7, .inl (c_8, 36, .inl fw)), (q_9, .inl (c_10, 10, .inr (.inr (.inr (.inr f_28))))), (q_29, .inr (9, F_32))] := hD
    refine W.widen (k := 18) (n := 9030) (by omega) (by omega) ?_
    obtain ⟨w_31, K_33, K_34⟩ := w_31
    refine va_astq (r := (RX9, TX9, 4)) hx hb hK hP hD hS 5 4 6 9 rfl rfl rfl rfl (by unfold vp_in; decide) dX0_init_320 (fun H locs hP hD hS => ?_)
    obtain ⟨f_35, ef_35⟩ : ∃ g : Nat → Option Nat, g = va_up f_28 (1 : Int32).toNatClampNeg (some q_29) := ⟨_, rfl⟩
    rw [← ef_35] at hP hD
    have hP : va_P (dC, dI) cls [(q, .inr (0, [.ref q_1, .ref q_3, .ref q_5, .ref q_7, .ref q_9, .int 0, .ref q_11, .ref q_13, .ref q_15, .ref q_17, .ref q_19, .null, .null, .int 0, .int 0, .int 0])), (q_1, .inl (c_2, 36, .inr (.inl fn))), (q_3, .inl (c_4, 144, .inl fk)), (q_5, .inl (c_6, 36, .inl fa)), (q_7, .inl (c_8, 36, .inl fw)), (q_9, .inl (c_10, 10, .inr (.inr (.inr (.inr f_35))))), (q_29, .inr (9, F_32))] H := hP
    have hD : va_D A [(q, .inr (0, [.ref q_1, .ref q_3, .ref q_5, .ref q_7, .ref q_9, .int 0, .ref q_11, .ref q_13, .ref q_15, .ref q_17, .ref q_19, .null, .null, .int 0, .int 0, .int 0])), (q_1, .inl (c_2, 36, .inr (.inl fn))), (q_3, .inl (c_4, 144, .inl fk)), (q_5, .inl (c_6, 36, .inl fa)), (q_7, .inl (c_8, 36, .inl fw)), (q_9, .inl (c_10, 10, .inr (.inr (.inr (.inr f_35))))), (q_29, .inr (9, F_32))] := hD
    have hP := hP.sub (ws' := [(q, .inr (0, [.ref q_1, .ref q_3, .ref q_5, .ref q_7, .ref q_9, .int 0, .ref q_11, .ref q_13, .ref q_15, .ref q_17, .ref q_19, .null, .null, .int 0, .int 0, .int 0])), (q_1, .inl (c_2, 36, .inr (.inl fn))), (q_3, .inl (c_4, 144, .inl fk)), (q_5, .inl (c_6, 36, .inl fa)), (q_7, .inl (c_8, 36, .inl fw)), (q_9, .inl (c_10, 10, .inr (.inr (.inr (.inr f_35)))))]) [0, 1, 2, 3, 4, 5] rfl
    have hD := hD.sub (ws' := [(q, .inr (0, [.ref q_1, .ref q_3, .ref q_5, .ref q_7, .ref q_9, .int 0, .ref q_11, .ref q_13, .ref q_15, .ref q_17, .ref q_19, .null, .null, .int 0, .int 0, .int 0])), (q_1, .inl (c_2, 36, .inr (.inl fn))), (q_3, .inl (c_4, 144, .inl fk)), (q_5, .inl (c_6, 36, .inl fa)), (q_7, .inl (c_8, 36, .inl fw)), (q_9, .inl (c_10, 10, .inr (.inr (.inr (.inr f_35)))))]) [0, 1, 2, 3, 4, 5] (by decide) rfl
    refine lv_iinc (v := 2) (lv' := [(3, .int 2), (2, .int (nI (kp k))), (1, .int (nI na)), (0, .ref q)]) hx hb dX0_init_321 hl (k := 0) rfl (by decide) (by decide) rfl (fun ls hl => ?_)
    refine lv_goto (tgt := 300) hx hb dX0_init_324 (by decide) ?_
    refine lv_iload_n hx hb dX0_init_300 rfl (lv_at hl 0 rfl) ?_
    refine lv_bipush (v := 10) hx hb dX0_init_301 (by decide) ?_
    refine lv_icmp_ge (tgt := 327) hx hb dX0_init_303 (by decide) (fun c0 => absurd c0 (by decide)) (fun _ => ?_)
    refine lv_aload_n hx hb dX0_init_306 rfl (lv_at hl 3 rfl) ?_
    refine va_get (D := (dC, dI)) (ci := 0) (v := .ref q_9) (C := RX0) (T := TX0) (N := 16) hx hb ht uX0 hown hK hP 0 rfl rfl 4 (by decide) (ht _ k_1_155) (fun _ h9 => h9) rfl dX0_init_307 ?_
    refine lv_iload_n hx hb dX0_init_310 rfl (lv_at hl 0 rfl) ?_
    refine va_new (ci := 9) (fs := [.null, .null, .null, .int 0]) (C := RX9) (T := TX9) (N := 4) hx hb ht uX9 tyX9 tkX9 hown (ht _ k_1_44) (ht _ k_1_101) (ht _ k_1_7) hK hP hD hS hA rfl (by decide +kernel) (Nat.le_of_ble_eq_true rfl) (Nat.le_of_ble_eq_true rfl) dX0_init_311 (fun q_36 H hP hD hS => ?_)
    have hP : va_P (dC, dI) cls [(q, .inr (0, [.ref q_1, .ref q_3, .ref q_5, .ref q_7, .ref q_9, .int 0, .ref q_11, .ref q_13, .ref q_15, .ref q_17, .ref q_19, .null, .null, .int 0, .int 0, .int 0])), (q_1, .inl (c_2, 36, .inr (.inl fn))), (q_3, .inl (c_4, 144, .inl fk)), (q_5, .inl (c_6, 36, .inl fa)), (q_7, .inl (c_8, 36, .inl fw)), (q_9, .inl (c_10, 10, .inr (.inr (.inr (.inr f_35))))), (q_36, .inr (9, [.null, .null, .null, .int 0]))] H := hP
    have hD : va_D A [(q, .inr (0, [.ref q_1, .ref q_3, .ref q_5, .ref q_7, .ref q_9, .int 0, .ref q_11, .ref q_13, .ref q_15, .ref q_17, .ref q_19, .null, .null, .int 0, .int 0, .int 0])), (q_1, .inl (c_2, 36, .inr (.inl fn))), (q_3, .inl (c_4, 144, .inl fk)), (q_5, .inl (c_6, 36, .inl fa)), (q_7, .inl (c_8, 36, .inl fw)), (q_9, .inl (c_10, 10, .inr (.inr (.inr (.inr f_35))))), (q_36, .inr (9, [.null, .null, .null, .int 0]))] := hD
    refine W.widen (k := 19) (n := 9034) (by omega) (by omega) ?_
    refine lv_dup hx hb dX0_init_314 rfl ?_
    refine lv_bipush (v := 121) hx hb dX0_init_315 (by decide) ?_
    refine ca_v (wr := [(q, .inr (0, [.ref q_1, .ref q_3, .ref q_5, .ref q_7, .ref q_9, .int 0, .ref q_11, .ref q_13, .ref q_15, .ref q_17, .ref q_19, .null, .null, .int 0, .int 0, .int 0])), (q_1, .inl (c_2, 36, .inr (.inl fn))), (q_3, .inl (c_4, 144, .inl fk)), (q_5, .inl (c_6, 36, .inl fa)), (q_7, .inl (c_8, 36, .inl fw)), (q_9, .inl (c_10, 10, .inr (.inr (.inr (.inr f_35)))))]) (va_runI (As := [.int 121]) (rest := [.ref q_36, .int 2, .ref q_9]) ⟨hx, hb, hml, hown, ht⟩ (k9_121 l dC dI H.size q_36  ) (cwI 1 ht (gdI k_1_104) rfl rfl rfl (ht _ k_1_7) (ht _ k_1_102) (ht _ k_1_103) rfl (by decide +kernel) ⟨Nat.le_of_ble_eq_true rfl, Nat.le_of_ble_eq_true rfl⟩) ⟨pcw_blind, pcw_at hP hD hK [6] [] (by decide) rfl rfl rfl⟩ rfl rfl hl.1 rfl (lv_room (Nat.le_of_ble_eq_true rfl)) dX0_init_317 ⟨Nat.le_of_ble_eq_true rfl, Nat.le_of_ble_eq_true rfl⟩) hP hD hK hS hA [6] [0, 1, 2, 3, 4, 5] rfl rfl (by decide) (by decide) (fun u H locs w_38 hK hP hD hS => ?_)
    obtain ⟨F_39, rfl⟩ : ∃ z, z = u := ⟨_, rfl⟩
    have hK : va_K (dC, dI) cls [(c_2, .long), (c_4, .int), (c_6, .int), (c_8, .int), (c_10, .object "FinderHouse$Term"), (c_12, .boolean), (c_14, .int), (c_16, .int), (c_18, .int), (c_20, .int)] s := hK
    have hP : va_P (dC, dI) cls [(q, .inr (0, [.ref q_1, .ref q_3, .ref q_5, .ref q_7, .ref q_9, .int 0, .ref q_11, .ref q_13, .ref q_15, .ref q_17, .ref q_19, .null, .null, .int 0, .int 0, .int 0])), (q_1, .inl (c_2, 36, .inr (.inl fn))), (q_3, .inl (c_4, 144, .inl fk)), (q_5, .inl (c_6, 36, .inl fa)), (q_7, .inl (c_8, 36, .inl fw)), (q_9, .inl (c_10, 10, .inr (.inr (.inr (.inr f_35))))), (q_36, .inr (9, F_39))] H := hP
    have hD : va_D A [(q, .inr (0, [.ref q_1, .ref q_3, .ref q_5, .ref q_7, .ref q_9, .int 0, .ref q_11, .ref q_13, .ref q_15, .ref q_17, .ref q_19, .null, .null, .int 0, .int 0, .int 0])), (q_1, .inl (c_2, 36, .inr (.inl fn))), (q_3, .inl (c_4, 144, .inl fk)), (q_5, .inl (c_6, 36, .inl fa)), (q_7, .inl (c_8, 36, .inl fw)), (q_9, .inl (c_10, 10, .inr (.inr (.inr (.inr f_35))))), (q_36, .inr (9, F_39))] := hD
    refine W.widen (k := 22) (n := 9397) (by omega) (by omega) ?_
    obtain ⟨w_38, K_40, K_41⟩ := w_38
    refine va_astq (r := (RX9, TX9, 4)) hx hb hK hP hD hS 5 4 6 9 rfl rfl rfl rfl (by unfold vp_in; decide) dX0_init_320 (fun H locs hP hD hS => ?_)
    obtain ⟨f_42, ef_42⟩ : ∃ g : Nat → Option Nat, g = va_up f_35 (2 : Int32).toNatClampNeg (some q_36) := ⟨_, rfl⟩
    rw [← ef_42] at hP hD
    have hP : va_P (dC, dI) cls [(q, .inr (0, [.ref q_1, .ref q_3, .ref q_5, .ref q_7, .ref q_9, .int 0, .ref q_11, .ref q_13, .ref q_15, .ref q_17, .ref q_19, .null, .null, .int 0, .int 0, .int 0])), (q_1, .inl (c_2, 36, .inr (.inl fn))), (q_3, .inl (c_4, 144, .inl fk)), (q_5, .inl (c_6, 36, .inl fa)), (q_7, .inl (c_8, 36, .inl fw)), (q_9, .inl (c_10, 10, .inr (.inr (.inr (.inr f_42))))), (q_36, .inr (9, F_39))] H := hP
    have hD : va_D A [(q, .inr (0, [.ref q_1, .ref q_3, .ref q_5, .ref q_7, .ref q_9, .int 0, .ref q_11, .ref q_13, .ref q_15, .ref q_17, .ref q_19, .null, .null, .int 0, .int 0, .int 0])), (q_1, .inl (c_2, 36, .inr (.inl fn))), (q_3, .inl (c_4, 144, .inl fk)), (q_5, .inl (c_6, 36, .inl fa)), (q_7, .inl (c_8, 36, .inl fw)), (q_9, .inl (c_10, 10, .inr (.inr (.inr (.inr f_42))))), (q_36, .inr (9, F_39))] := hD
    have hP := hP.sub (ws' := [(q, .inr (0, [.ref q_1, .ref q_3, .ref q_5, .ref q_7, .ref q_9, .int 0, .ref q_11, .ref q_13, .ref q_15, .ref q_17, .ref q_19, .null, .null, .int 0, .int 0, .int 0])), (q_1, .inl (c_2, 36, .inr (.inl fn))), (q_3, .inl (c_4, 144, .inl fk)), (q_5, .inl (c_6, 36, .inl fa)), (q_7, .inl (c_8, 36, .inl fw)), (q_9, .inl (c_10, 10, .inr (.inr (.inr (.inr f_42)))))]) [0, 1, 2, 3, 4, 5] rfl
    have hD := hD.sub (ws' := [(q, .inr (0, [.ref q_1, .ref q_3, .ref q_5, .ref q_7, .ref q_9, .int 0, .ref q_11, .ref q_13, .ref q_15, .ref q_17, .ref q_19, .null, .null, .int 0, .int 0, .int 0])), (q_1, .inl (c_2, 36, .inr (.inl fn))), (q_3, .inl (c_4, 144, .inl fk)), (q_5, .inl (c_6, 36, .inl fa)), (q_7, .inl (c_8, 36, .inl fw)), (q_9, .inl (c_10, 10, .inr (.inr (.inr (.inr f_42)))))]) [0, 1, 2, 3, 4, 5] (by decide) rfl
    refine lv_iinc (v := 3) (lv' := [(3, .int 3), (2, .int (nI (kp k))), (1, .int (nI na)), (0, .ref q)]) hx hb dX0_init_321 hl (k := 0) rfl (by decide) (by decide) rfl (fun ls hl => ?_)
    refine lv_goto (tgt := 300) hx hb dX0_init_324 (by decide) ?_
    refine lv_iload_n hx hb dX0_init_300 rfl (lv_at hl 0 rfl) ?_
    refine lv_bipush (v := 10) hx hb dX0_init_301 (by decide) ?_
    refine lv_icmp_ge (tgt := 327) hx hb dX0_init_303 (by decide) (fun c0 => absurd c0 (by decide)) (fun _ => ?_)
    refine lv_aload_n hx hb dX0_init_306 rfl (lv_at hl 3 rfl) ?_
    refine va_get (D := (dC, dI)) (ci := 0) (v := .ref q_9) (C := RX0) (T := TX0) (N := 16) hx hb ht uX0 hown hK hP 0 rfl rfl 4 (by decide) (ht _ k_1_155) (fun _ h9 => h9) rfl dX0_init_307 ?_
    refine lv_iload_n hx hb dX0_init_310 rfl (lv_at hl 0 rfl) ?_
    refine va_new (ci := 9) (fs := [.null, .null, .null, .int 0]) (C := RX9) (T := TX9) (N := 4) hx hb ht uX9 tyX9 tkX9 hown (ht _ k_1_44) (ht _ k_1_101) (ht _ k_1_7) hK hP hD hS hA rfl (by decide +kernel) (Nat.le_of_ble_eq_true rfl) (Nat.le_of_ble_eq_true rfl) dX0_init_311 (fun q_43 H hP hD hS => ?_)
    have hP : va_P (dC, dI) cls [(q, .inr (0, [.ref q_1, .ref q_3, .ref q_5, .ref q_7, .ref q_9, .int 0, .ref q_11, .ref q_13, .ref q_15, .ref q_17, .ref q_19, .null, .null, .int 0, .int 0, .int 0])), (q_1, .inl (c_2, 36, .inr (.inl fn))), (q_3, .inl (c_4, 144, .inl fk)), (q_5, .inl (c_6, 36, .inl fa)), (q_7, .inl (c_8, 36, .inl fw)), (q_9, .inl (c_10, 10, .inr (.inr (.inr (.inr f_42))))), (q_43, .inr (9, [.null, .null, .null, .int 0]))] H := hP
    have hD : va_D A [(q, .inr (0, [.ref q_1, .ref q_3, .ref q_5, .ref q_7, .ref q_9, .int 0, .ref q_11, .ref q_13, .ref q_15, .ref q_17, .ref q_19, .null, .null, .int 0, .int 0, .int 0])), (q_1, .inl (c_2, 36, .inr (.inl fn))), (q_3, .inl (c_4, 144, .inl fk)), (q_5, .inl (c_6, 36, .inl fa)), (q_7, .inl (c_8, 36, .inl fw)), (q_9, .inl (c_10, 10, .inr (.inr (.inr (.inr f_42))))), (q_43, .inr (9, [.null, .null, .null, .int 0]))] := hD
    refine W.widen (k := 23) (n := 9401) (by omega) (by omega) ?_
    refine lv_dup hx hb dX0_init_314 rfl ?_
    refine lv_bipush (v := 121) hx hb dX0_init_315 (by decide) ?_
    refine ca_v (wr := [(q, .inr (0, [.ref q_1, .ref q_3, .ref q_5, .ref q_7, .ref q_9, .int 0, .ref q_11, .ref q_13, .ref q_15, .ref q_17, .ref q_19, .null, .null, .int 0, .int 0, .int 0])), (q_1, .inl (c_2, 36, .inr (.inl fn))), (q_3, .inl (c_4, 144, .inl fk)), (q_5, .inl (c_6, 36, .inl fa)), (q_7, .inl (c_8, 36, .inl fw)), (q_9, .inl (c_10, 10, .inr (.inr (.inr (.inr f_42)))))]) (va_runI (As := [.int 121]) (rest := [.ref q_43, .int 3, .ref q_9]) ⟨hx, hb, hml, hown, ht⟩ (k9_121 l dC dI H.size q_43  ) (cwI 1 ht (gdI k_1_104) rfl rfl rfl (ht _ k_1_7) (ht _ k_1_102) (ht _ k_1_103) rfl (by decide +kernel) ⟨Nat.le_of_ble_eq_true rfl, Nat.le_of_ble_eq_true rfl⟩) ⟨pcw_blind, pcw_at hP hD hK [6] [] (by decide) rfl rfl rfl⟩ rfl rfl hl.1 rfl (lv_room (Nat.le_of_ble_eq_true rfl)) dX0_init_317 ⟨Nat.le_of_ble_eq_true rfl, Nat.le_of_ble_eq_true rfl⟩) hP hD hK hS hA [6] [0, 1, 2, 3, 4, 5] rfl rfl (by decide) (by decide) (fun u H locs w_45 hK hP hD hS => ?_)
    obtain ⟨F_46, rfl⟩ : ∃ z, z = u := ⟨_, rfl⟩
    have hK : va_K (dC, dI) cls [(c_2, .long), (c_4, .int), (c_6, .int), (c_8, .int), (c_10, .object "FinderHouse$Term"), (c_12, .boolean), (c_14, .int), (c_16, .int), (c_18, .int), (c_20, .int)] s := hK
    have hP : va_P (dC, dI) cls [(q, .inr (0, [.ref q_1, .ref q_3, .ref q_5, .ref q_7, .ref q_9, .int 0, .ref q_11, .ref q_13, .ref q_15, .ref q_17, .ref q_19, .null, .null, .int 0, .int 0, .int 0])), (q_1, .inl (c_2, 36, .inr (.inl fn))), (q_3, .inl (c_4, 144, .inl fk)), (q_5, .inl (c_6, 36, .inl fa)), (q_7, .inl (c_8, 36, .inl fw)), (q_9, .inl (c_10, 10, .inr (.inr (.inr (.inr f_42))))), (q_43, .inr (9, F_46))] H := hP
    have hD : va_D A [(q, .inr (0, [.ref q_1, .ref q_3, .ref q_5, .ref q_7, .ref q_9, .int 0, .ref q_11, .ref q_13, .ref q_15, .ref q_17, .ref q_19, .null, .null, .int 0, .int 0, .int 0])), (q_1, .inl (c_2, 36, .inr (.inl fn))), (q_3, .inl (c_4, 144, .inl fk)), (q_5, .inl (c_6, 36, .inl fa)), (q_7, .inl (c_8, 36, .inl fw)), (q_9, .inl (c_10, 10, .inr (.inr (.inr (.inr f_42))))), (q_43, .inr (9, F_46))] := hD
    refine W.widen (k := 26) (n := 9764) (by omega) (by omega) ?_
    obtain ⟨w_45, K_47, K_48⟩ := w_45
    refine va_astq (r := (RX9, TX9, 4)) hx hb hK hP hD hS 5 4 6 9 rfl rfl rfl rfl (by unfold vp_in; decide) dX0_init_320 (fun H locs hP hD hS => ?_)
    obtain ⟨f_49, ef_49⟩ : ∃ g : Nat → Option Nat, g = va_up f_42 (3 : Int32).toNatClampNeg (some q_43) := ⟨_, rfl⟩
    rw [← ef_49] at hP hD
    have hP : va_P (dC, dI) cls [(q, .inr (0, [.ref q_1, .ref q_3, .ref q_5, .ref q_7, .ref q_9, .int 0, .ref q_11, .ref q_13, .ref q_15, .ref q_17, .ref q_19, .null, .null, .int 0, .int 0, .int 0])), (q_1, .inl (c_2, 36, .inr (.inl fn))), (q_3, .inl (c_4, 144, .inl fk)), (q_5, .inl (c_6, 36, .inl fa)), (q_7, .inl (c_8, 36, .inl fw)), (q_9, .inl (c_10, 10, .inr (.inr (.inr (.inr f_49))))), (q_43, .inr (9, F_46))] H := hP
    have hD : va_D A [(q, .inr (0, [.ref q_1, .ref q_3, .ref q_5, .ref q_7, .ref q_9, .int 0, .ref q_11, .ref q_13, .ref q_15, .ref q_17, .ref q_19, .null, .null, .int 0, .int 0, .int 0])), (q_1, .inl (c_2, 36, .inr (.inl fn))), (q_3, .inl (c_4, 144, .inl fk)), (q_5, .inl (c_6, 36, .inl fa)), (q_7, .inl (c_8, 36, .inl fw)), (q_9, .inl (c_10, 10, .inr (.inr (.inr (.inr f_49))))), (q_43, .inr (9, F_46))] := hD
    have hP := hP.sub (ws' := [(q, .inr (0, [.ref q_1, .ref q_3, .ref q_5, .ref q_7, .ref q_9, .int 0, .ref q_11, .ref q_13, .ref q_15, .ref q_17, .ref q_19, .null, .null, .int 0, .int 0, .int 0])), (q_1, .inl (c_2, 36, .inr (.inl fn))), (q_3, .inl (c_4, 144, .inl fk)), (q_5, .inl (c_6, 36, .inl fa)), (q_7, .inl (c_8, 36, .inl fw)), (q_9, .inl (c_10, 10, .inr (.inr (.inr (.inr f_49)))))]) [0, 1, 2, 3, 4, 5] rfl
    have hD := hD.sub (ws' := [(q, .inr (0, [.ref q_1, .ref q_3, .ref q_5, .ref q_7, .ref q_9, .int 0, .ref q_11, .ref q_13, .ref q_15, .ref q_17, .ref q_19, .null, .null, .int 0, .int 0, .int 0])), (q_1, .inl (c_2, 36, .inr (.inl fn))), (q_3, .inl (c_4, 144, .inl fk)), (q_5, .inl (c_6, 36, .inl fa)), (q_7, .inl (c_8, 36, .inl fw)), (q_9, .inl (c_10, 10, .inr (.inr (.inr (.inr f_49)))))]) [0, 1, 2, 3, 4, 5] (by decide) rfl
    refine lv_iinc (v := 4) (lv' := [(3, .int 4), (2, .int (nI (kp k))), (1, .int (nI na)), (0, .ref q)]) hx hb dX0_init_321 hl (k := 0) rfl (by decide) (by decide) rfl (fun ls hl => ?_)
    refine lv_goto (tgt := 300) hx hb dX0_init_324 (by decide) ?_
    refine lv_iload_n hx hb dX0_init_300 rfl (lv_at hl 0 rfl) ?_
    refine lv_bipush (v := 10) hx hb dX0_init_301 (by decide) ?_
    refine lv_icmp_ge (tgt := 327) hx hb dX0_init_303 (by decide) (fun c0 => absurd c0 (by decide)) (fun _ => ?_)
    refine lv_aload_n hx hb dX0_init_306 rfl (lv_at hl 3 rfl) ?_
    refine va_get (D := (dC, dI)) (ci := 0) (v := .ref q_9) (C := RX0) (T := TX0) (N := 16) hx hb ht uX0 hown hK hP 0 rfl rfl 4 (by decide) (ht _ k_1_155) (fun _ h9 => h9) rfl dX0_init_307 ?_
    refine lv_iload_n hx hb dX0_init_310 rfl (lv_at hl 0 rfl) ?_
    refine va_new (ci := 9) (fs := [.null, .null, .null, .int 0]) (C := RX9) (T := TX9) (N := 4) hx hb ht uX9 tyX9 tkX9 hown (ht _ k_1_44) (ht _ k_1_101) (ht _ k_1_7) hK hP hD hS hA rfl (by decide +kernel) (Nat.le_of_ble_eq_true rfl) (Nat.le_of_ble_eq_true rfl) dX0_init_311 (fun q_50 H hP hD hS => ?_)
    have hP : va_P (dC, dI) cls [(q, .inr (0, [.ref q_1, .ref q_3, .ref q_5, .ref q_7, .ref q_9, .int 0, .ref q_11, .ref q_13, .ref q_15, .ref q_17, .ref q_19, .null, .null, .int 0, .int 0, .int 0])), (q_1, .inl (c_2, 36, .inr (.inl fn))), (q_3, .inl (c_4, 144, .inl fk)), (q_5, .inl (c_6, 36, .inl fa)), (q_7, .inl (c_8, 36, .inl fw)), (q_9, .inl (c_10, 10, .inr (.inr (.inr (.inr f_49))))), (q_50, .inr (9, [.null, .null, .null, .int 0]))] H := hP
    have hD : va_D A [(q, .inr (0, [.ref q_1, .ref q_3, .ref q_5, .ref q_7, .ref q_9, .int 0, .ref q_11, .ref q_13, .ref q_15, .ref q_17, .ref q_19, .null, .null, .int 0, .int 0, .int 0])), (q_1, .inl (c_2, 36, .inr (.inl fn))), (q_3, .inl (c_4, 144, .inl fk)), (q_5, .inl (c_6, 36, .inl fa)), (q_7, .inl (c_8, 36, .inl fw)), (q_9, .inl (c_10, 10, .inr (.inr (.inr (.inr f_49))))), (q_50, .inr (9, [.null, .null, .null, .int 0]))] := hD
    refine W.widen (k := 27) (n := 9768) (by omega) (by omega) ?_
    refine lv_dup hx hb dX0_init_314 rfl ?_
    refine lv_bipush (v := 121) hx hb dX0_init_315 (by decide) ?_
    refine ca_v (wr := [(q, .inr (0, [.ref q_1, .ref q_3, .ref q_5, .ref q_7, .ref q_9, .int 0, .ref q_11, .ref q_13, .ref q_15, .ref q_17, .ref q_19, .null, .null, .int 0, .int 0, .int 0])), (q_1, .inl (c_2, 36, .inr (.inl fn))), (q_3, .inl (c_4, 144, .inl fk)), (q_5, .inl (c_6, 36, .inl fa)), (q_7, .inl (c_8, 36, .inl fw)), (q_9, .inl (c_10, 10, .inr (.inr (.inr (.inr f_49)))))]) (va_runI (As := [.int 121]) (rest := [.ref q_50, .int 4, .ref q_9]) ⟨hx, hb, hml, hown, ht⟩ (k9_121 l dC dI H.size q_50  ) (cwI 1 ht (gdI k_1_104) rfl rfl rfl (ht _ k_1_7) (ht _ k_1_102) (ht _ k_1_103) rfl (by decide +kernel) ⟨Nat.le_of_ble_eq_true rfl, Nat.le_of_ble_eq_true rfl⟩) ⟨pcw_blind, pcw_at hP hD hK [6] [] (by decide) rfl rfl rfl⟩ rfl rfl hl.1 rfl (lv_room (Nat.le_of_ble_eq_true rfl)) dX0_init_317 ⟨Nat.le_of_ble_eq_true rfl, Nat.le_of_ble_eq_true rfl⟩) hP hD hK hS hA [6] [0, 1, 2, 3, 4, 5] rfl rfl (by decide) (by decide) (fun u H locs w_52 hK hP hD hS => ?_)
    obtain ⟨F_53, rfl⟩ : ∃ z, z = u := ⟨_, rfl⟩
    have hK : va_K (dC, dI) cls [(c_2, .long), (c_4, .int), (c_6, .int), (c_8, .int), (c_10, .object "FinderHouse$Term"), (c_12, .boolean), (c_14, .int), (c_16, .int), (c_18, .int), (c_20, .int)] s := hK
    have hP : va_P (dC, dI) cls [(q, .inr (0, [.ref q_1, .ref q_3, .ref q_5, .ref q_7, .ref q_9, .int 0, .ref q_11, .ref q_13, .ref q_15, .ref q_17, .ref q_19, .null, .null, .int 0, .int 0, .int 0])), (q_1, .inl (c_2, 36, .inr (.inl fn))), (q_3, .inl (c_4, 144, .inl fk)), (q_5, .inl (c_6, 36, .inl fa)), (q_7, .inl (c_8, 36, .inl fw)), (q_9, .inl (c_10, 10, .inr (.inr (.inr (.inr f_49))))), (q_50, .inr (9, F_53))] H := hP
    have hD : va_D A [(q, .inr (0, [.ref q_1, .ref q_3, .ref q_5, .ref q_7, .ref q_9, .int 0, .ref q_11, .ref q_13, .ref q_15, .ref q_17, .ref q_19, .null, .null, .int 0, .int 0, .int 0])), (q_1, .inl (c_2, 36, .inr (.inl fn))), (q_3, .inl (c_4, 144, .inl fk)), (q_5, .inl (c_6, 36, .inl fa)), (q_7, .inl (c_8, 36, .inl fw)), (q_9, .inl (c_10, 10, .inr (.inr (.inr (.inr f_49))))), (q_50, .inr (9, F_53))] := hD
    refine W.widen (k := 30) (n := 10131) (by omega) (by omega) ?_
    obtain ⟨w_52, K_54, K_55⟩ := w_52
    refine va_astq (r := (RX9, TX9, 4)) hx hb hK hP hD hS 5 4 6 9 rfl rfl rfl rfl (by unfold vp_in; decide) dX0_init_320 (fun H locs hP hD hS => ?_)
    obtain ⟨f_56, ef_56⟩ : ∃ g : Nat → Option Nat, g = va_up f_49 (4 : Int32).toNatClampNeg (some q_50) := ⟨_, rfl⟩
    rw [← ef_56] at hP hD
    have hP : va_P (dC, dI) cls [(q, .inr (0, [.ref q_1, .ref q_3, .ref q_5, .ref q_7, .ref q_9, .int 0, .ref q_11, .ref q_13, .ref q_15, .ref q_17, .ref q_19, .null, .null, .int 0, .int 0, .int 0])), (q_1, .inl (c_2, 36, .inr (.inl fn))), (q_3, .inl (c_4, 144, .inl fk)), (q_5, .inl (c_6, 36, .inl fa)), (q_7, .inl (c_8, 36, .inl fw)), (q_9, .inl (c_10, 10, .inr (.inr (.inr (.inr f_56))))), (q_50, .inr (9, F_53))] H := hP
    have hD : va_D A [(q, .inr (0, [.ref q_1, .ref q_3, .ref q_5, .ref q_7, .ref q_9, .int 0, .ref q_11, .ref q_13, .ref q_15, .ref q_17, .ref q_19, .null, .null, .int 0, .int 0, .int 0])), (q_1, .inl (c_2, 36, .inr (.inl fn))), (q_3, .inl (c_4, 144, .inl fk)), (q_5, .inl (c_6, 36, .inl fa)), (q_7, .inl (c_8, 36, .inl fw)), (q_9, .inl (c_10, 10, .inr (.inr (.inr (.inr f_56))))), (q_50, .inr (9, F_53))] := hD
    have hP := hP.sub (ws' := [(q, .inr (0, [.ref q_1, .ref q_3, .ref q_5, .ref q_7, .ref q_9, .int 0, .ref q_11, .ref q_13, .ref q_15, .ref q_17, .ref q_19, .null, .null, .int 0, .int 0, .int 0])), (q_1, .inl (c_2, 36, .inr (.inl fn))), (q_3, .inl (c_4, 144, .inl fk)), (q_5, .inl (c_6, 36, .inl fa)), (q_7, .inl (c_8, 36, .inl fw)), (q_9, .inl (c_10, 10, .inr (.inr (.inr (.inr f_56)))))]) [0, 1, 2, 3, 4, 5] rfl
    have hD := hD.sub (ws' := [(q, .inr (0, [.ref q_1, .ref q_3, .ref q_5, .ref q_7, .ref q_9, .int 0, .ref q_11, .ref q_13, .ref q_15, .ref q_17, .ref q_19, .null, .null, .int 0, .int 0, .int 0])), (q_1, .inl (c_2, 36, .inr (.inl fn))), (q_3, .inl (c_4, 144, .inl fk)), (q_5, .inl (c_6, 36, .inl fa)), (q_7, .inl (c_8, 36, .inl fw)), (q_9, .inl (c_10, 10, .inr (.inr (.inr (.inr f_56)))))]) [0, 1, 2, 3, 4, 5] (by decide) rfl
    refine lv_iinc (v := 5) (lv' := [(3, .int 5), (2, .int (nI (kp k))), (1, .int (nI na)), (0, .ref q)]) hx hb dX0_init_321 hl (k := 0) rfl (by decide) (by decide) rfl (fun ls hl => ?_)
    refine lv_goto (tgt := 300) hx hb dX0_init_324 (by decide) ?_
    refine lv_iload_n hx hb dX0_init_300 rfl (lv_at hl 0 rfl) ?_
    refine lv_bipush (v := 10) hx hb dX0_init_301 (by decide) ?_
    refine lv_icmp_ge (tgt := 327) hx hb dX0_init_303 (by decide) (fun c0 => absurd c0 (by decide)) (fun _ => ?_)
    refine lv_aload_n hx hb dX0_init_306 rfl (lv_at hl 3 rfl) ?_
    refine va_get (D := (dC, dI)) (ci := 0) (v := .ref q_9) (C := RX0) (T := TX0) (N := 16) hx hb ht uX0 hown hK hP 0 rfl rfl 4 (by decide) (ht _ k_1_155) (fun _ h9 => h9) rfl dX0_init_307 ?_
    refine lv_iload_n hx hb dX0_init_310 rfl (lv_at hl 0 rfl) ?_
    refine va_new (ci := 9) (fs := [.null, .null, .null, .int 0]) (C := RX9) (T := TX9) (N := 4) hx hb ht uX9 tyX9 tkX9 hown (ht _ k_1_44) (ht _ k_1_101) (ht _ k_1_7) hK hP hD hS hA rfl (by decide +kernel) (Nat.le_of_ble_eq_true rfl) (Nat.le_of_ble_eq_true rfl) dX0_init_311 (fun q_57 H hP hD hS => ?_)
    have hP : va_P (dC, dI) cls [(q, .inr (0, [.ref q_1, .ref q_3, .ref q_5, .ref q_7, .ref q_9, .int 0, .ref q_11, .ref q_13, .ref q_15, .ref q_17, .ref q_19, .null, .null, .int 0, .int 0, .int 0])), (q_1, .inl (c_2, 36, .inr (.inl fn))), (q_3, .inl (c_4, 144, .inl fk)), (q_5, .inl (c_6, 36, .inl fa)), (q_7, .inl (c_8, 36, .inl fw)), (q_9, .inl (c_10, 10, .inr (.inr (.inr (.inr f_56))))), (q_57, .inr (9, [.null, .null, .null, .int 0]))] H := hP
    have hD : va_D A [(q, .inr (0, [.ref q_1, .ref q_3, .ref q_5, .ref q_7, .ref q_9, .int 0, .ref q_11, .ref q_13, .ref q_15, .ref q_17, .ref q_19, .null, .null, .int 0, .int 0, .int 0])), (q_1, .inl (c_2, 36, .inr (.inl fn))), (q_3, .inl (c_4, 144, .inl fk)), (q_5, .inl (c_6, 36, .inl fa)), (q_7, .inl (c_8, 36, .inl fw)), (q_9, .inl (c_10, 10, .inr (.inr (.inr (.inr f_56))))), (q_57, .inr (9, [.null, .null, .null, .int 0]))] := hD
    refine W.widen (k := 31) (n := 10135) (by omega) (by omega) ?_
    refine lv_dup hx hb dX0_init_314 rfl ?_
    refine lv_bipush (v := 121) hx hb dX0_init_315 (by decide) ?_
    refine ca_v (wr := [(q, .inr (0, [.ref q_1, .ref q_3, .ref q_5, .ref q_7, .ref q_9, .int 0, .ref q_11, .ref q_13, .ref q_15, .ref q_17, .ref q_19, .null, .null, .int 0, .int 0, .int 0])), (q_1, .inl (c_2, 36, .inr (.inl fn))), (q_3, .inl (c_4, 144, .inl fk)), (q_5, .inl (c_6, 36, .inl fa)), (q_7, .inl (c_8, 36, .inl fw)), (q_9, .inl (c_10, 10, .inr (.inr (.inr (.inr f_56)))))]) (va_runI (As := [.int 121]) (rest := [.ref q_57, .int 5, .ref q_9]) ⟨hx, hb, hml, hown, ht⟩ (k9_121 l dC dI H.size q_57  ) (cwI 1 ht (gdI k_1_104) rfl rfl rfl (ht _ k_1_7) (ht _ k_1_102) (ht _ k_1_103) rfl (by decide +kernel) ⟨Nat.le_of_ble_eq_true rfl, Nat.le_of_ble_eq_true rfl⟩) ⟨pcw_blind, pcw_at hP hD hK [6] [] (by decide) rfl rfl rfl⟩ rfl rfl hl.1 rfl (lv_room (Nat.le_of_ble_eq_true rfl)) dX0_init_317 ⟨Nat.le_of_ble_eq_true rfl, Nat.le_of_ble_eq_true rfl⟩) hP hD hK hS hA [6] [0, 1, 2, 3, 4, 5] rfl rfl (by decide) (by decide) (fun u H locs w_59 hK hP hD hS => ?_)
    obtain ⟨F_60, rfl⟩ : ∃ z, z = u := ⟨_, rfl⟩
    have hK : va_K (dC, dI) cls [(c_2, .long), (c_4, .int), (c_6, .int), (c_8, .int), (c_10, .object "FinderHouse$Term"), (c_12, .boolean), (c_14, .int), (c_16, .int), (c_18, .int), (c_20, .int)] s := hK
    have hP : va_P (dC, dI) cls [(q, .inr (0, [.ref q_1, .ref q_3, .ref q_5, .ref q_7, .ref q_9, .int 0, .ref q_11, .ref q_13, .ref q_15, .ref q_17, .ref q_19, .null, .null, .int 0, .int 0, .int 0])), (q_1, .inl (c_2, 36, .inr (.inl fn))), (q_3, .inl (c_4, 144, .inl fk)), (q_5, .inl (c_6, 36, .inl fa)), (q_7, .inl (c_8, 36, .inl fw)), (q_9, .inl (c_10, 10, .inr (.inr (.inr (.inr f_56))))), (q_57, .inr (9, F_60))] H := hP
    have hD : va_D A [(q, .inr (0, [.ref q_1, .ref q_3, .ref q_5, .ref q_7, .ref q_9, .int 0, .ref q_11, .ref q_13, .ref q_15, .ref q_17, .ref q_19, .null, .null, .int 0, .int 0, .int 0])), (q_1, .inl (c_2, 36, .inr (.inl fn))), (q_3, .inl (c_4, 144, .inl fk)), (q_5, .inl (c_6, 36, .inl fa)), (q_7, .inl (c_8, 36, .inl fw)), (q_9, .inl (c_10, 10, .inr (.inr (.inr (.inr f_56))))), (q_57, .inr (9, F_60))] := hD
    refine W.widen (k := 34) (n := 10498) (by omega) (by omega) ?_
    obtain ⟨w_59, K_61, K_62⟩ := w_59
    refine va_astq (r := (RX9, TX9, 4)) hx hb hK hP hD hS 5 4 6 9 rfl rfl rfl rfl (by unfold vp_in; decide) dX0_init_320 (fun H locs hP hD hS => ?_)
    obtain ⟨f_63, ef_63⟩ : ∃ g : Nat → Option Nat, g = va_up f_56 (5 : Int32).toNatClampNeg (some q_57) := ⟨_, rfl⟩
    rw [← ef_63] at hP hD
    have hP : va_P (dC, dI) cls [(q, .inr (0, [.ref q_1, .ref q_3, .ref q_5, .ref q_7, .ref q_9, .int 0, .ref q_11, .ref q_13, .ref q_15, .ref q_17, .ref q_19, .null, .null, .int 0, .int 0, .int 0])), (q_1, .inl (c_2, 36, .inr (.inl fn))), (q_3, .inl (c_4, 144, .inl fk)), (q_5, .inl (c_6, 36, .inl fa)), (q_7, .inl (c_8, 36, .inl fw)), (q_9, .inl (c_10, 10, .inr (.inr (.inr (.inr f_63))))), (q_57, .inr (9, F_60))] H := hP
    have hD : va_D A [(q, .inr (0, [.ref q_1, .ref q_3, .ref q_5, .ref q_7, .ref q_9, .int 0, .ref q_11, .ref q_13, .ref q_15, .ref q_17, .ref q_19, .null, .null, .int 0, .int 0, .int 0])), (q_1, .inl (c_2, 36, .inr (.inl fn))), (q_3, .inl (c_4, 144, .inl fk)), (q_5, .inl (c_6, 36, .inl fa)), (q_7, .inl (c_8, 36, .inl fw)), (q_9, .inl (c_10, 10, .inr (.inr (.inr (.inr f_63))))), (q_57, .inr (9, F_60))] := hD
    have hP := hP.sub (ws' := [(q, .inr (0, [.ref q_1, .ref q_3, .ref q_5, .ref q_7, .ref q_9, .int 0, .ref q_11, .ref q_13, .ref q_15, .ref q_17, .ref q_19, .null, .null, .int 0, .int 0, .int 0])), (q_1, .inl (c_2, 36, .inr (.inl fn))), (q_3, .inl (c_4, 144, .inl fk)), (q_5, .inl (c_6, 36, .inl fa)), (q_7, .inl (c_8, 36, .inl fw)), (q_9, .inl (c_10, 10, .inr (.inr (.inr (.inr f_63)))))]) [0, 1, 2, 3, 4, 5] rfl
    have hD := hD.sub (ws' := [(q, .inr (0, [.ref q_1, .ref q_3, .ref q_5, .ref q_7, .ref q_9, .int 0, .ref q_11, .ref q_13, .ref q_15, .ref q_17, .ref q_19, .null, .null, .int 0, .int 0, .int 0])), (q_1, .inl (c_2, 36, .inr (.inl fn))), (q_3, .inl (c_4, 144, .inl fk)), (q_5, .inl (c_6, 36, .inl fa)), (q_7, .inl (c_8, 36, .inl fw)), (q_9, .inl (c_10, 10, .inr (.inr (.inr (.inr f_63)))))]) [0, 1, 2, 3, 4, 5] (by decide) rfl
    refine lv_iinc (v := 6) (lv' := [(3, .int 6), (2, .int (nI (kp k))), (1, .int (nI na)), (0, .ref q)]) hx hb dX0_init_321 hl (k := 0) rfl (by decide) (by decide) rfl (fun ls hl => ?_)
    refine lv_goto (tgt := 300) hx hb dX0_init_324 (by decide) ?_
    refine lv_iload_n hx hb dX0_init_300 rfl (lv_at hl 0 rfl) ?_
    refine lv_bipush (v := 10) hx hb dX0_init_301 (by decide) ?_
    refine lv_icmp_ge (tgt := 327) hx hb dX0_init_303 (by decide) (fun c0 => absurd c0 (by decide)) (fun _ => ?_)
    refine lv_aload_n hx hb dX0_init_306 rfl (lv_at hl 3 rfl) ?_
    refine va_get (D := (dC, dI)) (ci := 0) (v := .ref q_9) (C := RX0) (T := TX0) (N := 16) hx hb ht uX0 hown hK hP 0 rfl rfl 4 (by decide) (ht _ k_1_155) (fun _ h9 => h9) rfl dX0_init_307 ?_
    refine lv_iload_n hx hb dX0_init_310 rfl (lv_at hl 0 rfl) ?_
    refine va_new (ci := 9) (fs := [.null, .null, .null, .int 0]) (C := RX9) (T := TX9) (N := 4) hx hb ht uX9 tyX9 tkX9 hown (ht _ k_1_44) (ht _ k_1_101) (ht _ k_1_7) hK hP hD hS hA rfl (by decide +kernel) (Nat.le_of_ble_eq_true rfl) (Nat.le_of_ble_eq_true rfl) dX0_init_311 (fun q_64 H hP hD hS => ?_)
    have hP : va_P (dC, dI) cls [(q, .inr (0, [.ref q_1, .ref q_3, .ref q_5, .ref q_7, .ref q_9, .int 0, .ref q_11, .ref q_13, .ref q_15, .ref q_17, .ref q_19, .null, .null, .int 0, .int 0, .int 0])), (q_1, .inl (c_2, 36, .inr (.inl fn))), (q_3, .inl (c_4, 144, .inl fk)), (q_5, .inl (c_6, 36, .inl fa)), (q_7, .inl (c_8, 36, .inl fw)), (q_9, .inl (c_10, 10, .inr (.inr (.inr (.inr f_63))))), (q_64, .inr (9, [.null, .null, .null, .int 0]))] H := hP
    have hD : va_D A [(q, .inr (0, [.ref q_1, .ref q_3, .ref q_5, .ref q_7, .ref q_9, .int 0, .ref q_11, .ref q_13, .ref q_15, .ref q_17, .ref q_19, .null, .null, .int 0, .int 0, .int 0])), (q_1, .inl (c_2, 36, .inr (.inl fn))), (q_3, .inl (c_4, 144, .inl fk)), (q_5, .inl (c_6, 36, .inl fa)), (q_7, .inl (c_8, 36, .inl fw)), (q_9, .inl (c_10, 10, .inr (.inr (.inr (.inr f_63))))), (q_64, .inr (9, [.null, .null, .null, .int 0]))] := hD
    refine W.widen (k := 35) (n := 10502) (by omega) (by omega) ?_
    refine lv_dup hx hb dX0_init_314 rfl ?_
    refine lv_bipush (v := 121) hx hb dX0_init_315 (by decide) ?_
    refine ca_v (wr := [(q, .inr (0, [.ref q_1, .ref q_3, .ref q_5, .ref q_7, .ref q_9, .int 0, .ref q_11, .ref q_13, .ref q_15, .ref q_17, .ref q_19, .null, .null, .int 0, .int 0, .int 0])), (q_1, .inl (c_2, 36, .inr (.inl fn))), (q_3, .inl (c_4, 144, .inl fk)), (q_5, .inl (c_6, 36, .inl fa)), (q_7, .inl (c_8, 36, .inl fw)), (q_9, .inl (c_10, 10, .inr (.inr (.inr (.inr f_63)))))]) (va_runI (As := [.int 121]) (rest := [.ref q_64, .int 6, .ref q_9]) ⟨hx, hb, hml, hown, ht⟩ (k9_121 l dC dI H.size q_64  ) (cwI 1 ht (gdI k_1_104) rfl rfl rfl (ht _ k_1_7) (ht _ k_1_102) (ht _ k_1_103) rfl (by decide +kernel) ⟨Nat.le_of_ble_eq_true rfl, Nat.le_of_ble_eq_true rfl⟩) ⟨pcw_blind, pcw_at hP hD hK [6] [] (by decide) rfl rfl rfl⟩ rfl rfl hl.1 rfl (lv_room (Nat.le_of_ble_eq_true rfl)) dX0_init_317 ⟨Nat.le_of_ble_eq_true rfl, Nat.le_of_ble_eq_true rfl⟩) hP hD hK hS hA [6] [0, 1, 2, 3, 4, 5] rfl rfl (by decide) (by decide) (fun u H locs w_66 hK hP hD hS => ?_)
    obtain ⟨F_67, rfl⟩ : ∃ z, z = u := ⟨_, rfl⟩
    have hK : va_K (dC, dI) cls [(c_2, .long), (c_4, .int), (c_6, .int), (c_8, .int), (c_10, .object "FinderHouse$Term"), (c_12, .boolean), (c_14, .int), (c_16, .int), (c_18, .int), (c_20, .int)] s := hK
    have hP : va_P (dC, dI) cls [(q, .inr (0, [.ref q_1, .ref q_3, .ref q_5, .ref q_7, .ref q_9, .int 0, .ref q_11, .ref q_13, .ref q_15, .ref q_17, .ref q_19, .null, .null, .int 0, .int 0, .int 0])), (q_1, .inl (c_2, 36, .inr (.inl fn))), (q_3, .inl (c_4, 144, .inl fk)), (q_5, .inl (c_6, 36, .inl fa)), (q_7, .inl (c_8, 36, .inl fw)), (q_9, .inl (c_10, 10, .inr (.inr (.inr (.inr f_63))))), (q_64, .inr (9, F_67))] H := hP
    have hD : va_D A [(q, .inr (0, [.ref q_1, .ref q_3, .ref q_5, .ref q_7, .ref q_9, .int 0, .ref q_11, .ref q_13, .ref q_15, .ref q_17, .ref q_19, .null, .null, .int 0, .int 0, .int 0])), (q_1, .inl (c_2, 36, .inr (.inl fn))), (q_3, .inl (c_4, 144, .inl fk)), (q_5, .inl (c_6, 36, .inl fa)), (q_7, .inl (c_8, 36, .inl fw)), (q_9, .inl (c_10, 10, .inr (.inr (.inr (.inr f_63))))), (q_64, .inr (9, F_67))] := hD
    refine W.widen (k := 38) (n := 10865) (by omega) (by omega) ?_
    obtain ⟨w_66, K_68, K_69⟩ := w_66
    refine va_astq (r := (RX9, TX9, 4)) hx hb hK hP hD hS 5 4 6 9 rfl rfl rfl rfl (by unfold vp_in; decide) dX0_init_320 (fun H locs hP hD hS => ?_)
    obtain ⟨f_70, ef_70⟩ : ∃ g : Nat → Option Nat, g = va_up f_63 (6 : Int32).toNatClampNeg (some q_64) := ⟨_, rfl⟩
    rw [← ef_70] at hP hD
    have hP : va_P (dC, dI) cls [(q, .inr (0, [.ref q_1, .ref q_3, .ref q_5, .ref q_7, .ref q_9, .int 0, .ref q_11, .ref q_13, .ref q_15, .ref q_17, .ref q_19, .null, .null, .int 0, .int 0, .int 0])), (q_1, .inl (c_2, 36, .inr (.inl fn))), (q_3, .inl (c_4, 144, .inl fk)), (q_5, .inl (c_6, 36, .inl fa)), (q_7, .inl (c_8, 36, .inl fw)), (q_9, .inl (c_10, 10, .inr (.inr (.inr (.inr f_70))))), (q_64, .inr (9, F_67))] H := hP
    have hD : va_D A [(q, .inr (0, [.ref q_1, .ref q_3, .ref q_5, .ref q_7, .ref q_9, .int 0, .ref q_11, .ref q_13, .ref q_15, .ref q_17, .ref q_19, .null, .null, .int 0, .int 0, .int 0])), (q_1, .inl (c_2, 36, .inr (.inl fn))), (q_3, .inl (c_4, 144, .inl fk)), (q_5, .inl (c_6, 36, .inl fa)), (q_7, .inl (c_8, 36, .inl fw)), (q_9, .inl (c_10, 10, .inr (.inr (.inr (.inr f_70))))), (q_64, .inr (9, F_67))] := hD
    have hP := hP.sub (ws' := [(q, .inr (0, [.ref q_1, .ref q_3, .ref q_5, .ref q_7, .ref q_9, .int 0, .ref q_11, .ref q_13, .ref q_15, .ref q_17, .ref q_19, .null, .null, .int 0, .int 0, .int 0])), (q_1, .inl (c_2, 36, .inr (.inl fn))), (q_3, .inl (c_4, 144, .inl fk)), (q_5, .inl (c_6, 36, .inl fa)), (q_7, .inl (c_8, 36, .inl fw)), (q_9, .inl (c_10, 10, .inr (.inr (.inr (.inr f_70)))))]) [0, 1, 2, 3, 4, 5] rfl
    have hD := hD.sub (ws' := [(q, .inr (0, [.ref q_1, .ref q_3, .ref q_5, .ref q_7, .ref q_9, .int 0, .ref q_11, .ref q_13, .ref q_15, .ref q_17, .ref q_19, .null, .null, .int 0, .int 0, .int 0])), (q_1, .inl (c_2, 36, .inr (.inl fn))), (q_3, .inl (c_4, 144, .inl fk)), (q_5, .inl (c_6, 36, .inl fa)), (q_7, .inl (c_8, 36, .inl fw)), (q_9, .inl (c_10, 10, .inr (.inr (.inr (.inr f_70)))))]) [0, 1, 2, 3, 4, 5] (by decide) rfl
    refine lv_iinc (v := 7) (lv' := [(3, .int 7), (2, .int (nI (kp k))), (1, .int (nI na)), (0, .ref q)]) hx hb dX0_init_321 hl (k := 0) rfl (by decide) (by decide) rfl (fun ls hl => ?_)
    refine lv_goto (tgt := 300) hx hb dX0_init_324 (by decide) ?_
    refine lv_iload_n hx hb dX0_init_300 rfl (lv_at hl 0 rfl) ?_
    refine lv_bipush (v := 10) hx hb dX0_init_301 (by decide) ?_
    refine lv_icmp_ge (tgt := 327) hx hb dX0_init_303 (by decide) (fun c0 => absurd c0 (by decide)) (fun _ => ?_)
    refine lv_aload_n hx hb dX0_init_306 rfl (lv_at hl 3 rfl) ?_
    refine va_get (D := (dC, dI)) (ci := 0) (v := .ref q_9) (C := RX0) (T := TX0) (N := 16) hx hb ht uX0 hown hK hP 0 rfl rfl 4 (by decide) (ht _ k_1_155) (fun _ h9 => h9) rfl dX0_init_307 ?_
    refine lv_iload_n hx hb dX0_init_310 rfl (lv_at hl 0 rfl) ?_
    refine va_new (ci := 9) (fs := [.null, .null, .null, .int 0]) (C := RX9) (T := TX9) (N := 4) hx hb ht uX9 tyX9 tkX9 hown (ht _ k_1_44) (ht _ k_1_101) (ht _ k_1_7) hK hP hD hS hA rfl (by decide +kernel) (Nat.le_of_ble_eq_true rfl) (Nat.le_of_ble_eq_true rfl) dX0_init_311 (fun q_71 H hP hD hS => ?_)
    have hP : va_P (dC, dI) cls [(q, .inr (0, [.ref q_1, .ref q_3, .ref q_5, .ref q_7, .ref q_9, .int 0, .ref q_11, .ref q_13, .ref q_15, .ref q_17, .ref q_19, .null, .null, .int 0, .int 0, .int 0])), (q_1, .inl (c_2, 36, .inr (.inl fn))), (q_3, .inl (c_4, 144, .inl fk)), (q_5, .inl (c_6, 36, .inl fa)), (q_7, .inl (c_8, 36, .inl fw)), (q_9, .inl (c_10, 10, .inr (.inr (.inr (.inr f_70))))), (q_71, .inr (9, [.null, .null, .null, .int 0]))] H := hP
    have hD : va_D A [(q, .inr (0, [.ref q_1, .ref q_3, .ref q_5, .ref q_7, .ref q_9, .int 0, .ref q_11, .ref q_13, .ref q_15, .ref q_17, .ref q_19, .null, .null, .int 0, .int 0, .int 0])), (q_1, .inl (c_2, 36, .inr (.inl fn))), (q_3, .inl (c_4, 144, .inl fk)), (q_5, .inl (c_6, 36, .inl fa)), (q_7, .inl (c_8, 36, .inl fw)), (q_9, .inl (c_10, 10, .inr (.inr (.inr (.inr f_70))))), (q_71, .inr (9, [.null, .null, .null, .int 0]))] := hD
    refine W.widen (k := 39) (n := 10869) (by omega) (by omega) ?_
    refine lv_dup hx hb dX0_init_314 rfl ?_
    refine lv_bipush (v := 121) hx hb dX0_init_315 (by decide) ?_
    refine ca_v (wr := [(q, .inr (0, [.ref q_1, .ref q_3, .ref q_5, .ref q_7, .ref q_9, .int 0, .ref q_11, .ref q_13, .ref q_15, .ref q_17, .ref q_19, .null, .null, .int 0, .int 0, .int 0])), (q_1, .inl (c_2, 36, .inr (.inl fn))), (q_3, .inl (c_4, 144, .inl fk)), (q_5, .inl (c_6, 36, .inl fa)), (q_7, .inl (c_8, 36, .inl fw)), (q_9, .inl (c_10, 10, .inr (.inr (.inr (.inr f_70)))))]) (va_runI (As := [.int 121]) (rest := [.ref q_71, .int 7, .ref q_9]) ⟨hx, hb, hml, hown, ht⟩ (k9_121 l dC dI H.size q_71  ) (cwI 1 ht (gdI k_1_104) rfl rfl rfl (ht _ k_1_7) (ht _ k_1_102) (ht _ k_1_103) rfl (by decide +kernel) ⟨Nat.le_of_ble_eq_true rfl, Nat.le_of_ble_eq_true rfl⟩) ⟨pcw_blind, pcw_at hP hD hK [6] [] (by decide) rfl rfl rfl⟩ rfl rfl hl.1 rfl (lv_room (Nat.le_of_ble_eq_true rfl)) dX0_init_317 ⟨Nat.le_of_ble_eq_true rfl, Nat.le_of_ble_eq_true rfl⟩) hP hD hK hS hA [6] [0, 1, 2, 3, 4, 5] rfl rfl (by decide) (by decide) (fun u H locs w_73 hK hP hD hS => ?_)
    obtain ⟨F_74, rfl⟩ : ∃ z, z = u := ⟨_, rfl⟩
    have hK : va_K (dC, dI) cls [(c_2, .long), (c_4, .int), (c_6, .int), (c_8, .int), (c_10, .object "FinderHouse$Term"), (c_12, .boolean), (c_14, .int), (c_16, .int), (c_18, .int), (c_20, .int)] s := hK
    have hP : va_P (dC, dI) cls [(q, .inr (0, [.ref q_1, .ref q_3, .ref q_5, .ref q_7, .ref q_9, .int 0, .ref q_11, .ref q_13, .ref q_15, .ref q_17, .ref q_19, .null, .null, .int 0, .int 0, .int 0])), (q_1, .inl (c_2, 36, .inr (.inl fn))), (q_3, .inl (c_4, 144, .inl fk)), (q_5, .inl (c_6, 36, .inl fa)), (q_7, .inl (c_8, 36, .inl fw)), (q_9, .inl (c_10, 10, .inr (.inr (.inr (.inr f_70))))), (q_71, .inr (9, F_74))] H := hP
    have hD : va_D A [(q, .inr (0, [.ref q_1, .ref q_3, .ref q_5, .ref q_7, .ref q_9, .int 0, .ref q_11, .ref q_13, .ref q_15, .ref q_17, .ref q_19, .null, .null, .int 0, .int 0, .int 0])), (q_1, .inl (c_2, 36, .inr (.inl fn))), (q_3, .inl (c_4, 144, .inl fk)), (q_5, .inl (c_6, 36, .inl fa)), (q_7, .inl (c_8, 36, .inl fw)), (q_9, .inl (c_10, 10, .inr (.inr (.inr (.inr f_70))))), (q_71, .inr (9, F_74))] := hD
    refine W.widen (k := 42) (n := 11232) (by omega) (by omega) ?_
    obtain ⟨w_73, K_75, K_76⟩ := w_73
    refine va_astq (r := (RX9, TX9, 4)) hx hb hK hP hD hS 5 4 6 9 rfl rfl rfl rfl (by unfold vp_in; decide) dX0_init_320 (fun H locs hP hD hS => ?_)
    obtain ⟨f_77, ef_77⟩ : ∃ g : Nat → Option Nat, g = va_up f_70 (7 : Int32).toNatClampNeg (some q_71) := ⟨_, rfl⟩
    rw [← ef_77] at hP hD
    have hP : va_P (dC, dI) cls [(q, .inr (0, [.ref q_1, .ref q_3, .ref q_5, .ref q_7, .ref q_9, .int 0, .ref q_11, .ref q_13, .ref q_15, .ref q_17, .ref q_19, .null, .null, .int 0, .int 0, .int 0])), (q_1, .inl (c_2, 36, .inr (.inl fn))), (q_3, .inl (c_4, 144, .inl fk)), (q_5, .inl (c_6, 36, .inl fa)), (q_7, .inl (c_8, 36, .inl fw)), (q_9, .inl (c_10, 10, .inr (.inr (.inr (.inr f_77))))), (q_71, .inr (9, F_74))] H := hP
    have hD : va_D A [(q, .inr (0, [.ref q_1, .ref q_3, .ref q_5, .ref q_7, .ref q_9, .int 0, .ref q_11, .ref q_13, .ref q_15, .ref q_17, .ref q_19, .null, .null, .int 0, .int 0, .int 0])), (q_1, .inl (c_2, 36, .inr (.inl fn))), (q_3, .inl (c_4, 144, .inl fk)), (q_5, .inl (c_6, 36, .inl fa)), (q_7, .inl (c_8, 36, .inl fw)), (q_9, .inl (c_10, 10, .inr (.inr (.inr (.inr f_77))))), (q_71, .inr (9, F_74))] := hD
    have hP := hP.sub (ws' := [(q, .inr (0, [.ref q_1, .ref q_3, .ref q_5, .ref q_7, .ref q_9, .int 0, .ref q_11, .ref q_13, .ref q_15, .ref q_17, .ref q_19, .null, .null, .int 0, .int 0, .int 0])), (q_1, .inl (c_2, 36, .inr (.inl fn))), (q_3, .inl (c_4, 144, .inl fk)), (q_5, .inl (c_6, 36, .inl fa)), (q_7, .inl (c_8, 36, .inl fw)), (q_9, .inl (c_10, 10, .inr (.inr (.inr (.inr f_77)))))]) [0, 1, 2, 3, 4, 5] rfl
    have hD := hD.sub (ws' := [(q, .inr (0, [.ref q_1, .ref q_3, .ref q_5, .ref q_7, .ref q_9, .int 0, .ref q_11, .ref q_13, .ref q_15, .ref q_17, .ref q_19, .null, .null, .int 0, .int 0, .int 0])), (q_1, .inl (c_2, 36, .inr (.inl fn))), (q_3, .inl (c_4, 144, .inl fk)), (q_5, .inl (c_6, 36, .inl fa)), (q_7, .inl (c_8, 36, .inl fw)), (q_9, .inl (c_10, 10, .inr (.inr (.inr (.inr f_77)))))]) [0, 1, 2, 3, 4, 5] (by decide) rfl
    refine lv_iinc (v := 8) (lv' := [(3, .int 8), (2, .int (nI (kp k))), (1, .int (nI na)), (0, .ref q)]) hx hb dX0_init_321 hl (k := 0) rfl (by decide) (by decide) rfl (fun ls hl => ?_)
    refine lv_goto (tgt := 300) hx hb dX0_init_324 (by decide) ?_
    refine lv_iload_n hx hb dX0_init_300 rfl (lv_at hl 0 rfl) ?_
    refine lv_bipush (v := 10) hx hb dX0_init_301 (by decide) ?_
    refine lv_icmp_ge (tgt := 327) hx hb dX0_init_303 (by decide) (fun c0 => absurd c0 (by decide)) (fun _ => ?_)
    refine lv_aload_n hx hb dX0_init_306 rfl (lv_at hl 3 rfl) ?_
    refine va_get (D := (dC, dI)) (ci := 0) (v := .ref q_9) (C := RX0) (T := TX0) (N := 16) hx hb ht uX0 hown hK hP 0 rfl rfl 4 (by decide) (ht _ k_1_155) (fun _ h9 => h9) rfl dX0_init_307 ?_
    refine lv_iload_n hx hb dX0_init_310 rfl (lv_at hl 0 rfl) ?_
    refine va_new (ci := 9) (fs := [.null, .null, .null, .int 0]) (C := RX9) (T := TX9) (N := 4) hx hb ht uX9 tyX9 tkX9 hown (ht _ k_1_44) (ht _ k_1_101) (ht _ k_1_7) hK hP hD hS hA rfl (by decide +kernel) (Nat.le_of_ble_eq_true rfl) (Nat.le_of_ble_eq_true rfl) dX0_init_311 (fun q_78 H hP hD hS => ?_)
    have hP : va_P (dC, dI) cls [(q, .inr (0, [.ref q_1, .ref q_3, .ref q_5, .ref q_7, .ref q_9, .int 0, .ref q_11, .ref q_13, .ref q_15, .ref q_17, .ref q_19, .null, .null, .int 0, .int 0, .int 0])), (q_1, .inl (c_2, 36, .inr (.inl fn))), (q_3, .inl (c_4, 144, .inl fk)), (q_5, .inl (c_6, 36, .inl fa)), (q_7, .inl (c_8, 36, .inl fw)), (q_9, .inl (c_10, 10, .inr (.inr (.inr (.inr f_77))))), (q_78, .inr (9, [.null, .null, .null, .int 0]))] H := hP
    have hD : va_D A [(q, .inr (0, [.ref q_1, .ref q_3, .ref q_5, .ref q_7, .ref q_9, .int 0, .ref q_11, .ref q_13, .ref q_15, .ref q_17, .ref q_19, .null, .null, .int 0, .int 0, .int 0])), (q_1, .inl (c_2, 36, .inr (.inl fn))), (q_3, .inl (c_4, 144, .inl fk)), (q_5, .inl (c_6, 36, .inl fa)), (q_7, .inl (c_8, 36, .inl fw)), (q_9, .inl (c_10, 10, .inr (.inr (.inr (.inr f_77))))), (q_78, .inr (9, [.null, .null, .null, .int 0]))] := hD
    refine W.widen (k := 43) (n := 11236) (by omega) (by omega) ?_
    refine lv_dup hx hb dX0_init_314 rfl ?_
    refine lv_bipush (v := 121) hx hb dX0_init_315 (by decide) ?_
    refine ca_v (wr := [(q, .inr (0, [.ref q_1, .ref q_3, .ref q_5, .ref q_7, .ref q_9, .int 0, .ref q_11, .ref q_13, .ref q_15, .ref q_17, .ref q_19, .null, .null, .int 0, .int 0, .int 0])), (q_1, .inl (c_2, 36, .inr (.inl fn))), (q_3, .inl (c_4, 144, .inl fk)), (q_5, .inl (c_6, 36, .inl fa)), (q_7, .inl (c_8, 36, .inl fw)), (q_9, .inl (c_10, 10, .inr (.inr (.inr (.inr f_77)))))]) (va_runI (As := [.int 121]) (rest := [.ref q_78, .int 8, .ref q_9]) ⟨hx, hb, hml, hown, ht⟩ (k9_121 l dC dI H.size q_78  ) (cwI 1 ht (gdI k_1_104) rfl rfl rfl (ht _ k_1_7) (ht _ k_1_102) (ht _ k_1_103) rfl (by decide +kernel) ⟨Nat.le_of_ble_eq_true rfl, Nat.le_of_ble_eq_true rfl⟩) ⟨pcw_blind, pcw_at hP hD hK [6] [] (by decide) rfl rfl rfl⟩ rfl rfl hl.1 rfl (lv_room (Nat.le_of_ble_eq_true rfl)) dX0_init_317 ⟨Nat.le_of_ble_eq_true rfl, Nat.le_of_ble_eq_true rfl⟩) hP hD hK hS hA [6] [0, 1, 2, 3, 4, 5] rfl rfl (by decide) (by decide) (fun u H locs w_80 hK hP hD hS => ?_)
    obtain ⟨F_81, rfl⟩ : ∃ z, z = u := ⟨_, rfl⟩
    have hK : va_K (dC, dI) cls [(c_2, .long), (c_4, .int), (c_6, .int), (c_8, .int), (c_10, .object "FinderHouse$Term"), (c_12, .boolean), (c_14, .int), (c_16, .int), (c_18, .int), (c_20, .int)] s := hK
    have hP : va_P (dC, dI) cls [(q, .inr (0, [.ref q_1, .ref q_3, .ref q_5, .ref q_7, .ref q_9, .int 0, .ref q_11, .ref q_13, .ref q_15, .ref q_17, .ref q_19, .null, .null, .int 0, .int 0, .int 0])), (q_1, .inl (c_2, 36, .inr (.inl fn))), (q_3, .inl (c_4, 144, .inl fk)), (q_5, .inl (c_6, 36, .inl fa)), (q_7, .inl (c_8, 36, .inl fw)), (q_9, .inl (c_10, 10, .inr (.inr (.inr (.inr f_77))))), (q_78, .inr (9, F_81))] H := hP
    have hD : va_D A [(q, .inr (0, [.ref q_1, .ref q_3, .ref q_5, .ref q_7, .ref q_9, .int 0, .ref q_11, .ref q_13, .ref q_15, .ref q_17, .ref q_19, .null, .null, .int 0, .int 0, .int 0])), (q_1, .inl (c_2, 36, .inr (.inl fn))), (q_3, .inl (c_4, 144, .inl fk)), (q_5, .inl (c_6, 36, .inl fa)), (q_7, .inl (c_8, 36, .inl fw)), (q_9, .inl (c_10, 10, .inr (.inr (.inr (.inr f_77))))), (q_78, .inr (9, F_81))] := hD
    refine W.widen (k := 46) (n := 11599) (by omega) (by omega) ?_
    obtain ⟨w_80, K_82, K_83⟩ := w_80
    refine va_astq (r := (RX9, TX9, 4)) hx hb hK hP hD hS 5 4 6 9 rfl rfl rfl rfl (by unfold vp_in; decide) dX0_init_320 (fun H locs hP hD hS => ?_)
    obtain ⟨f_84, ef_84⟩ : ∃ g : Nat → Option Nat, g = va_up f_77 (8 : Int32).toNatClampNeg (some q_78) := ⟨_, rfl⟩
    rw [← ef_84] at hP hD
    have hP : va_P (dC, dI) cls [(q, .inr (0, [.ref q_1, .ref q_3, .ref q_5, .ref q_7, .ref q_9, .int 0, .ref q_11, .ref q_13, .ref q_15, .ref q_17, .ref q_19, .null, .null, .int 0, .int 0, .int 0])), (q_1, .inl (c_2, 36, .inr (.inl fn))), (q_3, .inl (c_4, 144, .inl fk)), (q_5, .inl (c_6, 36, .inl fa)), (q_7, .inl (c_8, 36, .inl fw)), (q_9, .inl (c_10, 10, .inr (.inr (.inr (.inr f_84))))), (q_78, .inr (9, F_81))] H := hP
    have hD : va_D A [(q, .inr (0, [.ref q_1, .ref q_3, .ref q_5, .ref q_7, .ref q_9, .int 0, .ref q_11, .ref q_13, .ref q_15, .ref q_17, .ref q_19, .null, .null, .int 0, .int 0, .int 0])), (q_1, .inl (c_2, 36, .inr (.inl fn))), (q_3, .inl (c_4, 144, .inl fk)), (q_5, .inl (c_6, 36, .inl fa)), (q_7, .inl (c_8, 36, .inl fw)), (q_9, .inl (c_10, 10, .inr (.inr (.inr (.inr f_84))))), (q_78, .inr (9, F_81))] := hD
    have hP := hP.sub (ws' := [(q, .inr (0, [.ref q_1, .ref q_3, .ref q_5, .ref q_7, .ref q_9, .int 0, .ref q_11, .ref q_13, .ref q_15, .ref q_17, .ref q_19, .null, .null, .int 0, .int 0, .int 0])), (q_1, .inl (c_2, 36, .inr (.inl fn))), (q_3, .inl (c_4, 144, .inl fk)), (q_5, .inl (c_6, 36, .inl fa)), (q_7, .inl (c_8, 36, .inl fw)), (q_9, .inl (c_10, 10, .inr (.inr (.inr (.inr f_84)))))]) [0, 1, 2, 3, 4, 5] rfl
    have hD := hD.sub (ws' := [(q, .inr (0, [.ref q_1, .ref q_3, .ref q_5, .ref q_7, .ref q_9, .int 0, .ref q_11, .ref q_13, .ref q_15, .ref q_17, .ref q_19, .null, .null, .int 0, .int 0, .int 0])), (q_1, .inl (c_2, 36, .inr (.inl fn))), (q_3, .inl (c_4, 144, .inl fk)), (q_5, .inl (c_6, 36, .inl fa)), (q_7, .inl (c_8, 36, .inl fw)), (q_9, .inl (c_10, 10, .inr (.inr (.inr (.inr f_84)))))]) [0, 1, 2, 3, 4, 5] (by decide) rfl
    refine lv_iinc (v := 9) (lv' := [(3, .int 9), (2, .int (nI (kp k))), (1, .int (nI na)), (0, .ref q)]) hx hb dX0_init_321 hl (k := 0) rfl (by decide) (by decide) rfl (fun ls hl => ?_)
    refine lv_goto (tgt := 300) hx hb dX0_init_324 (by decide) ?_
    refine lv_iload_n hx hb dX0_init_300 rfl (lv_at hl 0 rfl) ?_
    refine lv_bipush (v := 10) hx hb dX0_init_301 (by decide) ?_
    refine lv_icmp_ge (tgt := 327) hx hb dX0_init_303 (by decide) (fun c0 => absurd c0 (by decide)) (fun _ => ?_)
    refine lv_aload_n hx hb dX0_init_306 rfl (lv_at hl 3 rfl) ?_
    refine va_get (D := (dC, dI)) (ci := 0) (v := .ref q_9) (C := RX0) (T := TX0) (N := 16) hx hb ht uX0 hown hK hP 0 rfl rfl 4 (by decide) (ht _ k_1_155) (fun _ h9 => h9) rfl dX0_init_307 ?_
    refine lv_iload_n hx hb dX0_init_310 rfl (lv_at hl 0 rfl) ?_
    refine va_new (ci := 9) (fs := [.null, .null, .null, .int 0]) (C := RX9) (T := TX9) (N := 4) hx hb ht uX9 tyX9 tkX9 hown (ht _ k_1_44) (ht _ k_1_101) (ht _ k_1_7) hK hP hD hS hA rfl (by decide +kernel) (Nat.le_of_ble_eq_true rfl) (Nat.le_of_ble_eq_true rfl) dX0_init_311 (fun q_85 H hP hD hS => ?_)
    have hP : va_P (dC, dI) cls [(q, .inr (0, [.ref q_1, .ref q_3, .ref q_5, .ref q_7, .ref q_9, .int 0, .ref q_11, .ref q_13, .ref q_15, .ref q_17, .ref q_19, .null, .null, .int 0, .int 0, .int 0])), (q_1, .inl (c_2, 36, .inr (.inl fn))), (q_3, .inl (c_4, 144, .inl fk)), (q_5, .inl (c_6, 36, .inl fa)), (q_7, .inl (c_8, 36, .inl fw)), (q_9, .inl (c_10, 10, .inr (.inr (.inr (.inr f_84))))), (q_85, .inr (9, [.null, .null, .null, .int 0]))] H := hP
    have hD : va_D A [(q, .inr (0, [.ref q_1, .ref q_3, .ref q_5, .ref q_7, .ref q_9, .int 0, .ref q_11, .ref q_13, .ref q_15, .ref q_17, .ref q_19, .null, .null, .int 0, .int 0, .int 0])), (q_1, .inl (c_2, 36, .inr (.inl fn))), (q_3, .inl (c_4, 144, .inl fk)), (q_5, .inl (c_6, 36, .inl fa)), (q_7, .inl (c_8, 36, .inl fw)), (q_9, .inl (c_10, 10, .inr (.inr (.inr (.inr f_84))))), (q_85, .inr (9, [.null, .null, .null, .int 0]))] := hD
    refine W.widen (k := 47) (n := 11603) (by omega) (by omega) ?_
    refine lv_dup hx hb dX0_init_314 rfl ?_
    refine lv_bipush (v := 121) hx hb dX0_init_315 (by decide) ?_
    refine ca_v (wr := [(q, .inr (0, [.ref q_1, .ref q_3, .ref q_5, .ref q_7, .ref q_9, .int 0, .ref q_11, .ref q_13, .ref q_15, .ref q_17, .ref q_19, .null, .null, .int 0, .int 0, .int 0])), (q_1, .inl (c_2, 36, .inr (.inl fn))), (q_3, .inl (c_4, 144, .inl fk)), (q_5, .inl (c_6, 36, .inl fa)), (q_7, .inl (c_8, 36, .inl fw)), (q_9, .inl (c_10, 10, .inr (.inr (.inr (.inr f_84)))))]) (va_runI (As := [.int 121]) (rest := [.ref q_85, .int 9, .ref q_9]) ⟨hx, hb, hml, hown, ht⟩ (k9_121 l dC dI H.size q_85  ) (cwI 1 ht (gdI k_1_104) rfl rfl rfl (ht _ k_1_7) (ht _ k_1_102) (ht _ k_1_103) rfl (by decide +kernel) ⟨Nat.le_of_ble_eq_true rfl, Nat.le_of_ble_eq_true rfl⟩) ⟨pcw_blind, pcw_at hP hD hK [6] [] (by decide) rfl rfl rfl⟩ rfl rfl hl.1 rfl (lv_room (Nat.le_of_ble_eq_true rfl)) dX0_init_317 ⟨Nat.le_of_ble_eq_true rfl, Nat.le_of_ble_eq_true rfl⟩) hP hD hK hS hA [6] [0, 1, 2, 3, 4, 5] rfl rfl (by decide) (by decide) (fun u H locs w_87 hK hP hD hS => ?_)
    obtain ⟨F_88, rfl⟩ : ∃ z, z = u := ⟨_, rfl⟩
    have hK : va_K (dC, dI) cls [(c_2, .long), (c_4, .int), (c_6, .int), (c_8, .int), (c_10, .object "FinderHouse$Term"), (c_12, .boolean), (c_14, .int), (c_16, .int), (c_18, .int), (c_20, .int)] s := hK
    have hP : va_P (dC, dI) cls [(q, .inr (0, [.ref q_1, .ref q_3, .ref q_5, .ref q_7, .ref q_9, .int 0, .ref q_11, .ref q_13, .ref q_15, .ref q_17, .ref q_19, .null, .null, .int 0, .int 0, .int 0])), (q_1, .inl (c_2, 36, .inr (.inl fn))), (q_3, .inl (c_4, 144, .inl fk)), (q_5, .inl (c_6, 36, .inl fa)), (q_7, .inl (c_8, 36, .inl fw)), (q_9, .inl (c_10, 10, .inr (.inr (.inr (.inr f_84))))), (q_85, .inr (9, F_88))] H := hP
    have hD : va_D A [(q, .inr (0, [.ref q_1, .ref q_3, .ref q_5, .ref q_7, .ref q_9, .int 0, .ref q_11, .ref q_13, .ref q_15, .ref q_17, .ref q_19, .null, .null, .int 0, .int 0, .int 0])), (q_1, .inl (c_2, 36, .inr (.inl fn))), (q_3, .inl (c_4, 144, .inl fk)), (q_5, .inl (c_6, 36, .inl fa)), (q_7, .inl (c_8, 36, .inl fw)), (q_9, .inl (c_10, 10, .inr (.inr (.inr (.inr f_84))))), (q_85, .inr (9, F_88))] := hD
    refine W.widen (k := 50) (n := 11966) (by omega) (by omega) ?_
    obtain ⟨w_87, K_89, K_90⟩ := w_87
    refine va_astq (r := (RX9, TX9, 4)) hx hb hK hP hD hS 5 4 6 9 rfl rfl rfl rfl (by unfold vp_in; decide) dX0_init_320 (fun H locs hP hD hS => ?_)
    obtain ⟨f_91, ef_91⟩ : ∃ g : Nat → Option Nat, g = va_up f_84 (9 : Int32).toNatClampNeg (some q_85) := ⟨_, rfl⟩
    rw [← ef_91] at hP hD
    have hP : va_P (dC, dI) cls [(q, .inr (0, [.ref q_1, .ref q_3, .ref q_5, .ref q_7, .ref q_9, .int 0, .ref q_11, .ref q_13, .ref q_15, .ref q_17, .ref q_19, .null, .null, .int 0, .int 0, .int 0])), (q_1, .inl (c_2, 36, .inr (.inl fn))), (q_3, .inl (c_4, 144, .inl fk)), (q_5, .inl (c_6, 36, .inl fa)), (q_7, .inl (c_8, 36, .inl fw)), (q_9, .inl (c_10, 10, .inr (.inr (.inr (.inr f_91))))), (q_85, .inr (9, F_88))] H := hP
    have hD : va_D A [(q, .inr (0, [.ref q_1, .ref q_3, .ref q_5, .ref q_7, .ref q_9, .int 0, .ref q_11, .ref q_13, .ref q_15, .ref q_17, .ref q_19, .null, .null, .int 0, .int 0, .int 0])), (q_1, .inl (c_2, 36, .inr (.inl fn))), (q_3, .inl (c_4, 144, .inl fk)), (q_5, .inl (c_6, 36, .inl fa)), (q_7, .inl (c_8, 36, .inl fw)), (q_9, .inl (c_10, 10, .inr (.inr (.inr (.inr f_91))))), (q_85, .inr (9, F_88))] := hD
    have hP := hP.sub (ws' := [(q, .inr (0, [.ref q_1, .ref q_3, .ref q_5, .ref q_7, .ref q_9, .int 0, .ref q_11, .ref q_13, .ref q_15, .ref q_17, .ref q_19, .null, .null, .int 0, .int 0, .int 0])), (q_1, .inl (c_2, 36, .inr (.inl fn))), (q_3, .inl (c_4, 144, .inl fk)), (q_5, .inl (c_6, 36, .inl fa)), (q_7, .inl (c_8, 36, .inl fw)), (q_9, .inl (c_10, 10, .inr (.inr (.inr (.inr f_91)))))]) [0, 1, 2, 3, 4, 5] rfl
    have hD := hD.sub (ws' := [(q, .inr (0, [.ref q_1, .ref q_3, .ref q_5, .ref q_7, .ref q_9, .int 0, .ref q_11, .ref q_13, .ref q_15, .ref q_17, .ref q_19, .null, .null, .int 0, .int 0, .int 0])), (q_1, .inl (c_2, 36, .inr (.inl fn))), (q_3, .inl (c_4, 144, .inl fk)), (q_5, .inl (c_6, 36, .inl fa)), (q_7, .inl (c_8, 36, .inl fw)), (q_9, .inl (c_10, 10, .inr (.inr (.inr (.inr f_91)))))]) [0, 1, 2, 3, 4, 5] (by decide) rfl
    refine lv_iinc (v := 10) (lv' := [(3, .int 10), (2, .int (nI (kp k))), (1, .int (nI na)), (0, .ref q)]) hx hb dX0_init_321 hl (k := 0) rfl (by decide) (by decide) rfl (fun ls hl => ?_)
    refine lv_goto (tgt := 300) hx hb dX0_init_324 (by decide) ?_
    refine lv_iload_n hx hb dX0_init_300 rfl (lv_at hl 0 rfl) ?_
    refine lv_bipush (v := 10) hx hb dX0_init_301 (by decide) ?_
    refine lv_icmp_ge (tgt := 327) hx hb dX0_init_303 (by decide) (fun _ => ?_) (fun c0 => absurd c0 (by decide))
    exact W.vret hx hb hr (fun t ht9 hW => ⟨⟨([.ref q_1, .ref q_3, .ref q_5, .ref q_7, .ref q_9, .int 0, .ref q_11, .ref q_13, .ref q_15, .ref q_17, .ref q_19, .null, .null, .int 0, .int 0, .int 0]), rfl, ⟨trivial, rfl, rfl⟩, by rw [ht9]; exact hP.sub [0] rfl, va_K.moved hW.alike (hK.sub [] rfl), hD.sub [0] (by decide) rfl⟩, hS.F ht9⟩) hS.2.2 dX0_init_327
  · have hk26 : k < 26 := nI_ge26 hk b_21
    refine lp_rule (fun H locs ls => W p l e _ s m _ below meth c H locs _ _ _ (F0 m 102 ls [])) (fun (z : Nat × (Nat → Int64)) H locs ls => match z with | (na2, fn2) => va_P (dC, dI) cls [(q, .inr (0, [.ref q_1, .ref q_3, .ref q_5, .ref q_7, .ref q_9, .int 0, .ref q_11, .ref q_13, .ref q_15, .ref q_17, .ref q_19, .null, .null, .int 0, .int 0, .int 0])), (q_1, .inl (c_2, 36, .inr (.inl fn2))), (q_3, .inl (c_4, 144, .inl fk)), (q_5, .inl (c_6, 36, .inl fa)), (q_7, .inl (c_8, 36, .inl fw)), (q_9, .inl (c_10, 10, .inr (.inr (.inr (.inr (fun _ => none))))))] H ∧ va_D A [(q, .inr (0, [.ref q_1, .ref q_3, .ref q_5, .ref q_7, .ref q_9, .int 0, .ref q_11, .ref q_13, .ref q_15, .ref q_17, .ref q_19, .null, .null, .int 0, .int 0, .int 0])), (q_1, .inl (c_2, 36, .inr (.inl fn2))), (q_3, .inl (c_4, 144, .inl fk)), (q_5, .inl (c_6, 36, .inl fa)), (q_7, .inl (c_8, 36, .inl fw)), (q_9, .inl (c_10, 10, .inr (.inr (.inr (.inr (fun _ => none))))))] ∧ va_S A s.heap H locs ∧ lv_has ls 4 [(3, .int (nI k)), (2, .int (nI (kp k))), (1, .int (nI na2)), (0, .ref q)] ∧ True ∧ na2 ≤ 112 + k) (fun (z : Nat × (Nat → Int64)) => match z with | (na2, fn2) => 112 - na2) ?_ (na, fn) H locs ls ⟨hP, hD, hS, lv_sub hl [0, 1, 2, 3] rfl, trivial, hna⟩
    intro z H locs ls hI ih102
    obtain ⟨na2, fn2⟩ := z
    obtain ⟨hP, hD, hS, hl, -, hna2⟩ := hI
    have hP : va_P (dC, dI) cls [(q, .inr (0, [.ref q_1, .ref q_3, .ref q_5, .ref q_7, .ref q_9, .int 0, .ref q_11, .ref q_13, .ref q_15, .ref q_17, .ref q_19, .null, .null, .int 0, .int 0, .int 0])), (q_1, .inl (c_2, 36, .inr (.inl fn2))), (q_3, .inl (c_4, 144, .inl fk)), (q_5, .inl (c_6, 36, .inl fa)), (q_7, .inl (c_8, 36, .inl fw)), (q_9, .inl (c_10, 10, .inr (.inr (.inr (.inr (fun _ => none))))))] H := hP
    have hD : va_D A [(q, .inr (0, [.ref q_1, .ref q_3, .ref q_5, .ref q_7, .ref q_9, .int 0, .ref q_11, .ref q_13, .ref q_15, .ref q_17, .ref q_19, .null, .null, .int 0, .int 0, .int 0])), (q_1, .inl (c_2, 36, .inr (.inl fn2))), (q_3, .inl (c_4, 144, .inl fk)), (q_5, .inl (c_6, 36, .inl fa)), (q_7, .inl (c_8, 36, .inl fw)), (q_9, .inl (c_10, 10, .inr (.inr (.inr (.inr (fun _ => none))))))] := hD
    have hl : lv_has ls 4 [(3, .int (nI k)), (2, .int (nI (kp k))), (1, .int (nI na2)), (0, .ref q)] := hl
    refine lv_iload_n hx hb dX0_init_102 rfl (lv_at hl 2 rfl) ?_
    refine va_ldcS hx hb hown (xf_r hE 0 rfl) dX0_init_103 ?_
    refine ca_i (wr := [(q, .inr (0, [.ref q_1, .ref q_3, .ref q_5, .ref q_7, .ref q_9, .int 0, .ref q_11, .ref q_13, .ref q_15, .ref q_17, .ref q_19, .null, .null, .int 0, .int 0, .int 0])), (q_1, .inl (c_2, 36, .inr (.inl fn2))), (q_3, .inl (c_4, 144, .inl fk)), (q_5, .inl (c_6, 36, .inl fa)), (q_7, .inl (c_8, 36, .inl fw)), (q_9, .inl (c_10, 10, .inr (.inr (.inr (.inr (fun _ => none))))))]) (va_runV (As := []) (rest := [.int (nI na2)]) ⟨hx, hb, hml, hown, ht⟩ (j_length l dC dI H.size n1 m1 bsN  (by decide)) (cwV 0 ht (gdV k_1_50 k_1_47 k_1_48 k_1_49 k_1_3) rfl rfl rfl (by decide +kernel) ⟨Nat.le_of_ble_eq_true rfl, Nat.le_of_ble_eq_true rfl⟩) ⟨pcx_blind, st_recv (xf_s hE 2 rfl).1 hS, pcx_at hP hD hK hS hA hE [] [] [2, 4] (by decide) rfl rfl rfl rfl⟩ rfl rfl hl.1 rfl (lv_room (Nat.le_of_ble_eq_true rfl)) dX0_init_105 ⟨Nat.le_of_ble_eq_true rfl, Nat.le_of_ble_eq_true rfl⟩) hP hD hK hS hA [] [0, 1, 2, 3, 4, 5] rfl rfl (by decide) (by decide) (fun r_92 u H locs w_93 hK hP hD hS => ?_)
    have hK : va_K (dC, dI) cls [(c_2, .long), (c_4, .int), (c_6, .int), (c_8, .int), (c_10, .object "FinderHouse$Term"), (c_12, .boolean), (c_14, .int), (c_16, .int), (c_18, .int), (c_20, .int)] s := hK
    have hP : va_P (dC, dI) cls [(q, .inr (0, [.ref q_1, .ref q_3, .ref q_5, .ref q_7, .ref q_9, .int 0, .ref q_11, .ref q_13, .ref q_15, .ref q_17, .ref q_19, .null, .null, .int 0, .int 0, .int 0])), (q_1, .inl (c_2, 36, .inr (.inl fn2))), (q_3, .inl (c_4, 144, .inl fk)), (q_5, .inl (c_6, 36, .inl fa)), (q_7, .inl (c_8, 36, .inl fw)), (q_9, .inl (c_10, 10, .inr (.inr (.inr (.inr (fun _ => none))))))] H := hP
    have hD : va_D A [(q, .inr (0, [.ref q_1, .ref q_3, .ref q_5, .ref q_7, .ref q_9, .int 0, .ref q_11, .ref q_13, .ref q_15, .ref q_17, .ref q_19, .null, .null, .int 0, .int 0, .int 0])), (q_1, .inl (c_2, 36, .inr (.inl fn2))), (q_3, .inl (c_4, 144, .inl fk)), (q_5, .inl (c_6, 36, .inl fa)), (q_7, .inl (c_8, 36, .inl fw)), (q_9, .inl (c_10, 10, .inr (.inr (.inr (.inr (fun _ => none))))))] := hD
    obtain rfl : r_92 = 112 := w_93.trans (by decide)
    refine lv_icmp_ge (tgt := 158) hx hb dX0_init_108 (by decide) (fun b_94 => ?_) (fun b_94 => ?_)
    · obtain ⟨hkl2, hkl4, hkp, hkp1⟩ := kd_fit k hk26
      refine lp_rule (fun H locs ls => W p l e _ s m _ below meth c H locs _ _ _ (F0 m 158 ls [])) (fun (z : Nat × (Nat → Int32) × (Nat → Int32)) H locs ls => match z with | (a, fk2, fa2) => va_P (dC, dI) cls [(q, .inr (0, [.ref q_1, .ref q_3, .ref q_5, .ref q_7, .ref q_9, .int 0, .ref q_11, .ref q_13, .ref q_15, .ref q_17, .ref q_19, .null, .null, .int 0, .int 0, .int 0])), (q_1, .inl (c_2, 36, .inr (.inl fn2))), (q_3, .inl (c_4, 144, .inl fk2)), (q_5, .inl (c_6, 36, .inl fa2)), (q_7, .inl (c_8, 36, .inl fw)), (q_9, .inl (c_10, 10, .inr (.inr (.inr (.inr (fun _ => none))))))] H ∧ va_D A [(q, .inr (0, [.ref q_1, .ref q_3, .ref q_5, .ref q_7, .ref q_9, .int 0, .ref q_11, .ref q_13, .ref q_15, .ref q_17, .ref q_19, .null, .null, .int 0, .int 0, .int 0])), (q_1, .inl (c_2, 36, .inr (.inl fn2))), (q_3, .inl (c_4, 144, .inl fk2)), (q_5, .inl (c_6, 36, .inl fa2)), (q_7, .inl (c_8, 36, .inl fw)), (q_9, .inl (c_10, 10, .inr (.inr (.inr (.inr (fun _ => none))))))] ∧ va_S A s.heap H locs ∧ lv_has ls 4 [(3, .int (nI k)), (2, .int (nI (kp k + a))), (1, .int (nI na2)), (0, .ref q)] ∧ True ∧ a ≤ kl k ∧ fa2 k = nI a ∧ ∀ j, k < j → fa2 j = 0) (fun (z : Nat × (Nat → Int32) × (Nat → Int32)) => match z with | (a, fk2, fa2) => kl k - a) ?_ (0, fk, fa) H locs ls ⟨hP, hD, hS, lv_sub hl [0, 1, 2, 3] rfl, trivial, (Nat.zero_le _), (hfa k (Nat.le_refl k)), (fun j hj => hfa j (Nat.le_of_lt hj))⟩
      intro z H locs ls hI ih158
      obtain ⟨a, fk2, fa2⟩ := z
      obtain ⟨hP, hD, hS, hl, -, ha, hfk, hfj⟩ := hI
      have hP : va_P (dC, dI) cls [(q, .inr (0, [.ref q_1, .ref q_3, .ref q_5, .ref q_7, .ref q_9, .int 0, .ref q_11, .ref q_13, .ref q_15, .ref q_17, .ref q_19, .null, .null, .int 0, .int 0, .int 0])), (q_1, .inl (c_2, 36, .inr (.inl fn2))), (q_3, .inl (c_4, 144, .inl fk2)), (q_5, .inl (c_6, 36, .inl fa2)), (q_7, .inl (c_8, 36, .inl fw)), (q_9, .inl (c_10, 10, .inr (.inr (.inr (.inr (fun _ => none))))))] H := hP
      have hD : va_D A [(q, .inr (0, [.ref q_1, .ref q_3, .ref q_5, .ref q_7, .ref q_9, .int 0, .ref q_11, .ref q_13, .ref q_15, .ref q_17, .ref q_19, .null, .null, .int 0, .int 0, .int 0])), (q_1, .inl (c_2, 36, .inr (.inl fn2))), (q_3, .inl (c_4, 144, .inl fk2)), (q_5, .inl (c_6, 36, .inl fa2)), (q_7, .inl (c_8, 36, .inl fw)), (q_9, .inl (c_10, 10, .inr (.inr (.inr (.inr (fun _ => none))))))] := hD
      have hl : lv_has ls 4 [(3, .int (nI k)), (2, .int (nI (kp k + a))), (1, .int (nI na2)), (0, .ref q)] := hl
      refine lv_iload_n hx hb dX0_init_158 rfl (lv_at hl 1 rfl) ?_
      refine va_ldcS hx hb hown (xf_r hE 1 rfl) dX0_init_159 ?_
      refine ca_i (wr := [(q, .inr (0, [.ref q_1, .ref q_3, .ref q_5, .ref q_7, .ref q_9, .int 0, .ref q_11, .ref q_13, .ref q_15, .ref q_17, .ref q_19, .null, .null, .int 0, .int 0, .int 0])), (q_1, .inl (c_2, 36, .inr (.inl fn2))), (q_3, .inl (c_4, 144, .inl fk2)), (q_5, .inl (c_6, 36, .inl fa2)), (q_7, .inl (c_8, 36, .inl fw)), (q_9, .inl (c_10, 10, .inr (.inr (.inr (.inr (fun _ => none))))))]) (va_runV (As := []) (rest := [.int (nI (kp k + a))]) ⟨hx, hb, hml, hown, ht⟩ (j_length l dC dI H.size n2 m2 bsK  (by decide)) (cwV 0 ht (gdV k_1_50 k_1_47 k_1_48 k_1_49 k_1_3) rfl rfl rfl (by decide +kernel) ⟨Nat.le_of_ble_eq_true rfl, Nat.le_of_ble_eq_true rfl⟩) ⟨pcx_blind, st_recv (xf_s hE 3 rfl).1 hS, pcx_at hP hD hK hS hA hE [] [] [3, 4] (by decide) rfl rfl rfl rfl⟩ rfl rfl hl.1 rfl (lv_room (Nat.le_of_ble_eq_true rfl)) dX0_init_161 ⟨Nat.le_of_ble_eq_true rfl, Nat.le_of_ble_eq_true rfl⟩) hP hD hK hS hA [] [0, 1, 2, 3, 4, 5] rfl rfl (by decide) (by decide) (fun r_95 u H locs w_96 hK hP hD hS => ?_)
      have hK : va_K (dC, dI) cls [(c_2, .long), (c_4, .int), (c_6, .int), (c_8, .int), (c_10, .object "FinderHouse$Term"), (c_12, .boolean), (c_14, .int), (c_16, .int), (c_18, .int), (c_20, .int)] s := hK
      have hP : va_P (dC, dI) cls [(q, .inr (0, [.ref q_1, .ref q_3, .ref q_5, .ref q_7, .ref q_9, .int 0, .ref q_11, .ref q_13, .ref q_15, .ref q_17, .ref q_19, .null, .null, .int 0, .int 0, .int 0])), (q_1, .inl (c_2, 36, .inr (.inl fn2))), (q_3, .inl (c_4, 144, .inl fk2)), (q_5, .inl (c_6, 36, .inl fa2)), (q_7, .inl (c_8, 36, .inl fw)), (q_9, .inl (c_10, 10, .inr (.inr (.inr (.inr (fun _ => none))))))] H := hP
      have hD : va_D A [(q, .inr (0, [.ref q_1, .ref q_3, .ref q_5, .ref q_7, .ref q_9, .int 0, .ref q_11, .ref q_13, .ref q_15, .ref q_17, .ref q_19, .null, .null, .int 0, .int 0, .int 0])), (q_1, .inl (c_2, 36, .inr (.inl fn2))), (q_3, .inl (c_4, 144, .inl fk2)), (q_5, .inl (c_6, 36, .inl fa2)), (q_7, .inl (c_8, 36, .inl fw)), (q_9, .inl (c_10, 10, .inr (.inr (.inr (.inr (fun _ => none))))))] := hD
      obtain rfl : r_95 = 100 := w_96.trans (by decide)
      refine lv_icmp_ge (tgt := 218) hx hb dX0_init_164 (by decide) (fun c0 => absurd c0 ((show ¬ nI 100 ≤ nI (kp k + a) from nI_ge (by omega) (by decide)))) (fun _ => ?_)
      refine va_ldcS hx hb hown (xf_r hE 1 rfl) dX0_init_167 ?_
      refine lv_iload_n hx hb dX0_init_169 rfl (lv_at hl 1 rfl) ?_
      refine ca_i (wr := [(q, .inr (0, [.ref q_1, .ref q_3, .ref q_5, .ref q_7, .ref q_9, .int 0, .ref q_11, .ref q_13, .ref q_15, .ref q_17, .ref q_19, .null, .null, .int 0, .int 0, .int 0])), (q_1, .inl (c_2, 36, .inr (.inl fn2))), (q_3, .inl (c_4, 144, .inl fk2)), (q_5, .inl (c_6, 36, .inl fa2)), (q_7, .inl (c_8, 36, .inl fw)), (q_9, .inl (c_10, 10, .inr (.inr (.inr (.inr (fun _ => none))))))]) (va_runV (As := [.int (nI (kp k + a))]) (rest := []) ⟨hx, hb, hml, hown, ht⟩ (j_charAt l dC dI H.size n2 m2 bsK (nI (kp k + a))  (vp_in_nI (show kp k + a < bsK.length by rw [kd_len]; omega) (by decide)) (by decide)) (cwV 1 ht (gdV k_1_60 k_1_57 k_1_58 k_1_59 k_1_3) rfl rfl rfl (by decide +kernel) ⟨Nat.le_of_ble_eq_true rfl, Nat.le_of_ble_eq_true rfl⟩) ⟨pcx_blind, st_recv (xf_s hE 3 rfl).1 hS, pcx_at hP hD hK hS hA hE [] [] [3, 4, 5] (by decide) rfl rfl rfl rfl⟩ rfl rfl hl.1 rfl (lv_room (Nat.le_of_ble_eq_true rfl)) dX0_init_170 ⟨Nat.le_of_ble_eq_true rfl, Nat.le_of_ble_eq_true rfl⟩) hP hD hK hS hA [] [0, 1, 2, 3, 4, 5] rfl rfl (by decide) (by decide) (fun r_97 u H locs w_98 hK hP hD hS => ?_)
      have hK : va_K (dC, dI) cls [(c_2, .long), (c_4, .int), (c_6, .int), (c_8, .int), (c_10, .object "FinderHouse$Term"), (c_12, .boolean), (c_14, .int), (c_16, .int), (c_18, .int), (c_20, .int)] s := hK
      have hP : va_P (dC, dI) cls [(q, .inr (0, [.ref q_1, .ref q_3, .ref q_5, .ref q_7, .ref q_9, .int 0, .ref q_11, .ref q_13, .ref q_15, .ref q_17, .ref q_19, .null, .null, .int 0, .int 0, .int 0])), (q_1, .inl (c_2, 36, .inr (.inl fn2))), (q_3, .inl (c_4, 144, .inl fk2)), (q_5, .inl (c_6, 36, .inl fa2)), (q_7, .inl (c_8, 36, .inl fw)), (q_9, .inl (c_10, 10, .inr (.inr (.inr (.inr (fun _ => none))))))] H := hP
      have hD : va_D A [(q, .inr (0, [.ref q_1, .ref q_3, .ref q_5, .ref q_7, .ref q_9, .int 0, .ref q_11, .ref q_13, .ref q_15, .ref q_17, .ref q_19, .null, .null, .int 0, .int 0, .int 0])), (q_1, .inl (c_2, 36, .inr (.inl fn2))), (q_3, .inl (c_4, 144, .inl fk2)), (q_5, .inl (c_6, 36, .inl fa2)), (q_7, .inl (c_8, 36, .inl fw)), (q_9, .inl (c_10, 10, .inr (.inr (.inr (.inr (fun _ => none))))))] := hD
      refine lv_bipush (v := 32) hx hb dX0_init_173 (by decide) ?_
      refine lv_icmp_eq (tgt := 218) hx hb dX0_init_175 (by decide) (fun b_99 => ?_) (fun b_99 => ?_)
      · have hak : a = kl k := (kd_chr k hk26 a (by omega) ha).mp (w_98.symm.trans b_99)
        refine lv_aload_n hx hb dX0_init_218 rfl (lv_at hl 3 rfl) ?_
        refine va_get (D := (dC, dI)) (ci := 0) (v := .ref q_5) (C := RX0) (T := TX0) (N := 16) hx hb ht uX0 hown hK hP 0 rfl rfl 2 (by decide) (ht _ k_1_148) (fun _ h9 => h9) rfl dX0_init_219 ?_
        refine lv_iload_n hx hb dX0_init_222 rfl (lv_at hl 0 rfl) ?_
        refine lv_dup2_11 hx hb dX0_init_223 rfl rfl ?_
        refine va_iald hx hb hK hP 3 2 rfl rfl (vp_in_nI (by omega) (by decide)) dX0_init_224 ?_
        refine tk_i (y := (nI a)) (by rw [nI_clamp (by omega)]; exact hfk) ?_
        refine lv_iconst (v := 1) hx hb dX0_init_225 (by decide) ?_
        refine lv_isub hx hb dX0_init_226 ?_
        refine tk_i (y := (nI (a - 1))) (by rw [show a = (a - 1) + 1 by omega]; exact nI_pred _) ?_
        refine va_iast (i := (nI k)) (x := (nI (a - 1))) hx hb hK hP hD hS 3 2 rfl rfl (vp_in_nI (by omega) (by decide)) dX0_init_227 (fun H locs hP hD hS => ?_)
        obtain ⟨f_100, ef_100⟩ : ∃ g : Nat → Int32, g = upd fa2 (nI k).toNatClampNeg (nI (a - 1)) := ⟨_, rfl⟩
        rw [← ef_100] at hP hD
        have hP : va_P (dC, dI) cls [(q, .inr (0, [.ref q_1, .ref q_3, .ref q_5, .ref q_7, .ref q_9, .int 0, .ref q_11, .ref q_13, .ref q_15, .ref q_17, .ref q_19, .null, .null, .int 0, .int 0, .int 0])), (q_1, .inl (c_2, 36, .inr (.inl fn2))), (q_3, .inl (c_4, 144, .inl fk2)), (q_5, .inl (c_6, 36, .inl f_100)), (q_7, .inl (c_8, 36, .inl fw)), (q_9, .inl (c_10, 10, .inr (.inr (.inr (.inr (fun _ => none))))))] H := hP
        have hD : va_D A [(q, .inr (0, [.ref q_1, .ref q_3, .ref q_5, .ref q_7, .ref q_9, .int 0, .ref q_11, .ref q_13, .ref q_15, .ref q_17, .ref q_19, .null, .null, .int 0, .int 0, .int 0])), (q_1, .inl (c_2, 36, .inr (.inl fn2))), (q_3, .inl (c_4, 144, .inl fk2)), (q_5, .inl (c_6, 36, .inl f_100)), (q_7, .inl (c_8, 36, .inl fw)), (q_9, .inl (c_10, 10, .inr (.inr (.inr (.inr (fun _ => none))))))] := hD
        have hfk4 : f_100 k = nI (a - 1) := by rw [ef_100, nI_clamp (by omega)]; exact pk_us
        have hfa3 : ∀ j, k + 1 ≤ j → f_100 j = 0 := fun j hj => by rw [ef_100, nI_clamp (by omega), pk_un (by omega)]; exact hfj j (by omega)
        refine lv_aload_n hx hb dX0_init_228 rfl (lv_at hl 3 rfl) ?_
        refine va_get (D := (dC, dI)) (ci := 0) (v := .ref q_3) (C := RX0) (T := TX0) (N := 16) hx hb ht uX0 hown hK hP 0 rfl rfl 1 (by decide) (ht _ k_1_142) (fun _ h9 => h9) rfl dX0_init_229 ?_
        refine lv_iload_n hx hb dX0_init_232 rfl (lv_at hl 0 rfl) ?_
        refine lv_iconst (v := 4) hx hb dX0_init_233 (by decide) ?_
        refine lv_imul hx hb dX0_init_234 ?_
        refine tk_i (y := (nI (k * 4))) (pk_mul k 4) ?_
        refine lv_iconst (v := 3) hx hb dX0_init_235 (by decide) ?_
        refine lv_iadd hx hb dX0_init_236 ?_
        refine tk_i (y := (nI (k * 4 + 3))) (nI_add _ 3) ?_
        refine lv_aload_n hx hb dX0_init_237 rfl (lv_at hl 3 rfl) ?_
        refine va_get (D := (dC, dI)) (ci := 0) (v := .ref q_3) (C := RX0) (T := TX0) (N := 16) hx hb ht uX0 hown hK hP 0 rfl rfl 1 (by decide) (ht _ k_1_142) (fun _ h9 => h9) rfl dX0_init_238 ?_
        refine lv_iload_n hx hb dX0_init_241 rfl (lv_at hl 0 rfl) ?_
        refine lv_iconst (v := 4) hx hb dX0_init_242 (by decide) ?_
        refine lv_imul hx hb dX0_init_243 ?_
        refine tk_i (y := (nI (k * 4))) (pk_mul k 4) ?_
        refine lv_aload_n hx hb dX0_init_244 rfl (lv_at hl 3 rfl) ?_
        refine va_get (D := (dC, dI)) (ci := 0) (v := .ref q_5) (C := RX0) (T := TX0) (N := 16) hx hb ht uX0 hown hK hP 0 rfl rfl 2 (by decide) (ht _ k_1_148) (fun _ h9 => h9) rfl dX0_init_245 ?_
        refine lv_iload_n hx hb dX0_init_248 rfl (lv_at hl 0 rfl) ?_
        refine va_iald hx hb hK hP 3 2 rfl rfl (vp_in_nI (by omega) (by decide)) dX0_init_249 ?_
        refine tk_i (y := (nI (a - 1))) (by rw [nI_clamp (by omega)]; exact hfk4) ?_
        refine lv_iadd hx hb dX0_init_250 ?_
        refine tk_i (y := (nI (k * 4 + (a - 1)))) (nI_add _ _) ?_
        refine va_iald hx hb hK hP 2 1 rfl rfl (vp_in_nI (by omega) (by decide)) dX0_init_251 ?_
        refine lv_topi (fun x_101 ex_101 => ?_)
        refine va_iast (i := (nI (k * 4 + 3))) (x := x_101) hx hb hK hP hD hS 2 1 rfl rfl (vp_in_nI (by omega) (by decide)) dX0_init_252 (fun H locs hP hD hS => ?_)
        obtain ⟨f_102, ef_102⟩ : ∃ g : Nat → Int32, g = upd fk2 (nI (k * 4 + 3)).toNatClampNeg x_101 := ⟨_, rfl⟩
        rw [← ef_102] at hP hD
        have hP : va_P (dC, dI) cls [(q, .inr (0, [.ref q_1, .ref q_3, .ref q_5, .ref q_7, .ref q_9, .int 0, .ref q_11, .ref q_13, .ref q_15, .ref q_17, .ref q_19, .null, .null, .int 0, .int 0, .int 0])), (q_1, .inl (c_2, 36, .inr (.inl fn2))), (q_3, .inl (c_4, 144, .inl f_102)), (q_5, .inl (c_6, 36, .inl f_100)), (q_7, .inl (c_8, 36, .inl fw)), (q_9, .inl (c_10, 10, .inr (.inr (.inr (.inr (fun _ => none))))))] H := hP
        have hD : va_D A [(q, .inr (0, [.ref q_1, .ref q_3, .ref q_5, .ref q_7, .ref q_9, .int 0, .ref q_11, .ref q_13, .ref q_15, .ref q_17, .ref q_19, .null, .null, .int 0, .int 0, .int 0])), (q_1, .inl (c_2, 36, .inr (.inl fn2))), (q_3, .inl (c_4, 144, .inl f_102)), (q_5, .inl (c_6, 36, .inl f_100)), (q_7, .inl (c_8, 36, .inl fw)), (q_9, .inl (c_10, 10, .inr (.inr (.inr (.inr (fun _ => none))))))] := hD
        refine lv_aload_n hx hb dX0_init_253 rfl (lv_at hl 3 rfl) ?_
        refine va_get (D := (dC, dI)) (ci := 0) (v := .ref q_5) (C := RX0) (T := TX0) (N := 16) hx hb ht uX0 hown hK hP 0 rfl rfl 2 (by decide) (ht _ k_1_148) (fun _ h9 => h9) rfl dX0_init_254 ?_
        refine lv_iload_n hx hb dX0_init_257 rfl (lv_at hl 0 rfl) ?_
        refine va_iald hx hb hK hP 3 2 rfl rfl (vp_in_nI (by omega) (by decide)) dX0_init_258 ?_
        refine tk_i (y := (nI (a - 1))) (by rw [nI_clamp (by omega)]; exact hfk4) ?_
        refine lv_iconst (v := 3) hx hb dX0_init_259 (by decide) ?_
        refine lv_icmp_ge (tgt := 279) hx hb dX0_init_260 (by decide) (fun b_103 => ?_) (fun b_103 => ?_)
        · refine lv_aload_n hx hb dX0_init_279 rfl (lv_at hl 3 rfl) ?_
          refine va_get (D := (dC, dI)) (ci := 0) (v := .ref q_7) (C := RX0) (T := TX0) (N := 16) hx hb ht uX0 hown hK hP 0 rfl rfl 3 (by decide) (ht _ k_1_153) (fun _ h9 => h9) rfl dX0_init_280 ?_
          refine lv_iload_n hx hb dX0_init_283 rfl (lv_at hl 0 rfl) ?_
          refine lv_iconst (v := 1) hx hb dX0_init_284 (by decide) ?_
          refine va_iast (i := (nI k)) (x := 1) hx hb hK hP hD hS 4 3 rfl rfl (vp_in_nI (by omega) (by decide)) dX0_init_285 (fun H locs hP hD hS => ?_)
          obtain ⟨f_104, ef_104⟩ : ∃ g : Nat → Int32, g = upd fw (nI k).toNatClampNeg 1 := ⟨_, rfl⟩
          rw [← ef_104] at hP hD
          have hP : va_P (dC, dI) cls [(q, .inr (0, [.ref q_1, .ref q_3, .ref q_5, .ref q_7, .ref q_9, .int 0, .ref q_11, .ref q_13, .ref q_15, .ref q_17, .ref q_19, .null, .null, .int 0, .int 0, .int 0])), (q_1, .inl (c_2, 36, .inr (.inl fn2))), (q_3, .inl (c_4, 144, .inl f_102)), (q_5, .inl (c_6, 36, .inl f_100)), (q_7, .inl (c_8, 36, .inl f_104)), (q_9, .inl (c_10, 10, .inr (.inr (.inr (.inr (fun _ => none))))))] H := hP
          have hD : va_D A [(q, .inr (0, [.ref q_1, .ref q_3, .ref q_5, .ref q_7, .ref q_9, .int 0, .ref q_11, .ref q_13, .ref q_15, .ref q_17, .ref q_19, .null, .null, .int 0, .int 0, .int 0])), (q_1, .inl (c_2, 36, .inr (.inl fn2))), (q_3, .inl (c_4, 144, .inl f_102)), (q_5, .inl (c_6, 36, .inl f_100)), (q_7, .inl (c_8, 36, .inl f_104)), (q_9, .inl (c_10, 10, .inr (.inr (.inr (.inr (fun _ => none))))))] := hD
          refine lv_iinc (v := (nI (na2 + 1))) (lv' := [(1, .int (nI (na2 + 1))), (3, .int (nI k)), (2, .int (nI (kp k + a))), (0, .ref q)]) hx hb dX0_init_286 hl (k := 2) rfl (nI_1 na2) (by decide) rfl (fun ls hl => ?_)
          refine lv_iinc (v := (nI (kp (k + 1)))) (lv' := [(2, .int (nI (kp (k + 1)))), (1, .int (nI (na2 + 1))), (3, .int (nI k)), (0, .ref q)]) hx hb dX0_init_289 hl (k := 2) rfl (by rw [hkp1, ← hak]; exact nI_1 _) (by decide) rfl (fun ls hl => ?_)
          refine lv_iinc (v := (nI (k + 1))) (lv' := [(3, .int (nI (k + 1))), (2, .int (nI (kp (k + 1)))), (1, .int (nI (na2 + 1))), (0, .ref q)]) hx hb dX0_init_292 hl (k := 2) rfl (nI_1 k) (by decide) rfl (fun ls hl => ?_)
          refine lv_goto (tgt := 96) hx hb dX0_init_295 (by decide) ?_
          exact ih96 (k + 1, na2 + 1, fn2, f_102, f_100, f_104) H locs ls (show 26 - (k + 1) < 26 - k by omega) ⟨hP.sub [0, 1, 2, 3, 4, 5] rfl, hD.sub [0, 1, 2, 3, 4, 5] (by decide) rfl, hS, lv_sub hl [0, 1, 2, 3] rfl, trivial, (by omega), (by omega), hfa3⟩
        · refine lv_aload_n hx hb dX0_init_263 rfl (lv_at hl 3 rfl) ?_
          refine va_get (D := (dC, dI)) (ci := 0) (v := .ref q_3) (C := RX0) (T := TX0) (N := 16) hx hb ht uX0 hown hK hP 0 rfl rfl 1 (by decide) (ht _ k_1_142) (fun _ h9 => h9) rfl dX0_init_264 ?_
          refine lv_iload_n hx hb dX0_init_267 rfl (lv_at hl 0 rfl) ?_
          refine lv_iconst (v := 4) hx hb dX0_init_268 (by decide) ?_
          refine lv_imul hx hb dX0_init_269 ?_
          refine tk_i (y := (nI (k * 4))) (pk_mul k 4) ?_
          refine lv_aload_n hx hb dX0_init_270 rfl (lv_at hl 3 rfl) ?_
          refine va_get (D := (dC, dI)) (ci := 0) (v := .ref q_5) (C := RX0) (T := TX0) (N := 16) hx hb ht uX0 hown hK hP 0 rfl rfl 2 (by decide) (ht _ k_1_148) (fun _ h9 => h9) rfl dX0_init_271 ?_
          refine lv_iload_n hx hb dX0_init_274 rfl (lv_at hl 0 rfl) ?_
          refine va_iald hx hb hK hP 3 2 rfl rfl (vp_in_nI (by omega) (by decide)) dX0_init_275 ?_
          refine tk_i (y := (nI (a - 1))) (by rw [nI_clamp (by omega)]; exact hfk4) ?_
          refine lv_iadd hx hb dX0_init_276 ?_
          refine tk_i (y := (nI (k * 4 + (a - 1)))) (nI_add _ _) ?_
          refine lv_iconst (v := 0) hx hb dX0_init_277 (by decide) ?_
          refine va_iast (i := (nI (k * 4 + (a - 1)))) (x := 0) hx hb hK hP hD hS 2 1 rfl rfl (vp_in_nI (by omega) (by decide)) dX0_init_278 (fun H locs hP hD hS => ?_)
          obtain ⟨f_105, ef_105⟩ : ∃ g : Nat → Int32, g = upd f_102 (nI (k * 4 + (a - 1))).toNatClampNeg 0 := ⟨_, rfl⟩
          rw [← ef_105] at hP hD
          have hP : va_P (dC, dI) cls [(q, .inr (0, [.ref q_1, .ref q_3, .ref q_5, .ref q_7, .ref q_9, .int 0, .ref q_11, .ref q_13, .ref q_15, .ref q_17, .ref q_19, .null, .null, .int 0, .int 0, .int 0])), (q_1, .inl (c_2, 36, .inr (.inl fn2))), (q_3, .inl (c_4, 144, .inl f_105)), (q_5, .inl (c_6, 36, .inl f_100)), (q_7, .inl (c_8, 36, .inl fw)), (q_9, .inl (c_10, 10, .inr (.inr (.inr (.inr (fun _ => none))))))] H := hP
          have hD : va_D A [(q, .inr (0, [.ref q_1, .ref q_3, .ref q_5, .ref q_7, .ref q_9, .int 0, .ref q_11, .ref q_13, .ref q_15, .ref q_17, .ref q_19, .null, .null, .int 0, .int 0, .int 0])), (q_1, .inl (c_2, 36, .inr (.inl fn2))), (q_3, .inl (c_4, 144, .inl f_105)), (q_5, .inl (c_6, 36, .inl f_100)), (q_7, .inl (c_8, 36, .inl fw)), (q_9, .inl (c_10, 10, .inr (.inr (.inr (.inr (fun _ => none))))))] := hD
          refine lv_aload_n hx hb dX0_init_279 rfl (lv_at hl 3 rfl) ?_
          refine va_get (D := (dC, dI)) (ci := 0) (v := .ref q_7) (C := RX0) (T := TX0) (N := 16) hx hb ht uX0 hown hK hP 0 rfl rfl 3 (by decide) (ht _ k_1_153) (fun _ h9 => h9) rfl dX0_init_280 ?_
          refine lv_iload_n hx hb dX0_init_283 rfl (lv_at hl 0 rfl) ?_
          refine lv_iconst (v := 1) hx hb dX0_init_284 (by decide) ?_
          refine va_iast (i := (nI k)) (x := 1) hx hb hK hP hD hS 4 3 rfl rfl (vp_in_nI (by omega) (by decide)) dX0_init_285 (fun H locs hP hD hS => ?_)
          obtain ⟨f_106, ef_106⟩ : ∃ g : Nat → Int32, g = upd fw (nI k).toNatClampNeg 1 := ⟨_, rfl⟩
          rw [← ef_106] at hP hD
          have hP : va_P (dC, dI) cls [(q, .inr (0, [.ref q_1, .ref q_3, .ref q_5, .ref q_7, .ref q_9, .int 0, .ref q_11, .ref q_13, .ref q_15, .ref q_17, .ref q_19, .null, .null, .int 0, .int 0, .int 0])), (q_1, .inl (c_2, 36, .inr (.inl fn2))), (q_3, .inl (c_4, 144, .inl f_105)), (q_5, .inl (c_6, 36, .inl f_100)), (q_7, .inl (c_8, 36, .inl f_106)), (q_9, .inl (c_10, 10, .inr (.inr (.inr (.inr (fun _ => none))))))] H := hP
          have hD : va_D A [(q, .inr (0, [.ref q_1, .ref q_3, .ref q_5, .ref q_7, .ref q_9, .int 0, .ref q_11, .ref q_13, .ref q_15, .ref q_17, .ref q_19, .null, .null, .int 0, .int 0, .int 0])), (q_1, .inl (c_2, 36, .inr (.inl fn2))), (q_3, .inl (c_4, 144, .inl f_105)), (q_5, .inl (c_6, 36, .inl f_100)), (q_7, .inl (c_8, 36, .inl f_106)), (q_9, .inl (c_10, 10, .inr (.inr (.inr (.inr (fun _ => none))))))] := hD
          refine lv_iinc (v := (nI (na2 + 1))) (lv' := [(1, .int (nI (na2 + 1))), (3, .int (nI k)), (2, .int (nI (kp k + a))), (0, .ref q)]) hx hb dX0_init_286 hl (k := 2) rfl (nI_1 na2) (by decide) rfl (fun ls hl => ?_)
          refine lv_iinc (v := (nI (kp (k + 1)))) (lv' := [(2, .int (nI (kp (k + 1)))), (1, .int (nI (na2 + 1))), (3, .int (nI k)), (0, .ref q)]) hx hb dX0_init_289 hl (k := 2) rfl (by rw [hkp1, ← hak]; exact nI_1 _) (by decide) rfl (fun ls hl => ?_)
          refine lv_iinc (v := (nI (k + 1))) (lv' := [(3, .int (nI (k + 1))), (2, .int (nI (kp (k + 1)))), (1, .int (nI (na2 + 1))), (0, .ref q)]) hx hb dX0_init_292 hl (k := 2) rfl (nI_1 k) (by decide) rfl (fun ls hl => ?_)
          refine lv_goto (tgt := 96) hx hb dX0_init_295 (by decide) ?_
          exact ih96 (k + 1, na2 + 1, fn2, f_105, f_100, f_106) H locs ls (show 26 - (k + 1) < 26 - k by omega) ⟨hP.sub [0, 1, 2, 3, 4, 5] rfl, hD.sub [0, 1, 2, 3, 4, 5] (by decide) rfl, hS, lv_sub hl [0, 1, 2, 3] rfl, trivial, (by omega), (by omega), hfa3⟩
      · have hak : a < kl k := by
          have h : ¬ a = kl k := fun h => b_99 (w_98.trans ((kd_chr k hk26 a (by omega) ha).mpr h))
          omega
        refine lv_aload_n hx hb dX0_init_178 rfl (lv_at hl 3 rfl) ?_
        refine va_get (D := (dC, dI)) (ci := 0) (v := .ref q_3) (C := RX0) (T := TX0) (N := 16) hx hb ht uX0 hown hK hP 0 rfl rfl 1 (by decide) (ht _ k_1_142) (fun _ h9 => h9) rfl dX0_init_179 ?_
        refine lv_iload_n hx hb dX0_init_182 rfl (lv_at hl 0 rfl) ?_
        refine lv_iconst (v := 4) hx hb dX0_init_183 (by decide) ?_
        refine lv_imul hx hb dX0_init_184 ?_
        refine tk_i (y := (nI (k * 4))) (pk_mul k 4) ?_
        refine lv_aload_n hx hb dX0_init_185 rfl (lv_at hl 3 rfl) ?_
        refine va_get (D := (dC, dI)) (ci := 0) (v := .ref q_5) (C := RX0) (T := TX0) (N := 16) hx hb ht uX0 hown hK hP 0 rfl rfl 2 (by decide) (ht _ k_1_148) (fun _ h9 => h9) rfl dX0_init_186 ?_
        refine lv_iload_n hx hb dX0_init_189 rfl (lv_at hl 0 rfl) ?_
        refine va_iald hx hb hK hP 3 2 rfl rfl (vp_in_nI (by omega) (by decide)) dX0_init_190 ?_
        refine tk_i (y := (nI a)) (by rw [nI_clamp (by omega)]; exact hfk) ?_
        refine lv_iadd hx hb dX0_init_191 ?_
        refine tk_i (y := (nI (k * 4 + a))) (nI_add _ _) ?_
        refine va_ldcS hx hb hown (xf_r hE 1 rfl) dX0_init_192 ?_
        refine lv_iload_n hx hb dX0_init_194 rfl (lv_at hl 1 rfl) ?_
        refine ca_i (wr := [(q, .inr (0, [.ref q_1, .ref q_3, .ref q_5, .ref q_7, .ref q_9, .int 0, .ref q_11, .ref q_13, .ref q_15, .ref q_17, .ref q_19, .null, .null, .int 0, .int 0, .int 0])), (q_1, .inl (c_2, 36, .inr (.inl fn2))), (q_3, .inl (c_4, 144, .inl fk2)), (q_5, .inl (c_6, 36, .inl fa2)), (q_7, .inl (c_8, 36, .inl fw)), (q_9, .inl (c_10, 10, .inr (.inr (.inr (.inr (fun _ => none))))))]) (va_runV (As := [.int (nI (kp k + a))]) (rest := [.int (nI (k * 4 + a)), .ref q_3]) ⟨hx, hb, hml, hown, ht⟩ (j_charAt l dC dI H.size n2 m2 bsK (nI (kp k + a))  (vp_in_nI (show kp k + a < bsK.length by rw [kd_len]; omega) (by decide)) (by decide)) (cwV 1 ht (gdV k_1_60 k_1_57 k_1_58 k_1_59 k_1_3) rfl rfl rfl (by decide +kernel) ⟨Nat.le_of_ble_eq_true rfl, Nat.le_of_ble_eq_true rfl⟩) ⟨pcx_blind, st_recv (xf_s hE 3 rfl).1 hS, pcx_at hP hD hK hS hA hE [] [] [3, 4, 5] (by decide) rfl rfl rfl rfl⟩ rfl rfl hl.1 rfl (lv_room (Nat.le_of_ble_eq_true rfl)) dX0_init_195 ⟨Nat.le_of_ble_eq_true rfl, Nat.le_of_ble_eq_true rfl⟩) hP hD hK hS hA [] [0, 1, 2, 3, 4, 5] rfl rfl (by decide) (by decide) (fun r_107 u H locs w_108 hK hP hD hS => ?_)
        have hK : va_K (dC, dI) cls [(c_2, .long), (c_4, .int), (c_6, .int), (c_8, .int), (c_10, .object "FinderHouse$Term"), (c_12, .boolean), (c_14, .int), (c_16, .int), (c_18, .int), (c_20, .int)] s := hK
        have hP : va_P (dC, dI) cls [(q, .inr (0, [.ref q_1, .ref q_3, .ref q_5, .ref q_7, .ref q_9, .int 0, .ref q_11, .ref q_13, .ref q_15, .ref q_17, .ref q_19, .null, .null, .int 0, .int 0, .int 0])), (q_1, .inl (c_2, 36, .inr (.inl fn2))), (q_3, .inl (c_4, 144, .inl fk2)), (q_5, .inl (c_6, 36, .inl fa2)), (q_7, .inl (c_8, 36, .inl fw)), (q_9, .inl (c_10, 10, .inr (.inr (.inr (.inr (fun _ => none))))))] H := hP
        have hD : va_D A [(q, .inr (0, [.ref q_1, .ref q_3, .ref q_5, .ref q_7, .ref q_9, .int 0, .ref q_11, .ref q_13, .ref q_15, .ref q_17, .ref q_19, .null, .null, .int 0, .int 0, .int 0])), (q_1, .inl (c_2, 36, .inr (.inl fn2))), (q_3, .inl (c_4, 144, .inl fk2)), (q_5, .inl (c_6, 36, .inl fa2)), (q_7, .inl (c_8, 36, .inl fw)), (q_9, .inl (c_10, 10, .inr (.inr (.inr (.inr (fun _ => none))))))] := hD
        refine ca_i (wr := [(q, .inr (0, [.ref q_1, .ref q_3, .ref q_5, .ref q_7, .ref q_9, .int 0, .ref q_11, .ref q_13, .ref q_15, .ref q_17, .ref q_19, .null, .null, .int 0, .int 0, .int 0])), (q_1, .inl (c_2, 36, .inr (.inl fn2))), (q_3, .inl (c_4, 144, .inl fk2)), (q_5, .inl (c_6, 36, .inl fa2)), (q_7, .inl (c_8, 36, .inl fw)), (q_9, .inl (c_10, 10, .inr (.inr (.inr (.inr (fun _ => none))))))]) (va_runSN (As := [.int r_107]) (rest := [.int (nI (k * 4 + a)), .ref q_3]) ⟨hx, hb, hml, hown, ht⟩ (x_kindOfLetter l dC dI H.size r_107  ) ⟨va_cnB 1 ht (gdI k_1_100) rfl rfl rfl (xf_n hE 7 rfl _ kn_1_98) (ht _ k_1_1) (by decide +kernel) ⟨Nat.le_of_ble_eq_true rfl, Nat.le_of_ble_eq_true rfl⟩, ht _ k_1_99, trivial⟩ ⟨pcw_blind, pcw_at hP hD hK [] [] (by decide) rfl rfl rfl⟩ rfl rfl hl.1 rfl (lv_room (Nat.le_of_ble_eq_true rfl)) dX0_init_198 ⟨Nat.le_of_ble_eq_true rfl, Nat.le_of_ble_eq_true rfl⟩) hP hD hK hS hA [] [0, 1, 2, 3, 4, 5] rfl rfl (by decide) (by decide) (fun r_109 u H locs w_110 hK hP hD hS => ?_)
        have hK : va_K (dC, dI) cls [(c_2, .long), (c_4, .int), (c_6, .int), (c_8, .int), (c_10, .object "FinderHouse$Term"), (c_12, .boolean), (c_14, .int), (c_16, .int), (c_18, .int), (c_20, .int)] s := hK
        have hP : va_P (dC, dI) cls [(q, .inr (0, [.ref q_1, .ref q_3, .ref q_5, .ref q_7, .ref q_9, .int 0, .ref q_11, .ref q_13, .ref q_15, .ref q_17, .ref q_19, .null, .null, .int 0, .int 0, .int 0])), (q_1, .inl (c_2, 36, .inr (.inl fn2))), (q_3, .inl (c_4, 144, .inl fk2)), (q_5, .inl (c_6, 36, .inl fa2)), (q_7, .inl (c_8, 36, .inl fw)), (q_9, .inl (c_10, 10, .inr (.inr (.inr (.inr (fun _ => none))))))] H := hP
        have hD : va_D A [(q, .inr (0, [.ref q_1, .ref q_3, .ref q_5, .ref q_7, .ref q_9, .int 0, .ref q_11, .ref q_13, .ref q_15, .ref q_17, .ref q_19, .null, .null, .int 0, .int 0, .int 0])), (q_1, .inl (c_2, 36, .inr (.inl fn2))), (q_3, .inl (c_4, 144, .inl fk2)), (q_5, .inl (c_6, 36, .inl fa2)), (q_7, .inl (c_8, 36, .inl fw)), (q_9, .inl (c_10, 10, .inr (.inr (.inr (.inr (fun _ => none))))))] := hD
        refine va_iast (i := (nI (k * 4 + a))) (x := r_109) hx hb hK hP hD hS 2 1 rfl rfl (vp_in_nI (by omega) (by decide)) dX0_init_201 (fun H locs hP hD hS => ?_)
        obtain ⟨f_111, ef_111⟩ : ∃ g : Nat → Int32, g = upd fk2 (nI (k * 4 + a)).toNatClampNeg r_109 := ⟨_, rfl⟩
        rw [← ef_111] at hP hD
        have hP : va_P (dC, dI) cls [(q, .inr (0, [.ref q_1, .ref q_3, .ref q_5, .ref q_7, .ref q_9, .int 0, .ref q_11, .ref q_13, .ref q_15, .ref q_17, .ref q_19, .null, .null, .int 0, .int 0, .int 0])), (q_1, .inl (c_2, 36, .inr (.inl fn2))), (q_3, .inl (c_4, 144, .inl f_111)), (q_5, .inl (c_6, 36, .inl fa2)), (q_7, .inl (c_8, 36, .inl fw)), (q_9, .inl (c_10, 10, .inr (.inr (.inr (.inr (fun _ => none))))))] H := hP
        have hD : va_D A [(q, .inr (0, [.ref q_1, .ref q_3, .ref q_5, .ref q_7, .ref q_9, .int 0, .ref q_11, .ref q_13, .ref q_15, .ref q_17, .ref q_19, .null, .null, .int 0, .int 0, .int 0])), (q_1, .inl (c_2, 36, .inr (.inl fn2))), (q_3, .inl (c_4, 144, .inl f_111)), (q_5, .inl (c_6, 36, .inl fa2)), (q_7, .inl (c_8, 36, .inl fw)), (q_9, .inl (c_10, 10, .inr (.inr (.inr (.inr (fun _ => none))))))] := hD
        refine lv_aload_n hx hb dX0_init_202 rfl (lv_at hl 3 rfl) ?_
        refine va_get (D := (dC, dI)) (ci := 0) (v := .ref q_5) (C := RX0) (T := TX0) (N := 16) hx hb ht uX0 hown hK hP 0 rfl rfl 2 (by decide) (ht _ k_1_148) (fun _ h9 => h9) rfl dX0_init_203 ?_
        refine lv_iload_n hx hb dX0_init_206 rfl (lv_at hl 0 rfl) ?_
        refine lv_dup2_11 hx hb dX0_init_207 rfl rfl ?_
        refine va_iald hx hb hK hP 3 2 rfl rfl (vp_in_nI (by omega) (by decide)) dX0_init_208 ?_
        refine tk_i (y := (nI a)) (by rw [nI_clamp (by omega)]; exact hfk) ?_
        refine lv_iconst (v := 1) hx hb dX0_init_209 (by decide) ?_
        refine lv_iadd hx hb dX0_init_210 ?_
        refine tk_i (y := (nI (a + 1))) (nI_1 a) ?_
        refine va_iast (i := (nI k)) (x := (nI (a + 1))) hx hb hK hP hD hS 3 2 rfl rfl (vp_in_nI (by omega) (by decide)) dX0_init_211 (fun H locs hP hD hS => ?_)
        obtain ⟨f_112, ef_112⟩ : ∃ g : Nat → Int32, g = upd fa2 (nI k).toNatClampNeg (nI (a + 1)) := ⟨_, rfl⟩
        rw [← ef_112] at hP hD
        have hP : va_P (dC, dI) cls [(q, .inr (0, [.ref q_1, .ref q_3, .ref q_5, .ref q_7, .ref q_9, .int 0, .ref q_11, .ref q_13, .ref q_15, .ref q_17, .ref q_19, .null, .null, .int 0, .int 0, .int 0])), (q_1, .inl (c_2, 36, .inr (.inl fn2))), (q_3, .inl (c_4, 144, .inl f_111)), (q_5, .inl (c_6, 36, .inl f_112)), (q_7, .inl (c_8, 36, .inl fw)), (q_9, .inl (c_10, 10, .inr (.inr (.inr (.inr (fun _ => none))))))] H := hP
        have hD : va_D A [(q, .inr (0, [.ref q_1, .ref q_3, .ref q_5, .ref q_7, .ref q_9, .int 0, .ref q_11, .ref q_13, .ref q_15, .ref q_17, .ref q_19, .null, .null, .int 0, .int 0, .int 0])), (q_1, .inl (c_2, 36, .inr (.inl fn2))), (q_3, .inl (c_4, 144, .inl f_111)), (q_5, .inl (c_6, 36, .inl f_112)), (q_7, .inl (c_8, 36, .inl fw)), (q_9, .inl (c_10, 10, .inr (.inr (.inr (.inr (fun _ => none))))))] := hD
        have hfk3 : f_112 k = nI (a + 1) := by rw [ef_112, nI_clamp (by omega)]; exact pk_us
        have hfj3 : ∀ j, k < j → f_112 j = 0 := fun j hj => by rw [ef_112, nI_clamp (by omega), pk_un (by omega)]; exact hfj j hj
        refine lv_iinc (v := (nI (kp k + (a + 1)))) (lv' := [(2, .int (nI (kp k + (a + 1)))), (3, .int (nI k)), (1, .int (nI na2)), (0, .ref q)]) hx hb dX0_init_212 hl (k := 1) rfl (by rw [show kp k + (a + 1) = kp k + a + 1 by omega]; exact nI_1 _) (by decide) rfl (fun ls hl => ?_)
        refine lv_goto (tgt := 158) hx hb dX0_init_215 (by decide) ?_
        exact ih158 (a + 1, f_111, f_112) H locs ls (show kl k - (a + 1) < kl k - a by omega) ⟨hP.sub [0, 1, 2, 3, 4, 5] rfl, hD.sub [0, 1, 2, 3, 4, 5] (by decide) rfl, hS, lv_sub hl [1, 0, 2, 3] rfl, trivial, (by omega), hfk3, hfj3⟩
    · have hlt2 : na2 < 112 := nI_lt112 (by omega) b_94
      refine va_ldcS hx hb hown (xf_r hE 0 rfl) dX0_init_111 ?_
      refine lv_iload_n hx hb dX0_init_113 rfl (lv_at hl 2 rfl) ?_
      refine ca_i (wr := [(q, .inr (0, [.ref q_1, .ref q_3, .ref q_5, .ref q_7, .ref q_9, .int 0, .ref q_11, .ref q_13, .ref q_15, .ref q_17, .ref q_19, .null, .null, .int 0, .int 0, .int 0])), (q_1, .inl (c_2, 36, .inr (.inl fn2))), (q_3, .inl (c_4, 144, .inl fk)), (q_5, .inl (c_6, 36, .inl fa)), (q_7, .inl (c_8, 36, .inl fw)), (q_9, .inl (c_10, 10, .inr (.inr (.inr (.inr (fun _ => none))))))]) (va_runV (As := [.int (nI na2)]) (rest := []) ⟨hx, hb, hml, hown, ht⟩ (j_charAt l dC dI H.size n1 m1 bsN (nI na2)  (vp_in_nI (show na2 < bsN.length from hlt2) (by decide)) (by decide)) (cwV 1 ht (gdV k_1_60 k_1_57 k_1_58 k_1_59 k_1_3) rfl rfl rfl (by decide +kernel) ⟨Nat.le_of_ble_eq_true rfl, Nat.le_of_ble_eq_true rfl⟩) ⟨pcx_blind, st_recv (xf_s hE 2 rfl).1 hS, pcx_at hP hD hK hS hA hE [] [] [2, 4, 5] (by decide) rfl rfl rfl rfl⟩ rfl rfl hl.1 rfl (lv_room (Nat.le_of_ble_eq_true rfl)) dX0_init_114 ⟨Nat.le_of_ble_eq_true rfl, Nat.le_of_ble_eq_true rfl⟩) hP hD hK hS hA [] [0, 1, 2, 3, 4, 5] rfl rfl (by decide) (by decide) (fun r_113 u H locs w_114 hK hP hD hS => ?_)
      have hK : va_K (dC, dI) cls [(c_2, .long), (c_4, .int), (c_6, .int), (c_8, .int), (c_10, .object "FinderHouse$Term"), (c_12, .boolean), (c_14, .int), (c_16, .int), (c_18, .int), (c_20, .int)] s := hK
      have hP : va_P (dC, dI) cls [(q, .inr (0, [.ref q_1, .ref q_3, .ref q_5, .ref q_7, .ref q_9, .int 0, .ref q_11, .ref q_13, .ref q_15, .ref q_17, .ref q_19, .null, .null, .int 0, .int 0, .int 0])), (q_1, .inl (c_2, 36, .inr (.inl fn2))), (q_3, .inl (c_4, 144, .inl fk)), (q_5, .inl (c_6, 36, .inl fa)), (q_7, .inl (c_8, 36, .inl fw)), (q_9, .inl (c_10, 10, .inr (.inr (.inr (.inr (fun _ => none))))))] H := hP
      have hD : va_D A [(q, .inr (0, [.ref q_1, .ref q_3, .ref q_5, .ref q_7, .ref q_9, .int 0, .ref q_11, .ref q_13, .ref q_15, .ref q_17, .ref q_19, .null, .null, .int 0, .int 0, .int 0])), (q_1, .inl (c_2, 36, .inr (.inl fn2))), (q_3, .inl (c_4, 144, .inl fk)), (q_5, .inl (c_6, 36, .inl fa)), (q_7, .inl (c_8, 36, .inl fw)), (q_9, .inl (c_10, 10, .inr (.inr (.inr (.inr (fun _ => none))))))] := hD
      refine lv_bipush (v := 32) hx hb dX0_init_117 (by decide) ?_
      refine lv_icmp_eq (tgt := 158) hx hb dX0_init_119 (by decide) (fun b_115 => ?_) (fun b_115 => ?_)
      · obtain ⟨hkl2, hkl4, hkp, hkp1⟩ := kd_fit k hk26
        refine lp_rule (fun H locs ls => W p l e _ s m _ below meth c H locs _ _ _ (F0 m 158 ls [])) (fun (z : Nat × (Nat → Int32) × (Nat → Int32)) H locs ls => match z with | (a, fk2, fa2) => va_P (dC, dI) cls [(q, .inr (0, [.ref q_1, .ref q_3, .ref q_5, .ref q_7, .ref q_9, .int 0, .ref q_11, .ref q_13, .ref q_15, .ref q_17, .ref q_19, .null, .null, .int 0, .int 0, .int 0])), (q_1, .inl (c_2, 36, .inr (.inl fn2))), (q_3, .inl (c_4, 144, .inl fk2)), (q_5, .inl (c_6, 36, .inl fa2)), (q_7, .inl (c_8, 36, .inl fw)), (q_9, .inl (c_10, 10, .inr (.inr (.inr (.inr (fun _ => none))))))] H ∧ va_D A [(q, .inr (0, [.ref q_1, .ref q_3, .ref q_5, .ref q_7, .ref q_9, .int 0, .ref q_11, .ref q_13, .ref q_15, .ref q_17, .ref q_19, .null, .null, .int 0, .int 0, .int 0])), (q_1, .inl (c_2, 36, .inr (.inl fn2))), (q_3, .inl (c_4, 144, .inl fk2)), (q_5, .inl (c_6, 36, .inl fa2)), (q_7, .inl (c_8, 36, .inl fw)), (q_9, .inl (c_10, 10, .inr (.inr (.inr (.inr (fun _ => none))))))] ∧ va_S A s.heap H locs ∧ lv_has ls 4 [(3, .int (nI k)), (2, .int (nI (kp k + a))), (1, .int (nI na2)), (0, .ref q)] ∧ True ∧ a ≤ kl k ∧ fa2 k = nI a ∧ ∀ j, k < j → fa2 j = 0) (fun (z : Nat × (Nat → Int32) × (Nat → Int32)) => match z with | (a, fk2, fa2) => kl k - a) ?_ (0, fk, fa) H locs ls ⟨hP, hD, hS, lv_sub hl [0, 1, 2, 3] rfl, trivial, (Nat.zero_le _), (hfa k (Nat.le_refl k)), (fun j hj => hfa j (Nat.le_of_lt hj))⟩
        intro z H locs ls hI ih158
        obtain ⟨a, fk2, fa2⟩ := z
        obtain ⟨hP, hD, hS, hl, -, ha, hfk, hfj⟩ := hI
        have hP : va_P (dC, dI) cls [(q, .inr (0, [.ref q_1, .ref q_3, .ref q_5, .ref q_7, .ref q_9, .int 0, .ref q_11, .ref q_13, .ref q_15, .ref q_17, .ref q_19, .null, .null, .int 0, .int 0, .int 0])), (q_1, .inl (c_2, 36, .inr (.inl fn2))), (q_3, .inl (c_4, 144, .inl fk2)), (q_5, .inl (c_6, 36, .inl fa2)), (q_7, .inl (c_8, 36, .inl fw)), (q_9, .inl (c_10, 10, .inr (.inr (.inr (.inr (fun _ => none))))))] H := hP
        have hD : va_D A [(q, .inr (0, [.ref q_1, .ref q_3, .ref q_5, .ref q_7, .ref q_9, .int 0, .ref q_11, .ref q_13, .ref q_15, .ref q_17, .ref q_19, .null, .null, .int 0, .int 0, .int 0])), (q_1, .inl (c_2, 36, .inr (.inl fn2))), (q_3, .inl (c_4, 144, .inl fk2)), (q_5, .inl (c_6, 36, .inl fa2)), (q_7, .inl (c_8, 36, .inl fw)), (q_9, .inl (c_10, 10, .inr (.inr (.inr (.inr (fun _ => none))))))] := hD
        have hl : lv_has ls 4 [(3, .int (nI k)), (2, .int (nI (kp k + a))), (1, .int (nI na2)), (0, .ref q)] := hl
        refine lv_iload_n hx hb dX0_init_158 rfl (lv_at hl 1 rfl) ?_
        refine va_ldcS hx hb hown (xf_r hE 1 rfl) dX0_init_159 ?_
        refine ca_i (wr := [(q, .inr (0, [.ref q_1, .ref q_3, .ref q_5, .ref q_7, .ref q_9, .int 0, .ref q_11, .ref q_13, .ref q_15, .ref q_17, .ref q_19, .null, .null, .int 0, .int 0, .int 0])), (q_1, .inl (c_2, 36, .inr (.inl fn2))), (q_3, .inl (c_4, 144, .inl fk2)), (q_5, .inl (c_6, 36, .inl fa2)), (q_7, .inl (c_8, 36, .inl fw)), (q_9, .inl (c_10, 10, .inr (.inr (.inr (.inr (fun _ => none))))))]) (va_runV (As := []) (rest := [.int (nI (kp k + a))]) ⟨hx, hb, hml, hown, ht⟩ (j_length l dC dI H.size n2 m2 bsK  (by decide)) (cwV 0 ht (gdV k_1_50 k_1_47 k_1_48 k_1_49 k_1_3) rfl rfl rfl (by decide +kernel) ⟨Nat.le_of_ble_eq_true rfl, Nat.le_of_ble_eq_true rfl⟩) ⟨pcx_blind, st_recv (xf_s hE 3 rfl).1 hS, pcx_at hP hD hK hS hA hE [] [] [3, 4] (by decide) rfl rfl rfl rfl⟩ rfl rfl hl.1 rfl (lv_room (Nat.le_of_ble_eq_true rfl)) dX0_init_161 ⟨Nat.le_of_ble_eq_true rfl, Nat.le_of_ble_eq_true rfl⟩) hP hD hK hS hA [] [0, 1, 2, 3, 4, 5] rfl rfl (by decide) (by decide) (fun r_116 u H locs w_117 hK hP hD hS => ?_)
        have hK : va_K (dC, dI) cls [(c_2, .long), (c_4, .int), (c_6, .int), (c_8, .int), (c_10, .object "FinderHouse$Term"), (c_12, .boolean), (c_14, .int), (c_16, .int), (c_18, .int), (c_20, .int)] s := hK
        have hP : va_P (dC, dI) cls [(q, .inr (0, [.ref q_1, .ref q_3, .ref q_5, .ref q_7, .ref q_9, .int 0, .ref q_11, .ref q_13, .ref q_15, .ref q_17, .ref q_19, .null, .null, .int 0, .int 0, .int 0])), (q_1, .inl (c_2, 36, .inr (.inl fn2))), (q_3, .inl (c_4, 144, .inl fk2)), (q_5, .inl (c_6, 36, .inl fa2)), (q_7, .inl (c_8, 36, .inl fw)), (q_9, .inl (c_10, 10, .inr (.inr (.inr (.inr (fun _ => none))))))] H := hP
        have hD : va_D A [(q, .inr (0, [.ref q_1, .ref q_3, .ref q_5, .ref q_7, .ref q_9, .int 0, .ref q_11, .ref q_13, .ref q_15, .ref q_17, .ref q_19, .null, .null, .int 0, .int 0, .int 0])), (q_1, .inl (c_2, 36, .inr (.inl fn2))), (q_3, .inl (c_4, 144, .inl fk2)), (q_5, .inl (c_6, 36, .inl fa2)), (q_7, .inl (c_8, 36, .inl fw)), (q_9, .inl (c_10, 10, .inr (.inr (.inr (.inr (fun _ => none))))))] := hD
        obtain rfl : r_116 = 100 := w_117.trans (by decide)
        refine lv_icmp_ge (tgt := 218) hx hb dX0_init_164 (by decide) (fun c0 => absurd c0 ((show ¬ nI 100 ≤ nI (kp k + a) from nI_ge (by omega) (by decide)))) (fun _ => ?_)
        refine va_ldcS hx hb hown (xf_r hE 1 rfl) dX0_init_167 ?_
        refine lv_iload_n hx hb dX0_init_169 rfl (lv_at hl 1 rfl) ?_
        refine ca_i (wr := [(q, .inr (0, [.ref q_1, .ref q_3, .ref q_5, .ref q_7, .ref q_9, .int 0, .ref q_11, .ref q_13, .ref q_15, .ref q_17, .ref q_19, .null, .null, .int 0, .int 0, .int 0])), (q_1, .inl (c_2, 36, .inr (.inl fn2))), (q_3, .inl (c_4, 144, .inl fk2)), (q_5, .inl (c_6, 36, .inl fa2)), (q_7, .inl (c_8, 36, .inl fw)), (q_9, .inl (c_10, 10, .inr (.inr (.inr (.inr (fun _ => none))))))]) (va_runV (As := [.int (nI (kp k + a))]) (rest := []) ⟨hx, hb, hml, hown, ht⟩ (j_charAt l dC dI H.size n2 m2 bsK (nI (kp k + a))  (vp_in_nI (show kp k + a < bsK.length by rw [kd_len]; omega) (by decide)) (by decide)) (cwV 1 ht (gdV k_1_60 k_1_57 k_1_58 k_1_59 k_1_3) rfl rfl rfl (by decide +kernel) ⟨Nat.le_of_ble_eq_true rfl, Nat.le_of_ble_eq_true rfl⟩) ⟨pcx_blind, st_recv (xf_s hE 3 rfl).1 hS, pcx_at hP hD hK hS hA hE [] [] [3, 4, 5] (by decide) rfl rfl rfl rfl⟩ rfl rfl hl.1 rfl (lv_room (Nat.le_of_ble_eq_true rfl)) dX0_init_170 ⟨Nat.le_of_ble_eq_true rfl, Nat.le_of_ble_eq_true rfl⟩) hP hD hK hS hA [] [0, 1, 2, 3, 4, 5] rfl rfl (by decide) (by decide) (fun r_118 u H locs w_119 hK hP hD hS => ?_)
        have hK : va_K (dC, dI) cls [(c_2, .long), (c_4, .int), (c_6, .int), (c_8, .int), (c_10, .object "FinderHouse$Term"), (c_12, .boolean), (c_14, .int), (c_16, .int), (c_18, .int), (c_20, .int)] s := hK
        have hP : va_P (dC, dI) cls [(q, .inr (0, [.ref q_1, .ref q_3, .ref q_5, .ref q_7, .ref q_9, .int 0, .ref q_11, .ref q_13, .ref q_15, .ref q_17, .ref q_19, .null, .null, .int 0, .int 0, .int 0])), (q_1, .inl (c_2, 36, .inr (.inl fn2))), (q_3, .inl (c_4, 144, .inl fk2)), (q_5, .inl (c_6, 36, .inl fa2)), (q_7, .inl (c_8, 36, .inl fw)), (q_9, .inl (c_10, 10, .inr (.inr (.inr (.inr (fun _ => none))))))] H := hP
        have hD : va_D A [(q, .inr (0, [.ref q_1, .ref q_3, .ref q_5, .ref q_7, .ref q_9, .int 0, .ref q_11, .ref q_13, .ref q_15, .ref q_17, .ref q_19, .null, .null, .int 0, .int 0, .int 0])), (q_1, .inl (c_2, 36, .inr (.inl fn2))), (q_3, .inl (c_4, 144, .inl fk2)), (q_5, .inl (c_6, 36, .inl fa2)), (q_7, .inl (c_8, 36, .inl fw)), (q_9, .inl (c_10, 10, .inr (.inr (.inr (.inr (fun _ => none))))))] := hD
        refine lv_bipush (v := 32) hx hb dX0_init_173 (by decide) ?_
        refine lv_icmp_eq (tgt := 218) hx hb dX0_init_175 (by decide) (fun b_120 => ?_) (fun b_120 => ?_)
        · have hak : a = kl k := (kd_chr k hk26 a (by omega) ha).mp (w_119.symm.trans b_120)
          refine lv_aload_n hx hb dX0_init_218 rfl (lv_at hl 3 rfl) ?_
          refine va_get (D := (dC, dI)) (ci := 0) (v := .ref q_5) (C := RX0) (T := TX0) (N := 16) hx hb ht uX0 hown hK hP 0 rfl rfl 2 (by decide) (ht _ k_1_148) (fun _ h9 => h9) rfl dX0_init_219 ?_
          refine lv_iload_n hx hb dX0_init_222 rfl (lv_at hl 0 rfl) ?_
          refine lv_dup2_11 hx hb dX0_init_223 rfl rfl ?_
          refine va_iald hx hb hK hP 3 2 rfl rfl (vp_in_nI (by omega) (by decide)) dX0_init_224 ?_
          refine tk_i (y := (nI a)) (by rw [nI_clamp (by omega)]; exact hfk) ?_
          refine lv_iconst (v := 1) hx hb dX0_init_225 (by decide) ?_
          refine lv_isub hx hb dX0_init_226 ?_
          refine tk_i (y := (nI (a - 1))) (by rw [show a = (a - 1) + 1 by omega]; exact nI_pred _) ?_
          refine va_iast (i := (nI k)) (x := (nI (a - 1))) hx hb hK hP hD hS 3 2 rfl rfl (vp_in_nI (by omega) (by decide)) dX0_init_227 (fun H locs hP hD hS => ?_)
          obtain ⟨f_121, ef_121⟩ : ∃ g : Nat → Int32, g = upd fa2 (nI k).toNatClampNeg (nI (a - 1)) := ⟨_, rfl⟩
          rw [← ef_121] at hP hD
          have hP : va_P (dC, dI) cls [(q, .inr (0, [.ref q_1, .ref q_3, .ref q_5, .ref q_7, .ref q_9, .int 0, .ref q_11, .ref q_13, .ref q_15, .ref q_17, .ref q_19, .null, .null, .int 0, .int 0, .int 0])), (q_1, .inl (c_2, 36, .inr (.inl fn2))), (q_3, .inl (c_4, 144, .inl fk2)), (q_5, .inl (c_6, 36, .inl f_121)), (q_7, .inl (c_8, 36, .inl fw)), (q_9, .inl (c_10, 10, .inr (.inr (.inr (.inr (fun _ => none))))))] H := hP
          have hD : va_D A [(q, .inr (0, [.ref q_1, .ref q_3, .ref q_5, .ref q_7, .ref q_9, .int 0, .ref q_11, .ref q_13, .ref q_15, .ref q_17, .ref q_19, .null, .null, .int 0, .int 0, .int 0])), (q_1, .inl (c_2, 36, .inr (.inl fn2))), (q_3, .inl (c_4, 144, .inl fk2)), (q_5, .inl (c_6, 36, .inl f_121)), (q_7, .inl (c_8, 36, .inl fw)), (q_9, .inl (c_10, 10, .inr (.inr (.inr (.inr (fun _ => none))))))] := hD
          have hfk4 : f_121 k = nI (a - 1) := by rw [ef_121, nI_clamp (by omega)]; exact pk_us
          have hfa3 : ∀ j, k + 1 ≤ j → f_121 j = 0 := fun j hj => by rw [ef_121, nI_clamp (by omega), pk_un (by omega)]; exact hfj j (by omega)
          refine lv_aload_n hx hb dX0_init_228 rfl (lv_at hl 3 rfl) ?_
          refine va_get (D := (dC, dI)) (ci := 0) (v := .ref q_3) (C := RX0) (T := TX0) (N := 16) hx hb ht uX0 hown hK hP 0 rfl rfl 1 (by decide) (ht _ k_1_142) (fun _ h9 => h9) rfl dX0_init_229 ?_
          refine lv_iload_n hx hb dX0_init_232 rfl (lv_at hl 0 rfl) ?_
          refine lv_iconst (v := 4) hx hb dX0_init_233 (by decide) ?_
          refine lv_imul hx hb dX0_init_234 ?_
          refine tk_i (y := (nI (k * 4))) (pk_mul k 4) ?_
          refine lv_iconst (v := 3) hx hb dX0_init_235 (by decide) ?_
          refine lv_iadd hx hb dX0_init_236 ?_
          refine tk_i (y := (nI (k * 4 + 3))) (nI_add _ 3) ?_
          refine lv_aload_n hx hb dX0_init_237 rfl (lv_at hl 3 rfl) ?_
          refine va_get (D := (dC, dI)) (ci := 0) (v := .ref q_3) (C := RX0) (T := TX0) (N := 16) hx hb ht uX0 hown hK hP 0 rfl rfl 1 (by decide) (ht _ k_1_142) (fun _ h9 => h9) rfl dX0_init_238 ?_
          refine lv_iload_n hx hb dX0_init_241 rfl (lv_at hl 0 rfl) ?_
          refine lv_iconst (v := 4) hx hb dX0_init_242 (by decide) ?_
          refine lv_imul hx hb dX0_init_243 ?_
          refine tk_i (y := (nI (k * 4))) (pk_mul k 4) ?_
          refine lv_aload_n hx hb dX0_init_244 rfl (lv_at hl 3 rfl) ?_
          refine va_get (D := (dC, dI)) (ci := 0) (v := .ref q_5) (C := RX0) (T := TX0) (N := 16) hx hb ht uX0 hown hK hP 0 rfl rfl 2 (by decide) (ht _ k_1_148) (fun _ h9 => h9) rfl dX0_init_245 ?_
          refine lv_iload_n hx hb dX0_init_248 rfl (lv_at hl 0 rfl) ?_
          refine va_iald hx hb hK hP 3 2 rfl rfl (vp_in_nI (by omega) (by decide)) dX0_init_249 ?_
          refine tk_i (y := (nI (a - 1))) (by rw [nI_clamp (by omega)]; exact hfk4) ?_
          refine lv_iadd hx hb dX0_init_250 ?_
          refine tk_i (y := (nI (k * 4 + (a - 1)))) (nI_add _ _) ?_
          refine va_iald hx hb hK hP 2 1 rfl rfl (vp_in_nI (by omega) (by decide)) dX0_init_251 ?_
          refine lv_topi (fun x_122 ex_122 => ?_)
          refine va_iast (i := (nI (k * 4 + 3))) (x := x_122) hx hb hK hP hD hS 2 1 rfl rfl (vp_in_nI (by omega) (by decide)) dX0_init_252 (fun H locs hP hD hS => ?_)
          obtain ⟨f_123, ef_123⟩ : ∃ g : Nat → Int32, g = upd fk2 (nI (k * 4 + 3)).toNatClampNeg x_122 := ⟨_, rfl⟩
          rw [← ef_123] at hP hD
          have hP : va_P (dC, dI) cls [(q, .inr (0, [.ref q_1, .ref q_3, .ref q_5, .ref q_7, .ref q_9, .int 0, .ref q_11, .ref q_13, .ref q_15, .ref q_17, .ref q_19, .null, .null, .int 0, .int 0, .int 0])), (q_1, .inl (c_2, 36, .inr (.inl fn2))), (q_3, .inl (c_4, 144, .inl f_123)), (q_5, .inl (c_6, 36, .inl f_121)), (q_7, .inl (c_8, 36, .inl fw)), (q_9, .inl (c_10, 10, .inr (.inr (.inr (.inr (fun _ => none))))))] H := hP
          have hD : va_D A [(q, .inr (0, [.ref q_1, .ref q_3, .ref q_5, .ref q_7, .ref q_9, .int 0, .ref q_11, .ref q_13, .ref q_15, .ref q_17, .ref q_19, .null, .null, .int 0, .int 0, .int 0])), (q_1, .inl (c_2, 36, .inr (.inl fn2))), (q_3, .inl (c_4, 144, .inl f_123)), (q_5, .inl (c_6, 36, .inl f_121)), (q_7, .inl (c_8, 36, .inl fw)), (q_9, .inl (c_10, 10, .inr (.inr (.inr (.inr (fun _ => none))))))] := hD
          refine lv_aload_n hx hb dX0_init_253 rfl (lv_at hl 3 rfl) ?_
          refine va_get (D := (dC, dI)) (ci := 0) (v := .ref q_5) (C := RX0) (T := TX0) (N := 16) hx hb ht uX0 hown hK hP 0 rfl rfl 2 (by decide) (ht _ k_1_148) (fun _ h9 => h9) rfl dX0_init_254 ?_
          refine lv_iload_n hx hb dX0_init_257 rfl (lv_at hl 0 rfl) ?_
          refine va_iald hx hb hK hP 3 2 rfl rfl (vp_in_nI (by omega) (by decide)) dX0_init_258 ?_
          refine tk_i (y := (nI (a - 1))) (by rw [nI_clamp (by omega)]; exact hfk4) ?_
          refine lv_iconst (v := 3) hx hb dX0_init_259 (by decide) ?_
          refine lv_icmp_ge (tgt := 279) hx hb dX0_init_260 (by decide) (fun b_124 => ?_) (fun b_124 => ?_)
          · refine lv_aload_n hx hb dX0_init_279 rfl (lv_at hl 3 rfl) ?_
            refine va_get (D := (dC, dI)) (ci := 0) (v := .ref q_7) (C := RX0) (T := TX0) (N := 16) hx hb ht uX0 hown hK hP 0 rfl rfl 3 (by decide) (ht _ k_1_153) (fun _ h9 => h9) rfl dX0_init_280 ?_
            refine lv_iload_n hx hb dX0_init_283 rfl (lv_at hl 0 rfl) ?_
            refine lv_iconst (v := 1) hx hb dX0_init_284 (by decide) ?_
            refine va_iast (i := (nI k)) (x := 1) hx hb hK hP hD hS 4 3 rfl rfl (vp_in_nI (by omega) (by decide)) dX0_init_285 (fun H locs hP hD hS => ?_)
            obtain ⟨f_125, ef_125⟩ : ∃ g : Nat → Int32, g = upd fw (nI k).toNatClampNeg 1 := ⟨_, rfl⟩
            rw [← ef_125] at hP hD
            have hP : va_P (dC, dI) cls [(q, .inr (0, [.ref q_1, .ref q_3, .ref q_5, .ref q_7, .ref q_9, .int 0, .ref q_11, .ref q_13, .ref q_15, .ref q_17, .ref q_19, .null, .null, .int 0, .int 0, .int 0])), (q_1, .inl (c_2, 36, .inr (.inl fn2))), (q_3, .inl (c_4, 144, .inl f_123)), (q_5, .inl (c_6, 36, .inl f_121)), (q_7, .inl (c_8, 36, .inl f_125)), (q_9, .inl (c_10, 10, .inr (.inr (.inr (.inr (fun _ => none))))))] H := hP
            have hD : va_D A [(q, .inr (0, [.ref q_1, .ref q_3, .ref q_5, .ref q_7, .ref q_9, .int 0, .ref q_11, .ref q_13, .ref q_15, .ref q_17, .ref q_19, .null, .null, .int 0, .int 0, .int 0])), (q_1, .inl (c_2, 36, .inr (.inl fn2))), (q_3, .inl (c_4, 144, .inl f_123)), (q_5, .inl (c_6, 36, .inl f_121)), (q_7, .inl (c_8, 36, .inl f_125)), (q_9, .inl (c_10, 10, .inr (.inr (.inr (.inr (fun _ => none))))))] := hD
            refine lv_iinc (v := (nI (na2 + 1))) (lv' := [(1, .int (nI (na2 + 1))), (3, .int (nI k)), (2, .int (nI (kp k + a))), (0, .ref q)]) hx hb dX0_init_286 hl (k := 2) rfl (nI_1 na2) (by decide) rfl (fun ls hl => ?_)
            refine lv_iinc (v := (nI (kp (k + 1)))) (lv' := [(2, .int (nI (kp (k + 1)))), (1, .int (nI (na2 + 1))), (3, .int (nI k)), (0, .ref q)]) hx hb dX0_init_289 hl (k := 2) rfl (by rw [hkp1, ← hak]; exact nI_1 _) (by decide) rfl (fun ls hl => ?_)
            refine lv_iinc (v := (nI (k + 1))) (lv' := [(3, .int (nI (k + 1))), (2, .int (nI (kp (k + 1)))), (1, .int (nI (na2 + 1))), (0, .ref q)]) hx hb dX0_init_292 hl (k := 2) rfl (nI_1 k) (by decide) rfl (fun ls hl => ?_)
            refine lv_goto (tgt := 96) hx hb dX0_init_295 (by decide) ?_
            exact ih96 (k + 1, na2 + 1, fn2, f_123, f_121, f_125) H locs ls (show 26 - (k + 1) < 26 - k by omega) ⟨hP.sub [0, 1, 2, 3, 4, 5] rfl, hD.sub [0, 1, 2, 3, 4, 5] (by decide) rfl, hS, lv_sub hl [0, 1, 2, 3] rfl, trivial, (by omega), (by omega), hfa3⟩
          · refine lv_aload_n hx hb dX0_init_263 rfl (lv_at hl 3 rfl) ?_
            refine va_get (D := (dC, dI)) (ci := 0) (v := .ref q_3) (C := RX0) (T := TX0) (N := 16) hx hb ht uX0 hown hK hP 0 rfl rfl 1 (by decide) (ht _ k_1_142) (fun _ h9 => h9) rfl dX0_init_264 ?_
            refine lv_iload_n hx hb dX0_init_267 rfl (lv_at hl 0 rfl) ?_
            refine lv_iconst (v := 4) hx hb dX0_init_268 (by decide) ?_
            refine lv_imul hx hb dX0_init_269 ?_
            refine tk_i (y := (nI (k * 4))) (pk_mul k 4) ?_
            refine lv_aload_n hx hb dX0_init_270 rfl (lv_at hl 3 rfl) ?_
            refine va_get (D := (dC, dI)) (ci := 0) (v := .ref q_5) (C := RX0) (T := TX0) (N := 16) hx hb ht uX0 hown hK hP 0 rfl rfl 2 (by decide) (ht _ k_1_148) (fun _ h9 => h9) rfl dX0_init_271 ?_
            refine lv_iload_n hx hb dX0_init_274 rfl (lv_at hl 0 rfl) ?_
            refine va_iald hx hb hK hP 3 2 rfl rfl (vp_in_nI (by omega) (by decide)) dX0_init_275 ?_
            refine tk_i (y := (nI (a - 1))) (by rw [nI_clamp (by omega)]; exact hfk4) ?_
            refine lv_iadd hx hb dX0_init_276 ?_
            refine tk_i (y := (nI (k * 4 + (a - 1)))) (nI_add _ _) ?_
            refine lv_iconst (v := 0) hx hb dX0_init_277 (by decide) ?_
            refine va_iast (i := (nI (k * 4 + (a - 1)))) (x := 0) hx hb hK hP hD hS 2 1 rfl rfl (vp_in_nI (by omega) (by decide)) dX0_init_278 (fun H locs hP hD hS => ?_)
            obtain ⟨f_126, ef_126⟩ : ∃ g : Nat → Int32, g = upd f_123 (nI (k * 4 + (a - 1))).toNatClampNeg 0 := ⟨_, rfl⟩
            rw [← ef_126] at hP hD
            have hP : va_P (dC, dI) cls [(q, .inr (0, [.ref q_1, .ref q_3, .ref q_5, .ref q_7, .ref q_9, .int 0, .ref q_11, .ref q_13, .ref q_15, .ref q_17, .ref q_19, .null, .null, .int 0, .int 0, .int 0])), (q_1, .inl (c_2, 36, .inr (.inl fn2))), (q_3, .inl (c_4, 144, .inl f_126)), (q_5, .inl (c_6, 36, .inl f_121)), (q_7, .inl (c_8, 36, .inl fw)), (q_9, .inl (c_10, 10, .inr (.inr (.inr (.inr (fun _ => none))))))] H := hP
            have hD : va_D A [(q, .inr (0, [.ref q_1, .ref q_3, .ref q_5, .ref q_7, .ref q_9, .int 0, .ref q_11, .ref q_13, .ref q_15, .ref q_17, .ref q_19, .null, .null, .int 0, .int 0, .int 0])), (q_1, .inl (c_2, 36, .inr (.inl fn2))), (q_3, .inl (c_4, 144, .inl f_126)), (q_5, .inl (c_6, 36, .inl f_121)), (q_7, .inl (c_8, 36, .inl fw)), (q_9, .inl (c_10, 10, .inr (.inr (.inr (.inr (fun _ => none))))))] := hD
            refine lv_aload_n hx hb dX0_init_279 rfl (lv_at hl 3 rfl) ?_
            refine va_get (D := (dC, dI)) (ci := 0) (v := .ref q_7) (C := RX0) (T := TX0) (N := 16) hx hb ht uX0 hown hK hP 0 rfl rfl 3 (by decide) (ht _ k_1_153) (fun _ h9 => h9) rfl dX0_init_280 ?_
            refine lv_iload_n hx hb dX0_init_283 rfl (lv_at hl 0 rfl) ?_
            refine lv_iconst (v := 1) hx hb dX0_init_284 (by decide) ?_
            refine va_iast (i := (nI k)) (x := 1) hx hb hK hP hD hS 4 3 rfl rfl (vp_in_nI (by omega) (by decide)) dX0_init_285 (fun H locs hP hD hS => ?_)
            obtain ⟨f_127, ef_127⟩ : ∃ g : Nat → Int32, g = upd fw (nI k).toNatClampNeg 1 := ⟨_, rfl⟩
            rw [← ef_127] at hP hD
            have hP : va_P (dC, dI) cls [(q, .inr (0, [.ref q_1, .ref q_3, .ref q_5, .ref q_7, .ref q_9, .int 0, .ref q_11, .ref q_13, .ref q_15, .ref q_17, .ref q_19, .null, .null, .int 0, .int 0, .int 0])), (q_1, .inl (c_2, 36, .inr (.inl fn2))), (q_3, .inl (c_4, 144, .inl f_126)), (q_5, .inl (c_6, 36, .inl f_121)), (q_7, .inl (c_8, 36, .inl f_127)), (q_9, .inl (c_10, 10, .inr (.inr (.inr (.inr (fun _ => none))))))] H := hP
            have hD : va_D A [(q, .inr (0, [.ref q_1, .ref q_3, .ref q_5, .ref q_7, .ref q_9, .int 0, .ref q_11, .ref q_13, .ref q_15, .ref q_17, .ref q_19, .null, .null, .int 0, .int 0, .int 0])), (q_1, .inl (c_2, 36, .inr (.inl fn2))), (q_3, .inl (c_4, 144, .inl f_126)), (q_5, .inl (c_6, 36, .inl f_121)), (q_7, .inl (c_8, 36, .inl f_127)), (q_9, .inl (c_10, 10, .inr (.inr (.inr (.inr (fun _ => none))))))] := hD
            refine lv_iinc (v := (nI (na2 + 1))) (lv' := [(1, .int (nI (na2 + 1))), (3, .int (nI k)), (2, .int (nI (kp k + a))), (0, .ref q)]) hx hb dX0_init_286 hl (k := 2) rfl (nI_1 na2) (by decide) rfl (fun ls hl => ?_)
            refine lv_iinc (v := (nI (kp (k + 1)))) (lv' := [(2, .int (nI (kp (k + 1)))), (1, .int (nI (na2 + 1))), (3, .int (nI k)), (0, .ref q)]) hx hb dX0_init_289 hl (k := 2) rfl (by rw [hkp1, ← hak]; exact nI_1 _) (by decide) rfl (fun ls hl => ?_)
            refine lv_iinc (v := (nI (k + 1))) (lv' := [(3, .int (nI (k + 1))), (2, .int (nI (kp (k + 1)))), (1, .int (nI (na2 + 1))), (0, .ref q)]) hx hb dX0_init_292 hl (k := 2) rfl (nI_1 k) (by decide) rfl (fun ls hl => ?_)
            refine lv_goto (tgt := 96) hx hb dX0_init_295 (by decide) ?_
            exact ih96 (k + 1, na2 + 1, fn2, f_126, f_121, f_127) H locs ls (show 26 - (k + 1) < 26 - k by omega) ⟨hP.sub [0, 1, 2, 3, 4, 5] rfl, hD.sub [0, 1, 2, 3, 4, 5] (by decide) rfl, hS, lv_sub hl [0, 1, 2, 3] rfl, trivial, (by omega), (by omega), hfa3⟩
        · have hak : a < kl k := by
            have h : ¬ a = kl k := fun h => b_120 (w_119.trans ((kd_chr k hk26 a (by omega) ha).mpr h))
            omega
          refine lv_aload_n hx hb dX0_init_178 rfl (lv_at hl 3 rfl) ?_
          refine va_get (D := (dC, dI)) (ci := 0) (v := .ref q_3) (C := RX0) (T := TX0) (N := 16) hx hb ht uX0 hown hK hP 0 rfl rfl 1 (by decide) (ht _ k_1_142) (fun _ h9 => h9) rfl dX0_init_179 ?_
          refine lv_iload_n hx hb dX0_init_182 rfl (lv_at hl 0 rfl) ?_
          refine lv_iconst (v := 4) hx hb dX0_init_183 (by decide) ?_
          refine lv_imul hx hb dX0_init_184 ?_
          refine tk_i (y := (nI (k * 4))) (pk_mul k 4) ?_
          refine lv_aload_n hx hb dX0_init_185 rfl (lv_at hl 3 rfl) ?_
          refine va_get (D := (dC, dI)) (ci := 0) (v := .ref q_5) (C := RX0) (T := TX0) (N := 16) hx hb ht uX0 hown hK hP 0 rfl rfl 2 (by decide) (ht _ k_1_148) (fun _ h9 => h9) rfl dX0_init_186 ?_
          refine lv_iload_n hx hb dX0_init_189 rfl (lv_at hl 0 rfl) ?_
          refine va_iald hx hb hK hP 3 2 rfl rfl (vp_in_nI (by omega) (by decide)) dX0_init_190 ?_
          refine tk_i (y := (nI a)) (by rw [nI_clamp (by omega)]; exact hfk) ?_
          refine lv_iadd hx hb dX0_init_191 ?_
          refine tk_i (y := (nI (k * 4 + a))) (nI_add _ _) ?_
          refine va_ldcS hx hb hown (xf_r hE 1 rfl) dX0_init_192 ?_
          refine lv_iload_n hx hb dX0_init_194 rfl (lv_at hl 1 rfl) ?_
          refine ca_i (wr := [(q, .inr (0, [.ref q_1, .ref q_3, .ref q_5, .ref q_7, .ref q_9, .int 0, .ref q_11, .ref q_13, .ref q_15, .ref q_17, .ref q_19, .null, .null, .int 0, .int 0, .int 0])), (q_1, .inl (c_2, 36, .inr (.inl fn2))), (q_3, .inl (c_4, 144, .inl fk2)), (q_5, .inl (c_6, 36, .inl fa2)), (q_7, .inl (c_8, 36, .inl fw)), (q_9, .inl (c_10, 10, .inr (.inr (.inr (.inr (fun _ => none))))))]) (va_runV (As := [.int (nI (kp k + a))]) (rest := [.int (nI (k * 4 + a)), .ref q_3]) ⟨hx, hb, hml, hown, ht⟩ (j_charAt l dC dI H.size n2 m2 bsK (nI (kp k + a))  (vp_in_nI (show kp k + a < bsK.length by rw [kd_len]; omega) (by decide)) (by decide)) (cwV 1 ht (gdV k_1_60 k_1_57 k_1_58 k_1_59 k_1_3) rfl rfl rfl (by decide +kernel) ⟨Nat.le_of_ble_eq_true rfl, Nat.le_of_ble_eq_true rfl⟩) ⟨pcx_blind, st_recv (xf_s hE 3 rfl).1 hS, pcx_at hP hD hK hS hA hE [] [] [3, 4, 5] (by decide) rfl rfl rfl rfl⟩ rfl rfl hl.1 rfl (lv_room (Nat.le_of_ble_eq_true rfl)) dX0_init_195 ⟨Nat.le_of_ble_eq_true rfl, Nat.le_of_ble_eq_true rfl⟩) hP hD hK hS hA [] [0, 1, 2, 3, 4, 5] rfl rfl (by decide) (by decide) (fun r_128 u H locs w_129 hK hP hD hS => ?_)
          have hK : va_K (dC, dI) cls [(c_2, .long), (c_4, .int), (c_6, .int), (c_8, .int), (c_10, .object "FinderHouse$Term"), (c_12, .boolean), (c_14, .int), (c_16, .int), (c_18, .int), (c_20, .int)] s := hK
          have hP : va_P (dC, dI) cls [(q, .inr (0, [.ref q_1, .ref q_3, .ref q_5, .ref q_7, .ref q_9, .int 0, .ref q_11, .ref q_13, .ref q_15, .ref q_17, .ref q_19, .null, .null, .int 0, .int 0, .int 0])), (q_1, .inl (c_2, 36, .inr (.inl fn2))), (q_3, .inl (c_4, 144, .inl fk2)), (q_5, .inl (c_6, 36, .inl fa2)), (q_7, .inl (c_8, 36, .inl fw)), (q_9, .inl (c_10, 10, .inr (.inr (.inr (.inr (fun _ => none))))))] H := hP
          have hD : va_D A [(q, .inr (0, [.ref q_1, .ref q_3, .ref q_5, .ref q_7, .ref q_9, .int 0, .ref q_11, .ref q_13, .ref q_15, .ref q_17, .ref q_19, .null, .null, .int 0, .int 0, .int 0])), (q_1, .inl (c_2, 36, .inr (.inl fn2))), (q_3, .inl (c_4, 144, .inl fk2)), (q_5, .inl (c_6, 36, .inl fa2)), (q_7, .inl (c_8, 36, .inl fw)), (q_9, .inl (c_10, 10, .inr (.inr (.inr (.inr (fun _ => none))))))] := hD
          refine ca_i (wr := [(q, .inr (0, [.ref q_1, .ref q_3, .ref q_5, .ref q_7, .ref q_9, .int 0, .ref q_11, .ref q_13, .ref q_15, .ref q_17, .ref q_19, .null, .null, .int 0, .int 0, .int 0])), (q_1, .inl (c_2, 36, .inr (.inl fn2))), (q_3, .inl (c_4, 144, .inl fk2)), (q_5, .inl (c_6, 36, .inl fa2)), (q_7, .inl (c_8, 36, .inl fw)), (q_9, .inl (c_10, 10, .inr (.inr (.inr (.inr (fun _ => none))))))]) (va_runSN (As := [.int r_128]) (rest := [.int (nI (k * 4 + a)), .ref q_3]) ⟨hx, hb, hml, hown, ht⟩ (x_kindOfLetter l dC dI H.size r_128  ) ⟨va_cnB 1 ht (gdI k_1_100) rfl rfl rfl (xf_n hE 7 rfl _ kn_1_98) (ht _ k_1_1) (by decide +kernel) ⟨Nat.le_of_ble_eq_true rfl, Nat.le_of_ble_eq_true rfl⟩, ht _ k_1_99, trivial⟩ ⟨pcw_blind, pcw_at hP hD hK [] [] (by decide) rfl rfl rfl⟩ rfl rfl hl.1 rfl (lv_room (Nat.le_of_ble_eq_true rfl)) dX0_init_198 ⟨Nat.le_of_ble_eq_true rfl, Nat.le_of_ble_eq_true rfl⟩) hP hD hK hS hA [] [0, 1, 2, 3, 4, 5] rfl rfl (by decide) (by decide) (fun r_130 u H locs w_131 hK hP hD hS => ?_)
          have hK : va_K (dC, dI) cls [(c_2, .long), (c_4, .int), (c_6, .int), (c_8, .int), (c_10, .object "FinderHouse$Term"), (c_12, .boolean), (c_14, .int), (c_16, .int), (c_18, .int), (c_20, .int)] s := hK
          have hP : va_P (dC, dI) cls [(q, .inr (0, [.ref q_1, .ref q_3, .ref q_5, .ref q_7, .ref q_9, .int 0, .ref q_11, .ref q_13, .ref q_15, .ref q_17, .ref q_19, .null, .null, .int 0, .int 0, .int 0])), (q_1, .inl (c_2, 36, .inr (.inl fn2))), (q_3, .inl (c_4, 144, .inl fk2)), (q_5, .inl (c_6, 36, .inl fa2)), (q_7, .inl (c_8, 36, .inl fw)), (q_9, .inl (c_10, 10, .inr (.inr (.inr (.inr (fun _ => none))))))] H := hP
          have hD : va_D A [(q, .inr (0, [.ref q_1, .ref q_3, .ref q_5, .ref q_7, .ref q_9, .int 0, .ref q_11, .ref q_13, .ref q_15, .ref q_17, .ref q_19, .null, .null, .int 0, .int 0, .int 0])), (q_1, .inl (c_2, 36, .inr (.inl fn2))), (q_3, .inl (c_4, 144, .inl fk2)), (q_5, .inl (c_6, 36, .inl fa2)), (q_7, .inl (c_8, 36, .inl fw)), (q_9, .inl (c_10, 10, .inr (.inr (.inr (.inr (fun _ => none))))))] := hD
          refine va_iast (i := (nI (k * 4 + a))) (x := r_130) hx hb hK hP hD hS 2 1 rfl rfl (vp_in_nI (by omega) (by decide)) dX0_init_201 (fun H locs hP hD hS => ?_)
          obtain ⟨f_132, ef_132⟩ : ∃ g : Nat → Int32, g = upd fk2 (nI (k * 4 + a)).toNatClampNeg r_130 := ⟨_, rfl⟩
          rw [← ef_132] at hP hD
          have hP : va_P (dC, dI) cls [(q, .inr (0, [.ref q_1, .ref q_3, .ref q_5, .ref q_7, .ref q_9, .int 0, .ref q_11, .ref q_13, .ref q_15, .ref q_17, .ref q_19, .null, .null, .int 0, .int 0, .int 0])), (q_1, .inl (c_2, 36, .inr (.inl fn2))), (q_3, .inl (c_4, 144, .inl f_132)), (q_5, .inl (c_6, 36, .inl fa2)), (q_7, .inl (c_8, 36, .inl fw)), (q_9, .inl (c_10, 10, .inr (.inr (.inr (.inr (fun _ => none))))))] H := hP
          have hD : va_D A [(q, .inr (0, [.ref q_1, .ref q_3, .ref q_5, .ref q_7, .ref q_9, .int 0, .ref q_11, .ref q_13, .ref q_15, .ref q_17, .ref q_19, .null, .null, .int 0, .int 0, .int 0])), (q_1, .inl (c_2, 36, .inr (.inl fn2))), (q_3, .inl (c_4, 144, .inl f_132)), (q_5, .inl (c_6, 36, .inl fa2)), (q_7, .inl (c_8, 36, .inl fw)), (q_9, .inl (c_10, 10, .inr (.inr (.inr (.inr (fun _ => none))))))] := hD
          refine lv_aload_n hx hb dX0_init_202 rfl (lv_at hl 3 rfl) ?_
          refine va_get (D := (dC, dI)) (ci := 0) (v := .ref q_5) (C := RX0) (T := TX0) (N := 16) hx hb ht uX0 hown hK hP 0 rfl rfl 2 (by decide) (ht _ k_1_148) (fun _ h9 => h9) rfl dX0_init_203 ?_
          refine lv_iload_n hx hb dX0_init_206 rfl (lv_at hl 0 rfl) ?_
          refine lv_dup2_11 hx hb dX0_init_207 rfl rfl ?_
          refine va_iald hx hb hK hP 3 2 rfl rfl (vp_in_nI (by omega) (by decide)) dX0_init_208 ?_
          refine tk_i (y := (nI a)) (by rw [nI_clamp (by omega)]; exact hfk) ?_
          refine lv_iconst (v := 1) hx hb dX0_init_209 (by decide) ?_
          refine lv_iadd hx hb dX0_init_210 ?_
          refine tk_i (y := (nI (a + 1))) (nI_1 a) ?_
          refine va_iast (i := (nI k)) (x := (nI (a + 1))) hx hb hK hP hD hS 3 2 rfl rfl (vp_in_nI (by omega) (by decide)) dX0_init_211 (fun H locs hP hD hS => ?_)
          obtain ⟨f_133, ef_133⟩ : ∃ g : Nat → Int32, g = upd fa2 (nI k).toNatClampNeg (nI (a + 1)) := ⟨_, rfl⟩
          rw [← ef_133] at hP hD
          have hP : va_P (dC, dI) cls [(q, .inr (0, [.ref q_1, .ref q_3, .ref q_5, .ref q_7, .ref q_9, .int 0, .ref q_11, .ref q_13, .ref q_15, .ref q_17, .ref q_19, .null, .null, .int 0, .int 0, .int 0])), (q_1, .inl (c_2, 36, .inr (.inl fn2))), (q_3, .inl (c_4, 144, .inl f_132)), (q_5, .inl (c_6, 36, .inl f_133)), (q_7, .inl (c_8, 36, .inl fw)), (q_9, .inl (c_10, 10, .inr (.inr (.inr (.inr (fun _ => none))))))] H := hP
          have hD : va_D A [(q, .inr (0, [.ref q_1, .ref q_3, .ref q_5, .ref q_7, .ref q_9, .int 0, .ref q_11, .ref q_13, .ref q_15, .ref q_17, .ref q_19, .null, .null, .int 0, .int 0, .int 0])), (q_1, .inl (c_2, 36, .inr (.inl fn2))), (q_3, .inl (c_4, 144, .inl f_132)), (q_5, .inl (c_6, 36, .inl f_133)), (q_7, .inl (c_8, 36, .inl fw)), (q_9, .inl (c_10, 10, .inr (.inr (.inr (.inr (fun _ => none))))))] := hD
          have hfk3 : f_133 k = nI (a + 1) := by rw [ef_133, nI_clamp (by omega)]; exact pk_us
          have hfj3 : ∀ j, k < j → f_133 j = 0 := fun j hj => by rw [ef_133, nI_clamp (by omega), pk_un (by omega)]; exact hfj j hj
          refine lv_iinc (v := (nI (kp k + (a + 1)))) (lv' := [(2, .int (nI (kp k + (a + 1)))), (3, .int (nI k)), (1, .int (nI na2)), (0, .ref q)]) hx hb dX0_init_212 hl (k := 1) rfl (by rw [show kp k + (a + 1) = kp k + a + 1 by omega]; exact nI_1 _) (by decide) rfl (fun ls hl => ?_)
          refine lv_goto (tgt := 158) hx hb dX0_init_215 (by decide) ?_
          exact ih158 (a + 1, f_132, f_133) H locs ls (show kl k - (a + 1) < kl k - a by omega) ⟨hP.sub [0, 1, 2, 3, 4, 5] rfl, hD.sub [0, 1, 2, 3, 4, 5] (by decide) rfl, hS, lv_sub hl [1, 0, 2, 3] rfl, trivial, (by omega), hfk3, hfj3⟩
      · refine lv_aload_n hx hb dX0_init_122 rfl (lv_at hl 3 rfl) ?_
        refine va_get (D := (dC, dI)) (ci := 0) (v := .ref q_1) (C := RX0) (T := TX0) (N := 16) hx hb ht uX0 hown hK hP 0 rfl rfl 0 (by decide) (ht _ k_1_141) (fun _ h9 => h9) rfl dX0_init_123 ?_
        refine lv_iload_n hx hb dX0_init_126 rfl (lv_at hl 0 rfl) ?_
        refine lv_aload_n hx hb dX0_init_127 rfl (lv_at hl 3 rfl) ?_
        refine va_get (D := (dC, dI)) (ci := 0) (v := .ref q_1) (C := RX0) (T := TX0) (N := 16) hx hb ht uX0 hown hK hP 0 rfl rfl 0 (by decide) (ht _ k_1_141) (fun _ h9 => h9) rfl dX0_init_128 ?_
        refine lv_iload_n hx hb dX0_init_131 rfl (lv_at hl 0 rfl) ?_
        refine va_lald hx hb hK hP 1 0 rfl rfl (vp_in_nI (by omega) (by decide)) dX0_init_132 ?_
        refine lv_topl (fun x_134 ex_134 => ?_)
        refine lv_ldc2 (v := 27) hx hb hown (ht _ k_1_95) dX0_init_133 ?_
        refine lv_lmul hx hb dX0_init_136 ?_
        refine lv_topl (fun x_135 ex_135 => ?_)
        refine va_ldcS hx hb hown (xf_r hE 0 rfl) dX0_init_137 ?_
        refine lv_iload_n hx hb dX0_init_139 rfl (lv_at hl 2 rfl) ?_
        refine ca_i (wr := [(q, .inr (0, [.ref q_1, .ref q_3, .ref q_5, .ref q_7, .ref q_9, .int 0, .ref q_11, .ref q_13, .ref q_15, .ref q_17, .ref q_19, .null, .null, .int 0, .int 0, .int 0])), (q_1, .inl (c_2, 36, .inr (.inl fn2))), (q_3, .inl (c_4, 144, .inl fk)), (q_5, .inl (c_6, 36, .inl fa)), (q_7, .inl (c_8, 36, .inl fw)), (q_9, .inl (c_10, 10, .inr (.inr (.inr (.inr (fun _ => none))))))]) (va_runV (As := [.int (nI na2)]) (rest := [.long x_135, .int (nI k), .ref q_1]) ⟨hx, hb, hml, hown, ht⟩ (j_charAt l dC dI H.size n1 m1 bsN (nI na2)  (vp_in_nI (show na2 < bsN.length from hlt2) (by decide)) (by decide)) (cwV 1 ht (gdV k_1_60 k_1_57 k_1_58 k_1_59 k_1_3) rfl rfl rfl (by decide +kernel) ⟨Nat.le_of_ble_eq_true rfl, Nat.le_of_ble_eq_true rfl⟩) ⟨pcx_blind, st_recv (xf_s hE 2 rfl).1 hS, pcx_at hP hD hK hS hA hE [] [] [2, 4, 5] (by decide) rfl rfl rfl rfl⟩ rfl rfl hl.1 rfl (lv_room (Nat.le_of_ble_eq_true rfl)) dX0_init_140 ⟨Nat.le_of_ble_eq_true rfl, Nat.le_of_ble_eq_true rfl⟩) hP hD hK hS hA [] [0, 1, 2, 3, 4, 5] rfl rfl (by decide) (by decide) (fun r_136 u H locs w_137 hK hP hD hS => ?_)
        have hK : va_K (dC, dI) cls [(c_2, .long), (c_4, .int), (c_6, .int), (c_8, .int), (c_10, .object "FinderHouse$Term"), (c_12, .boolean), (c_14, .int), (c_16, .int), (c_18, .int), (c_20, .int)] s := hK
        have hP : va_P (dC, dI) cls [(q, .inr (0, [.ref q_1, .ref q_3, .ref q_5, .ref q_7, .ref q_9, .int 0, .ref q_11, .ref q_13, .ref q_15, .ref q_17, .ref q_19, .null, .null, .int 0, .int 0, .int 0])), (q_1, .inl (c_2, 36, .inr (.inl fn2))), (q_3, .inl (c_4, 144, .inl fk)), (q_5, .inl (c_6, 36, .inl fa)), (q_7, .inl (c_8, 36, .inl fw)), (q_9, .inl (c_10, 10, .inr (.inr (.inr (.inr (fun _ => none))))))] H := hP
        have hD : va_D A [(q, .inr (0, [.ref q_1, .ref q_3, .ref q_5, .ref q_7, .ref q_9, .int 0, .ref q_11, .ref q_13, .ref q_15, .ref q_17, .ref q_19, .null, .null, .int 0, .int 0, .int 0])), (q_1, .inl (c_2, 36, .inr (.inl fn2))), (q_3, .inl (c_4, 144, .inl fk)), (q_5, .inl (c_6, 36, .inl fa)), (q_7, .inl (c_8, 36, .inl fw)), (q_9, .inl (c_10, 10, .inr (.inr (.inr (.inr (fun _ => none))))))] := hD
        refine lv_i2l hx hb dX0_init_143 rfl ?_
        refine lv_topl (fun x_138 ex_138 => ?_)
        refine lv_ladd hx hb dX0_init_144 ?_
        refine lv_topl (fun x_139 ex_139 => ?_)
        refine lv_ldc2 (v := 97) hx hb hown (ht _ k_1_96) dX0_init_145 ?_
        refine lv_lsub hx hb dX0_init_148 ?_
        refine lv_topl (fun x_140 ex_140 => ?_)
        refine lv_lconst (v := 1) hx hb dX0_init_149 (by decide) ?_
        refine lv_ladd hx hb dX0_init_150 ?_
        refine lv_topl (fun x_141 ex_141 => ?_)
        refine va_last (i := (nI k)) (x := x_141) hx hb hK hP hD hS 1 0 rfl rfl (vp_in_nI (by omega) (by decide)) dX0_init_151 (fun H locs hP hD hS => ?_)
        obtain ⟨f_142, ef_142⟩ : ∃ g : Nat → Int64, g = vp_updL fn2 (nI k).toNatClampNeg x_141 := ⟨_, rfl⟩
        rw [← ef_142] at hP hD
        have hP : va_P (dC, dI) cls [(q, .inr (0, [.ref q_1, .ref q_3, .ref q_5, .ref q_7, .ref q_9, .int 0, .ref q_11, .ref q_13, .ref q_15, .ref q_17, .ref q_19, .null, .null, .int 0, .int 0, .int 0])), (q_1, .inl (c_2, 36, .inr (.inl f_142))), (q_3, .inl (c_4, 144, .inl fk)), (q_5, .inl (c_6, 36, .inl fa)), (q_7, .inl (c_8, 36, .inl fw)), (q_9, .inl (c_10, 10, .inr (.inr (.inr (.inr (fun _ => none))))))] H := hP
        have hD : va_D A [(q, .inr (0, [.ref q_1, .ref q_3, .ref q_5, .ref q_7, .ref q_9, .int 0, .ref q_11, .ref q_13, .ref q_15, .ref q_17, .ref q_19, .null, .null, .int 0, .int 0, .int 0])), (q_1, .inl (c_2, 36, .inr (.inl f_142))), (q_3, .inl (c_4, 144, .inl fk)), (q_5, .inl (c_6, 36, .inl fa)), (q_7, .inl (c_8, 36, .inl fw)), (q_9, .inl (c_10, 10, .inr (.inr (.inr (.inr (fun _ => none))))))] := hD
        refine lv_iinc (v := (nI (na2 + 1))) (lv' := [(1, .int (nI (na2 + 1))), (3, .int (nI k)), (2, .int (nI (kp k))), (0, .ref q)]) hx hb dX0_init_152 hl (k := 2) rfl (nI_1 na2) (by decide) rfl (fun ls hl => ?_)
        refine lv_goto (tgt := 102) hx hb dX0_init_155 (by decide) ?_
        exact ih102 (na2 + 1, f_142) H locs ls (show 112 - (na2 + 1) < 112 - na2 by omega) ⟨hP.sub [0, 1, 2, 3, 4, 5] rfl, hD.sub [0, 1, 2, 3, 4, 5] (by decide) rfl, hS, lv_sub hl [1, 2, 0, 3] rfl, trivial, (by omega)⟩
