theorem dX15_blocksFor_0 : decode cX15_blocksFor 0 = .ok (.iload_n 0, 1) := by decide +kernel
theorem dX15_blocksFor_1 : decode cX15_blocksFor 1 = .ok (.bipush 121, 2) := by decide +kernel
theorem dX15_blocksFor_3 : decode cX15_blocksFor 3 = .ok (.iadd, 1) := by decide +kernel
theorem dX15_blocksFor_4 : decode cX15_blocksFor 4 = .ok (.iconst 1, 1) := by decide +kernel
theorem dX15_blocksFor_5 : decode cX15_blocksFor 5 = .ok (.isub, 1) := by decide +kernel
theorem dX15_blocksFor_6 : decode cX15_blocksFor 6 = .ok (.bipush 121, 2) := by decide +kernel
theorem dX15_blocksFor_8 : decode cX15_blocksFor 8 = .ok (.idiv, 1) := by decide +kernel
theorem dX15_blocksFor_9 : decode cX15_blocksFor 9 = .ok (.ireturn, 1) := by decide +kernel
theorem dX15_hasRoom_0 : decode cX15_hasRoom 0 = .ok (.aload_n 0, 1) := by decide +kernel
theorem dX15_hasRoom_1 : decode cX15_hasRoom 1 = .ok (.getfield 800, 3) := by decide +kernel
theorem dX15_hasRoom_4 : decode cX15_hasRoom 4 = .ok (.iload_n 1, 1) := by decide +kernel
theorem dX15_hasRoom_5 : decode cX15_hasRoom 5 = .ok (.iadd, 1) := by decide +kernel
theorem dX15_hasRoom_6 : decode cX15_hasRoom 6 = .ok (.iconst 3, 1) := by decide +kernel
theorem dX15_hasRoom_7 : decode cX15_hasRoom 7 = .ok (.iadd, 1) := by decide +kernel
theorem k_13_194 : Jvm.Cond.code ({ cls := "FinderHouseModel", name := "blocksFor", desc := "(I)I" } : Jvm.MethodName) prog_14_method_198_code (1 : Nat) (Option.some Jvm.ClassFile.FieldType.int) ∈ tb := tb13 194 (by decide +kernel) (by decide +kernel)
theorem k_13_192 : Jvm.Cond.methodLink "FinderHouseModel" (1263 : Nat) ({ cls := "FinderHouseModel", name := "blocksFor", desc := "(I)I" } : Jvm.MethodName) ∈ tb := tb13 192 (by decide +kernel) (by decide +kernel)
theorem k_13_193 : Jvm.Cond.static ({ cls := "FinderHouseModel", name := "blocksFor", desc := "(I)I" } : Jvm.MethodName) ∈ tb := tb13 193 (by decide +kernel) (by decide +kernel)
theorem dX15_hasRoom_8 : decode cX15_hasRoom 8 = .ok (.invokestatic 1263, 3) := by decide +kernel
theorem dX15_hasRoom_11 : decode cX15_hasRoom 11 = .ok (.sipush 200, 3) := by decide +kernel
theorem dX15_hasRoom_14 : decode cX15_hasRoom 14 = .ok (.aload_n 0, 1) := by decide +kernel
theorem dX15_hasRoom_15 : decode cX15_hasRoom 15 = .ok (.getfield 803, 3) := by decide +kernel
theorem dX15_hasRoom_18 : decode cX15_hasRoom 18 = .ok (.isub, 1) := by decide +kernel
theorem dX15_hasRoom_19 : decode cX15_hasRoom 19 = .ok (.if_icmp .gt 7, 3) := by decide +kernel
theorem dX15_hasRoom_22 : decode cX15_hasRoom 22 = .ok (.iconst 1, 1) := by decide +kernel
theorem dX15_hasRoom_23 : decode cX15_hasRoom 23 = .ok (.goto 4, 3) := by decide +kernel
theorem dX15_hasRoom_27 : decode cX15_hasRoom 27 = .ok (.ireturn, 1) := by decide +kernel
theorem dX15_record_0 : decode cX15_record 0 = .ok (.aload_n 0, 1) := by decide +kernel
theorem k_11_103 : Jvm.Cond.fieldLink "FinderHouseModel" (298 : Nat) "FinderHouseModel" "waiting" "[I" ∈ tb := tb11 103 (by decide +kernel) (by decide +kernel)
theorem dX15_record_1 : decode cX15_record 1 = .ok (.getfield 298, 3) := by decide +kernel
theorem dX15_record_4 : decode cX15_record 4 = .ok (.aload_n 0, 1) := by decide +kernel
theorem dX15_record_5 : decode cX15_record 5 = .ok (.getfield 800, 3) := by decide +kernel
theorem dX15_record_8 : decode cX15_record 8 = .ok (.iload_n 1, 1) := by decide +kernel
theorem dX15_record_9 : decode cX15_record 9 = .ok (.iastore, 1) := by decide +kernel
theorem dX15_record_10 : decode cX15_record 10 = .ok (.aload_n 0, 1) := by decide +kernel
theorem dX15_record_11 : decode cX15_record 11 = .ok (.getfield 298, 3) := by decide +kernel
theorem dX15_record_14 : decode cX15_record 14 = .ok (.aload_n 0, 1) := by decide +kernel
theorem dX15_record_15 : decode cX15_record 15 = .ok (.getfield 800, 3) := by decide +kernel
theorem dX15_record_18 : decode cX15_record 18 = .ok (.iconst 1, 1) := by decide +kernel
theorem dX15_record_19 : decode cX15_record 19 = .ok (.iadd, 1) := by decide +kernel
theorem dX15_record_20 : decode cX15_record 20 = .ok (.iload 4, 2) := by decide +kernel
theorem dX15_record_22 : decode cX15_record 22 = .ok (.iload_n 3, 1) := by decide +kernel
theorem dX15_record_23 : decode cX15_record 23 = .ok (.isub, 1) := by decide +kernel
theorem dX15_record_24 : decode cX15_record 24 = .ok (.bipush 8, 2) := by decide +kernel
theorem dX15_record_26 : decode cX15_record 26 = .ok (.ishr, 1) := by decide +kernel
theorem dX15_record_27 : decode cX15_record 27 = .ok (.iastore, 1) := by decide +kernel
theorem dX15_record_28 : decode cX15_record 28 = .ok (.aload_n 0, 1) := by decide +kernel
theorem dX15_record_29 : decode cX15_record 29 = .ok (.getfield 298, 3) := by decide +kernel
theorem dX15_record_32 : decode cX15_record 32 = .ok (.aload_n 0, 1) := by decide +kernel
theorem dX15_record_33 : decode cX15_record 33 = .ok (.getfield 800, 3) := by decide +kernel
theorem dX15_record_36 : decode cX15_record 36 = .ok (.iconst 2, 1) := by decide +kernel
theorem dX15_record_37 : decode cX15_record 37 = .ok (.iadd, 1) := by decide +kernel
theorem dX15_record_38 : decode cX15_record 38 = .ok (.iload 4, 2) := by decide +kernel
theorem dX15_record_40 : decode cX15_record 40 = .ok (.iload_n 3, 1) := by decide +kernel
theorem dX15_record_41 : decode cX15_record 41 = .ok (.isub, 1) := by decide +kernel
theorem dX15_record_42 : decode cX15_record 42 = .ok (.sipush 255, 3) := by decide +kernel
theorem dX15_record_45 : decode cX15_record 45 = .ok (.iand, 1) := by decide +kernel
theorem dX15_record_46 : decode cX15_record 46 = .ok (.iastore, 1) := by decide +kernel
theorem dX15_record_47 : decode cX15_record 47 = .ok (.iload_n 3, 1) := by decide +kernel
theorem dX15_record_48 : decode cX15_record 48 = .ok (.istore 5, 2) := by decide +kernel
theorem dX15_record_50 : decode cX15_record 50 = .ok (.iload 5, 2) := by decide +kernel
theorem dX15_record_52 : decode cX15_record 52 = .ok (.iload 4, 2) := by decide +kernel
theorem dX15_record_54 : decode cX15_record 54 = .ok (.if_icmp .ge 29, 3) := by decide +kernel
theorem dX15_record_57 : decode cX15_record 57 = .ok (.aload_n 0, 1) := by decide +kernel
theorem dX15_record_58 : decode cX15_record 58 = .ok (.getfield 298, 3) := by decide +kernel
theorem dX15_record_61 : decode cX15_record 61 = .ok (.aload_n 0, 1) := by decide +kernel
theorem dX15_record_62 : decode cX15_record 62 = .ok (.getfield 800, 3) := by decide +kernel
theorem dX15_record_65 : decode cX15_record 65 = .ok (.iconst 3, 1) := by decide +kernel
theorem dX15_record_66 : decode cX15_record 66 = .ok (.iadd, 1) := by decide +kernel
theorem dX15_record_67 : decode cX15_record 67 = .ok (.iload 5, 2) := by decide +kernel
theorem dX15_record_69 : decode cX15_record 69 = .ok (.iadd, 1) := by decide +kernel
theorem dX15_record_70 : decode cX15_record 70 = .ok (.iload_n 3, 1) := by decide +kernel
theorem dX15_record_71 : decode cX15_record 71 = .ok (.isub, 1) := by decide +kernel
theorem dX15_record_72 : decode cX15_record 72 = .ok (.aload_n 2, 1) := by decide +kernel
theorem dX15_record_73 : decode cX15_record 73 = .ok (.iload 5, 2) := by decide +kernel
theorem dX15_record_75 : decode cX15_record 75 = .ok (.iaload, 1) := by decide +kernel
theorem dX15_record_76 : decode cX15_record 76 = .ok (.iastore, 1) := by decide +kernel
theorem dX15_record_77 : decode cX15_record 77 = .ok (.iinc 5 1, 3) := by decide +kernel
theorem dX15_record_80 : decode cX15_record 80 = .ok (.goto (-30), 3) := by decide +kernel
theorem dX15_record_83 : decode cX15_record 83 = .ok (.aload_n 0, 1) := by decide +kernel
theorem dX15_record_84 : decode cX15_record 84 = .ok (.dup, 1) := by decide +kernel
theorem dX15_record_85 : decode cX15_record 85 = .ok (.getfield 800, 3) := by decide +kernel
theorem dX15_record_88 : decode cX15_record 88 = .ok (.iconst 3, 1) := by decide +kernel
theorem dX15_record_89 : decode cX15_record 89 = .ok (.iload 4, 2) := by decide +kernel
theorem dX15_record_91 : decode cX15_record 91 = .ok (.iadd, 1) := by decide +kernel
theorem dX15_record_92 : decode cX15_record 92 = .ok (.iload_n 3, 1) := by decide +kernel
theorem dX15_record_93 : decode cX15_record 93 = .ok (.isub, 1) := by decide +kernel
theorem dX15_record_94 : decode cX15_record 94 = .ok (.iadd, 1) := by decide +kernel
theorem dX15_record_95 : decode cX15_record 95 = .ok (.putfield 800, 3) := by decide +kernel
theorem dX15_record_98 : decode cX15_record 98 = .ok (.aload_n 0, 1) := by decide +kernel
theorem dX15_record_99 : decode cX15_record 99 = .ok (.dup, 1) := by decide +kernel
theorem dX15_record_100 : decode cX15_record 100 = .ok (.getfield 797, 3) := by decide +kernel
theorem dX15_record_103 : decode cX15_record 103 = .ok (.iconst 1, 1) := by decide +kernel
theorem dX15_record_104 : decode cX15_record 104 = .ok (.iadd, 1) := by decide +kernel
theorem dX15_record_105 : decode cX15_record 105 = .ok (.putfield 797, 3) := by decide +kernel
theorem dX15_record_108 : decode cX15_record 108 = .ok (.return_, 1) := by decide +kernel
theorem dX15_word__0 : decode cX15_word_ 0 = .ok (.aload_n 0, 1) := by decide +kernel
theorem dX15_word__1 : decode cX15_word_ 1 = .ok (.getfield 418, 3) := by decide +kernel
theorem dX15_word__4 : decode cX15_word_ 4 = .ok (.iload_n 1, 1) := by decide +kernel
theorem dX15_word__5 : decode cX15_word_ 5 = .ok (.isub, 1) := by decide +kernel
theorem dX15_word__6 : decode cX15_word_ 6 = .ok (.istore 4, 2) := by decide +kernel
theorem dX15_word__8 : decode cX15_word_ 8 = .ok (.iload 4, 2) := by decide +kernel
theorem dX15_word__10 : decode cX15_word_ 10 = .ok (.bipush 8, 2) := by decide +kernel
theorem dX15_word__12 : decode cX15_word_ 12 = .ok (.if_icmp .gt 7, 3) := by decide +kernel
theorem dX15_word__15 : decode cX15_word_ 15 = .ok (.iconst 1, 1) := by decide +kernel
theorem dX15_word__16 : decode cX15_word_ 16 = .ok (.goto 4, 3) := by decide +kernel
theorem dX15_word__20 : decode cX15_word_ 20 = .ok (.istore 5, 2) := by decide +kernel
theorem dX15_word__22 : decode cX15_word_ 22 = .ok (.iconst 0, 1) := by decide +kernel
theorem dX15_word__23 : decode cX15_word_ 23 = .ok (.istore 6, 2) := by decide +kernel
theorem dX15_word__25 : decode cX15_word_ 25 = .ok (.iconst 0, 1) := by decide +kernel
theorem dX15_word__26 : decode cX15_word_ 26 = .ok (.istore 7, 2) := by decide +kernel
theorem dX15_word__28 : decode cX15_word_ 28 = .ok (.iload 7, 2) := by decide +kernel
theorem dX15_word__30 : decode cX15_word_ 30 = .ok (.iload 4, 2) := by decide +kernel
theorem dX15_word__32 : decode cX15_word_ 32 = .ok (.if_icmp .ge 66, 3) := by decide +kernel
theorem dX15_word__98 : decode cX15_word_ 98 = .ok (.iload 5, 2) := by decide +kernel
theorem dX15_word__100 : decode cX15_word_ 100 = .ok (.ifCond .ne 5, 3) := by decide +kernel
theorem dX15_word__105 : decode cX15_word_ 105 = .ok (.iconst 0, 1) := by decide +kernel
theorem dX15_word__106 : decode cX15_word_ 106 = .ok (.istore 7, 2) := by decide +kernel
theorem dX15_word__108 : decode cX15_word_ 108 = .ok (.iload 7, 2) := by decide +kernel
theorem dX15_word__110 : decode cX15_word_ 110 = .ok (.aload_n 0, 1) := by decide +kernel
theorem dX15_word__111 : decode cX15_word_ 111 = .ok (.getfield 794, 3) := by decide +kernel
theorem dX15_word__114 : decode cX15_word_ 114 = .ok (.if_icmp .ge 54, 3) := by decide +kernel
theorem dX15_word__168 : decode cX15_word_ 168 = .ok (.aload_n 0, 1) := by decide +kernel
theorem dX15_word__169 : decode cX15_word_ 169 = .ok (.getfield 794, 3) := by decide +kernel
theorem dX15_word__172 : decode cX15_word_ 172 = .ok (.bipush 20, 2) := by decide +kernel
theorem dX15_word__174 : decode cX15_word_ 174 = .ok (.if_icmp .eq 18, 3) := by decide +kernel
theorem dX15_word__177 : decode cX15_word_ 177 = .ok (.iload_n 3, 1) := by decide +kernel
theorem dX15_word__178 : decode cX15_word_ 178 = .ok (.ifCond .eq 17, 3) := by decide +kernel
theorem dX15_word__181 : decode cX15_word_ 181 = .ok (.aload_n 0, 1) := by decide +kernel
theorem dX15_word__182 : decode cX15_word_ 182 = .ok (.iload 4, 2) := by decide +kernel
theorem dX15_word__184 : decode cX15_word_ 184 = .ok (.iconst 1, 1) := by decide +kernel
theorem dX15_word__185 : decode cX15_word_ 185 = .ok (.iadd, 1) := by decide +kernel
theorem k_13_191 : Jvm.Cond.code ({ cls := "FinderHouseModel", name := "hasRoom", desc := "(I)Z" } : Jvm.MethodName) prog_14_method_199_code (2 : Nat) (Option.some Jvm.ClassFile.FieldType.boolean) ∈ tb := tb13 191 (by decide +kernel) (by decide +kernel)
theorem k_13_188 : Jvm.Cond.methodLink "FinderHouseModel" (856 : Nat) ({ cls := "FinderHouseModel", name := "hasRoom", desc := "(I)Z" } : Jvm.MethodName) ∈ tb := tb13 188 (by decide +kernel) (by decide +kernel)
theorem k_13_190 : Jvm.Cond.instanceMethod ({ cls := "FinderHouseModel", name := "hasRoom", desc := "(I)Z" } : Jvm.MethodName) ∈ tb := tb13 190 (by decide +kernel) (by decide +kernel)
theorem ks_148 : Jvm.Cond.selects "FinderHouseModel" ({ cls := "FinderHouseModel", name := "hasRoom", desc := "(I)Z" } : Jvm.MethodName) ({ cls := "FinderHouseModel", name := "hasRoom", desc := "(I)Z" } : Jvm.MethodName) ∈ tb := tbp 148 (by decide +kernel) (by decide +kernel)
theorem dX15_word__186 : decode cX15_word_ 186 = .ok (.invokevirtual 856, 3) := by decide +kernel
theorem dX15_word__189 : decode cX15_word_ 189 = .ok (.ifCond .ne 6, 3) := by decide +kernel
theorem dX15_word__195 : decode cX15_word_ 195 = .ok (.iload_n 3, 1) := by decide +kernel
theorem dX15_word__196 : decode cX15_word_ 196 = .ok (.ifCond .eq 66, 3) := by decide +kernel
theorem dX15_word__199 : decode cX15_word_ 199 = .ok (.aload_n 0, 1) := by decide +kernel
theorem k_10_206 : Jvm.Cond.fieldLink "FinderHouseModel" (83 : Nat) "FinderHouseModel" "made" "[I" ∈ tb := tb10 206 (by decide +kernel) (by decide +kernel)
theorem dX15_word__200 : decode cX15_word_ 200 = .ok (.getfield 83, 3) := by decide +kernel
theorem dX15_word__203 : decode cX15_word_ 203 = .ok (.iconst 0, 1) := by decide +kernel
theorem dX15_word__204 : decode cX15_word_ 204 = .ok (.iload_n 2, 1) := by decide +kernel
theorem dX15_word__205 : decode cX15_word_ 205 = .ok (.ifCond .eq 7, 3) := by decide +kernel
theorem dX15_word__212 : decode cX15_word_ 212 = .ok (.iconst 0, 1) := by decide +kernel
theorem dX15_word__213 : decode cX15_word_ 213 = .ok (.iastore, 1) := by decide +kernel
theorem dX15_word__214 : decode cX15_word_ 214 = .ok (.iconst 0, 1) := by decide +kernel
theorem dX15_word__215 : decode cX15_word_ 215 = .ok (.istore 7, 2) := by decide +kernel
theorem dX15_word__217 : decode cX15_word_ 217 = .ok (.iload 7, 2) := by decide +kernel
theorem dX15_word__219 : decode cX15_word_ 219 = .ok (.iload 4, 2) := by decide +kernel
theorem dX15_word__221 : decode cX15_word_ 221 = .ok (.if_icmp .ge 27, 3) := by decide +kernel
theorem dX15_word__248 : decode cX15_word_ 248 = .ok (.aload_n 0, 1) := by decide +kernel
theorem dX15_word__249 : decode cX15_word_ 249 = .ok (.iconst 4, 1) := by decide +kernel
theorem dX15_word__250 : decode cX15_word_ 250 = .ok (.aload_n 0, 1) := by decide +kernel
theorem dX15_word__251 : decode cX15_word_ 251 = .ok (.getfield 83, 3) := by decide +kernel
theorem dX15_word__254 : decode cX15_word_ 254 = .ok (.iconst 0, 1) := by decide +kernel
theorem dX15_word__255 : decode cX15_word_ 255 = .ok (.iload 4, 2) := by decide +kernel
theorem dX15_word__257 : decode cX15_word_ 257 = .ok (.iconst 1, 1) := by decide +kernel
theorem dX15_word__258 : decode cX15_word_ 258 = .ok (.iadd, 1) := by decide +kernel
theorem k_13_198 : Jvm.Cond.code ({ cls := "FinderHouseModel", name := "record", desc := "(I[III)V" } : Jvm.MethodName) prog_14_method_200_code (6 : Nat) (Option.none : Option Jvm.ClassFile.FieldType) ∈ tb := tb13 198 (by decide +kernel) (by decide +kernel)
theorem k_13_195 : Jvm.Cond.methodLink "FinderHouseModel" (859 : Nat) ({ cls := "FinderHouseModel", name := "record", desc := "(I[III)V" } : Jvm.MethodName) ∈ tb := tb13 195 (by decide +kernel) (by decide +kernel)
theorem k_13_197 : Jvm.Cond.instanceMethod ({ cls := "FinderHouseModel", name := "record", desc := "(I[III)V" } : Jvm.MethodName) ∈ tb := tb13 197 (by decide +kernel) (by decide +kernel)
theorem ks_149 : Jvm.Cond.selects "FinderHouseModel" ({ cls := "FinderHouseModel", name := "record", desc := "(I[III)V" } : Jvm.MethodName) ({ cls := "FinderHouseModel", name := "record", desc := "(I[III)V" } : Jvm.MethodName) ∈ tb := tbp 149 (by decide +kernel) (by decide +kernel)
theorem dX15_word__259 : decode cX15_word_ 259 = .ok (.invokevirtual 859, 3) := by decide +kernel
theorem dX15_word__262 : decode cX15_word_ 262 = .ok (.aload_n 0, 1) := by decide +kernel
theorem k_11_77 : Jvm.Cond.fieldLink "FinderHouseModel" (265 : Nat) "FinderHouseModel" "wordSize" "[I" ∈ tb := tb11 77 (by decide +kernel) (by decide +kernel)
theorem dX15_word__263 : decode cX15_word_ 263 = .ok (.getfield 265, 3) := by decide +kernel
theorem dX15_word__266 : decode cX15_word_ 266 = .ok (.aload_n 0, 1) := by decide +kernel
theorem dX15_word__267 : decode cX15_word_ 267 = .ok (.getfield 794, 3) := by decide +kernel
theorem dX15_word__270 : decode cX15_word_ 270 = .ok (.iload 4, 2) := by decide +kernel
theorem dX15_word__272 : decode cX15_word_ 272 = .ok (.iastore, 1) := by decide +kernel
theorem dX15_word__273 : decode cX15_word_ 273 = .ok (.aload_n 0, 1) := by decide +kernel
theorem k_11_78 : Jvm.Cond.fieldLink "FinderHouseModel" (268 : Nat) "FinderHouseModel" "wordBits" "[I" ∈ tb := tb11 78 (by decide +kernel) (by decide +kernel)
theorem dX15_word__274 : decode cX15_word_ 274 = .ok (.getfield 268, 3) := by decide +kernel
theorem dX15_word__277 : decode cX15_word_ 277 = .ok (.aload_n 0, 1) := by decide +kernel
theorem dX15_word__278 : decode cX15_word_ 278 = .ok (.getfield 794, 3) := by decide +kernel
theorem dX15_word__281 : decode cX15_word_ 281 = .ok (.iload 6, 2) := by decide +kernel
theorem dX15_word__283 : decode cX15_word_ 283 = .ok (.iastore, 1) := by decide +kernel
theorem dX15_word__284 : decode cX15_word_ 284 = .ok (.aload_n 0, 1) := by decide +kernel
theorem k_11_79 : Jvm.Cond.fieldLink "FinderHouseModel" (271 : Nat) "FinderHouseModel" "wordGood" "[Z" ∈ tb := tb11 79 (by decide +kernel) (by decide +kernel)
theorem dX15_word__285 : decode cX15_word_ 285 = .ok (.getfield 271, 3) := by decide +kernel
theorem dX15_word__288 : decode cX15_word_ 288 = .ok (.aload_n 0, 1) := by decide +kernel
theorem dX15_word__289 : decode cX15_word_ 289 = .ok (.getfield 794, 3) := by decide +kernel
theorem dX15_word__292 : decode cX15_word_ 292 = .ok (.iload_n 2, 1) := by decide +kernel
theorem dX15_word__293 : decode cX15_word_ 293 = .ok (.bastore, 1) := by decide +kernel
theorem dX15_word__294 : decode cX15_word_ 294 = .ok (.aload_n 0, 1) := by decide +kernel
theorem dX15_word__295 : decode cX15_word_ 295 = .ok (.dup, 1) := by decide +kernel
theorem dX15_word__296 : decode cX15_word_ 296 = .ok (.getfield 794, 3) := by decide +kernel
theorem dX15_word__299 : decode cX15_word_ 299 = .ok (.iconst 1, 1) := by decide +kernel
theorem dX15_word__300 : decode cX15_word_ 300 = .ok (.iadd, 1) := by decide +kernel
theorem dX15_word__301 : decode cX15_word_ 301 = .ok (.putfield 794, 3) := by decide +kernel
theorem dX15_word__304 : decode cX15_word_ 304 = .ok (.aload_n 0, 1) := by decide +kernel
theorem dX15_word__305 : decode cX15_word_ 305 = .ok (.getfield 794, 3) := by decide +kernel
theorem dX15_word__308 : decode cX15_word_ 308 = .ok (.ireturn, 1) := by decide +kernel
theorem dX15_word__208 : decode cX15_word_ 208 = .ok (.iconst 1, 1) := by decide +kernel
theorem dX15_word__209 : decode cX15_word_ 209 = .ok (.goto 4, 3) := by decide +kernel
theorem dX15_word_0 : decode cX15_word 0 = .ok (.aload_n 0, 1) := by decide +kernel
theorem dX15_word_1 : decode cX15_word 1 = .ok (.invokevirtual 785, 3) := by decide +kernel
theorem dX15_word_4 : decode cX15_word 4 = .ok (.ifCond .eq 6, 3) := by decide +kernel
theorem dX15_word_10 : decode cX15_word 10 = .ok (.aload_n 0, 1) := by decide +kernel
theorem dX15_word_11 : decode cX15_word 11 = .ok (.invokevirtual 806, 3) := by decide +kernel
theorem dX15_word_14 : decode cX15_word 14 = .ok (.aload_n 0, 1) := by decide +kernel
theorem dX15_word_15 : decode cX15_word 15 = .ok (.iconst 0, 1) := by decide +kernel
theorem dX15_word_16 : decode cX15_word 16 = .ok (.iload_n 1, 1) := by decide +kernel
theorem dX15_word_17 : decode cX15_word 17 = .ok (.iconst 1, 1) := by decide +kernel
theorem k_15_212 : Jvm.Cond.code ({ cls := "FinderHouseModel", name := "word", desc := "(IZZ)I" } : Jvm.MethodName) prog_14_method_175_code (9 : Nat) (Option.some Jvm.ClassFile.FieldType.int) ∈ tb := tb15 212 (by decide +kernel) (by decide +kernel)
theorem k_15_209 : Jvm.Cond.methodLink "FinderHouseModel" (1146 : Nat) ({ cls := "FinderHouseModel", name := "word", desc := "(IZZ)I" } : Jvm.MethodName) ∈ tb := tb15 209 (by decide +kernel) (by decide +kernel)
theorem k_15_211 : Jvm.Cond.instanceMethod ({ cls := "FinderHouseModel", name := "word", desc := "(IZZ)I" } : Jvm.MethodName) ∈ tb := tb15 211 (by decide +kernel) (by decide +kernel)
theorem ks_231 : Jvm.Cond.selects "FinderHouseModel" ({ cls := "FinderHouseModel", name := "word", desc := "(IZZ)I" } : Jvm.MethodName) ({ cls := "FinderHouseModel", name := "word", desc := "(IZZ)I" } : Jvm.MethodName) ∈ tb := tbp 231 (by decide +kernel) (by decide +kernel)
theorem dX15_word_18 : decode cX15_word 18 = .ok (.invokevirtual 1146, 3) := by decide +kernel
theorem dX15_word_21 : decode cX15_word 21 = .ok (.ireturn, 1) := by decide +kernel
set_option maxHeartbeats 4000000 in
set_option maxRecDepth 100000 in
theorem r_blocksFor (l : Launch) (dC : Nat → ClassId) (dI : Nat → Nat → Nat) (sz : Nat)   : Met l yX15_blocksFor (Cond.code yX15_blocksFor cX15_blocksFor 1 (some .int) :: tb) ({ frames := 0, cells := 0, slots := 0, locals := 0 }) (pcw [.int 4] (dC, dI) [] [] sz) (va_Qi (fun (r : Int32) => (fun (_ : Unit) => r = 1)) (bw (dC, dI) (va_A [] sz) (fun (_ : Unit) => []) (fun (_ : Unit) => [])) (va_A [] sz)) 0 0 (va_A [] sz) := by
  refine Met.ofW (cc := cX15_blocksFor) (maxL := 1) (ret := (some .int)) (by decide) rfl ?_
  intro p e s m args below meth c s₁ B hml hv
  obtain ⟨rfl, hsz, hP, hK, hD0⟩ := hv
  have hx := B.exec
  have hb := B.bytes
  have hr := B.returns
  have hts := atoms_spec (ws := Cond.code yX15_blocksFor cX15_blocksFor 1 (some .int) :: tb) B.pre
  have ht : ∀ w ∈ tb, w.before _ s = true := fun w h => hts w (List.mem_cons_of_mem _ h)
  have hown : s.vm.findClass RX15 = some m.cls := findClass_of_methodNamed B.named
  have hlocks := B.notSynchronized
  subst hsz
  have hD := hD0.self (sz := s.heap.size)
  generalize hAe : va_A [] s.heap.size = A at hD ⊢
  have hA : ∀ q : Nat, s.heap.size ≤ q → A q := fun q h => by rw [← hAe]; exact Or.inr h
  have hS : va_S A s.heap s.heap [] := va_S.rf
  have hl := lv_entry ([.int 4]) (n := 1) (Nat.le_of_ble_eq_true rfl)
  rw [lg_entry_eq]
  generalize (lg_sl ([.int 4]) ++ List.replicate (1 - (lg_sl ([.int 4])).length) Slot.unset).toArray = ls at hl ⊢
  have hl : lv_has ls 1 [(0, .int 4)] := hl
  have hP : va_P (dC, dI) cls [] s.heap := hP
  refine lv_iload_n hx hb dX15_blocksFor_0 rfl (lv_at hl 0 rfl) ?_
  refine lv_bipush (v := 121) hx hb dX15_blocksFor_1 (by decide) ?_
  refine lv_iadd hx hb dX15_blocksFor_3 ?_
  refine tk_i (y := 125) (by decide) ?_
  refine lv_iconst (v := 1) hx hb dX15_blocksFor_4 (by decide) ?_
  refine lv_isub hx hb dX15_blocksFor_5 ?_
  refine tk_i (y := 124) (by decide) ?_
  refine lv_bipush (v := 121) hx hb dX15_blocksFor_6 (by decide) ?_
  refine lv_idiv hx hb dX15_blocksFor_8 (by decide) ?_
  refine tk_i (y := 1) (by decide) ?_
  exact W.iret (v := 1) hx hb hr (fun t ht9 hW => ⟨⟨1, (), rfl, rfl, by rw [ht9]; exact hP.sub [] rfl, va_K.moved hW.alike (hK.sub [] rfl), hD.sub [] (by decide) rfl⟩, hS.F ht9⟩) hS.2.2 dX15_blocksFor_9
set_option maxHeartbeats 4000000 in
set_option maxRecDepth 100000 in
theorem r_hasRoom (l : Launch) (dC : Nat → ClassId) (dI : Nat → Nat → Nat) (sz : Nat) (q : Nat) (fs : List Value) (L_fs : fs.length = 163) (K156_fs : fs[156]? = some (.int 0)) (K160_fs : fs[160]? = some (.int 0)) : Met l yX15_hasRoom (Cond.code yX15_hasRoom cX15_hasRoom 2 (some .boolean) :: tb) ({ frames := 1, cells := 0, slots := 0, locals := 20 }) (pcw [.ref q, .int 1] (dC, dI) [(q, .inr (15, fs))] [] sz) (va_Qi (fun (r : Int32) => (fun (_ : Unit) => r = 1)) (bw (dC, dI) (va_A [(q, .inr (15, fs))] sz) (fun (_ : Unit) => [(q, .inr (15, fs))]) (fun (_ : Unit) => [])) (va_A [(q, .inr (15, fs))] sz)) 0 0 (va_A [(q, .inr (15, fs))] sz) := by
  refine Met.ofW (cc := cX15_hasRoom) (maxL := 2) (ret := (some .boolean)) (by decide) rfl ?_
  intro p e s m args below meth c s₁ B hml hv
  obtain ⟨rfl, hsz, hP, hK, hD0⟩ := hv
  have hx := B.exec
  have hb := B.bytes
  have hr := B.returns
  have hts := atoms_spec (ws := Cond.code yX15_hasRoom cX15_hasRoom 2 (some .boolean) :: tb) B.pre
  have ht : ∀ w ∈ tb, w.before _ s = true := fun w h => hts w (List.mem_cons_of_mem _ h)
  have hown : s.vm.findClass RX15 = some m.cls := findClass_of_methodNamed B.named
  have hlocks := B.notSynchronized
  subst hsz
  have hD := hD0.self (sz := s.heap.size)
  generalize hAe : va_A [(q, .inr (15, fs))] s.heap.size = A at hD ⊢
  have hA : ∀ q : Nat, s.heap.size ≤ q → A q := fun q h => by rw [← hAe]; exact Or.inr h
  have hS : va_S A s.heap s.heap [] := va_S.rf
  have hl := lv_entry ([.ref q, .int 1]) (n := 2) (Nat.le_of_ble_eq_true rfl)
  rw [lg_entry_eq]
  generalize (lg_sl ([.ref q, .int 1]) ++ List.replicate (2 - (lg_sl ([.ref q, .int 1])).length) Slot.unset).toArray = ls at hl ⊢
  have hl : lv_has ls 2 [(0, .ref q), (1, .int 1)] := hl
  have hP : va_P (dC, dI) cls [(q, .inr (15, fs))] s.heap := hP
  refine lv_aload_n hx hb dX15_hasRoom_0 rfl (lv_at hl 0 rfl) ?_
  refine va_get (D := (dC, dI)) (ci := 15) (v := .int 0) (C := RX15) (T := TX15) (N := 163) hx hb ht uX15 hown hK hP 0 rfl rfl 156 (by decide) (ht _ k_11_104) (fun _ h9 => h9) K156_fs dX15_hasRoom_1 ?_
  refine lv_iload_n hx hb dX15_hasRoom_4 rfl (lv_at hl 1 rfl) ?_
  refine lv_iadd hx hb dX15_hasRoom_5 ?_
  refine tk_i (y := 1) (by decide) ?_
  refine lv_iconst (v := 3) hx hb dX15_hasRoom_6 (by decide) ?_
  refine lv_iadd hx hb dX15_hasRoom_7 ?_
  refine tk_i (y := 4) (by decide) ?_
  refine ca_i (wr := [(q, .inr (15, fs))]) (va_runS (As := [.int 4]) (rest := []) ⟨hx, hb, hml, hown, ht⟩ (r_blocksFor l dC dI s.heap.size   ) (cwS 1 ht (gdS k_13_194 k_13_192 k_13_193 k_1_17) rfl rfl rfl (by decide +kernel) ⟨Nat.le_of_ble_eq_true rfl, Nat.le_of_ble_eq_true rfl⟩) ⟨pcw_blind, pcw_at hP hD hK [] [] (by decide) rfl rfl rfl⟩ rfl rfl hl.1 rfl (lv_room (Nat.le_of_ble_eq_true rfl)) dX15_hasRoom_8 ⟨Nat.le_of_ble_eq_true rfl, Nat.le_of_ble_eq_true rfl⟩) hP hD hK hS hA [] [0] rfl rfl (by decide) (by decide) (fun r_1 u H locs w_2 hK hP hD hS => ?_)
  have hK : va_K (dC, dI) cls [] s := hK
  have hP : va_P (dC, dI) cls [(q, .inr (15, fs))] H := hP
  have hD : va_D A [(q, .inr (15, fs))] := hD
  obtain rfl : r_1 = 1 := w_2
  refine lv_sipush (v := 200) hx hb dX15_hasRoom_11 (by decide) ?_
  refine lv_aload_n hx hb dX15_hasRoom_14 rfl (lv_at hl 0 rfl) ?_
  refine va_get (D := (dC, dI)) (ci := 15) (v := .int 0) (C := RX15) (T := TX15) (N := 163) hx hb ht uX15 hown hK hP 0 rfl rfl 160 (by decide) (ht _ k_11_108) (fun _ h9 => h9) K160_fs dX15_hasRoom_15 ?_
  refine lv_isub hx hb dX15_hasRoom_18 ?_
  refine tk_i (y := 200) (by decide) ?_
  refine lv_icmp_gt (tgt := 26) hx hb dX15_hasRoom_19 (by decide) (fun c0 => absurd c0 (by decide)) (fun _ => ?_)
  refine lv_iconst (v := 1) hx hb dX15_hasRoom_22 (by decide) ?_
  refine lv_goto (tgt := 27) hx hb dX15_hasRoom_23 (by decide) ?_
  exact W.zret (v := 1) hx hb hr rfl (fun t ht9 hW => ⟨⟨1, (), rfl, rfl, by rw [ht9]; exact hP.sub [0] rfl, va_K.moved hW.alike (hK.sub [] rfl), hD.sub [0] (by decide) rfl⟩, hS.F ht9⟩) hS.2.2 dX15_hasRoom_27
set_option maxHeartbeats 4000000 in
set_option maxRecDepth 100000 in
theorem r_record (l : Launch) (dC : Nat → ClassId) (dI : Nat → Nat → Nat) (sz : Nat) (q : Nat) (fs : List Value) (wa : Nat) (cA : ClassId) (fa : Nat → Int32) (md : Nat) (cM : ClassId) (fm : Nat → Int32) (ww1 : Nat) (ww2 : Nat) (ww3 : Nat) (L_fs : fs.length = 163) (K128_fs : fs[128]? = some (.int 0)) (K129_fs : fs[129]? = some (.ref ww1)) (K130_fs : fs[130]? = some (.ref ww2)) (K131_fs : fs[131]? = some (.ref ww3)) (K154_fs : fs[154]? = some (.int 0)) (K155_fs : fs[155]? = some (.ref wa)) (K156_fs : fs[156]? = some (.int 0)) : Met l yX15_record (Cond.code yX15_record cX15_record 6 none :: tb) ({ frames := 0, cells := 0, slots := 0, locals := 0 }) (pcw [.ref q, .int 4, .ref md, .int 0, .int 1] (dC, dI) [(q, .inr (15, fs)), (wa, .inl (cA, 24204, .inl fa)), (md, .inl (cM, 4000, .inl fm))] [(cA, .int), (cM, .int)] sz) (va_Qv (fun (fs1 : List Value) => (True) ∧ (fs1.length = 163) ∧ (fs1[128]? = some (.int 0)) ∧ (fs1[129]? = some (.ref ww1)) ∧ (fs1[130]? = some (.ref ww2)) ∧ (fs1[131]? = some (.ref ww3))) (bw (dC, dI) (va_A [(q, .inr (15, fs)), (wa, .inl (cA, 24204, .inl fa)), (md, .inl (cM, 4000, .inl fm))] sz) (fun (fs1 : List Value) => [(q, .inr (15, fs1))]) (fun (fs1 : List Value) => [])) (va_A [(q, .inr (15, fs)), (wa, .inl (cA, 24204, .inl fa)), (md, .inl (cM, 4000, .inl fm))] sz)) 0 0 (va_A [(q, .inr (15, fs)), (wa, .inl (cA, 24204, .inl fa)), (md, .inl (cM, 4000, .inl fm))] sz) := by
  refine Met.ofW (cc := cX15_record) (maxL := 6) (ret := none) (by decide) rfl ?_
  intro p e s m args below meth c s₁ B hml hv
  obtain ⟨rfl, hsz, hP, hK, hD0⟩ := hv
  have hx := B.exec
  have hb := B.bytes
  have hr := B.returns
  have hts := atoms_spec (ws := Cond.code yX15_record cX15_record 6 none :: tb) B.pre
  have ht : ∀ w ∈ tb, w.before _ s = true := fun w h => hts w (List.mem_cons_of_mem _ h)
  have hown : s.vm.findClass RX15 = some m.cls := findClass_of_methodNamed B.named
  have hlocks := B.notSynchronized
  subst hsz
  have hD := hD0.self (sz := s.heap.size)
  generalize hAe : va_A [(q, .inr (15, fs)), (wa, .inl (cA, 24204, .inl fa)), (md, .inl (cM, 4000, .inl fm))] s.heap.size = A at hD ⊢
  have hA : ∀ q : Nat, s.heap.size ≤ q → A q := fun q h => by rw [← hAe]; exact Or.inr h
  have hS : va_S A s.heap s.heap [] := va_S.rf
  have hl := lv_entry ([.ref q, .int 4, .ref md, .int 0, .int 1]) (n := 6) (Nat.le_of_ble_eq_true rfl)
  rw [lg_entry_eq]
  generalize (lg_sl ([.ref q, .int 4, .ref md, .int 0, .int 1]) ++ List.replicate (6 - (lg_sl ([.ref q, .int 4, .ref md, .int 0, .int 1])).length) Slot.unset).toArray = ls at hl ⊢
  have hl : lv_has ls 6 [(0, .ref q), (1, .int 4), (2, .ref md), (3, .int 0), (4, .int 1)] := hl
  have hP : va_P (dC, dI) cls [(q, .inr (15, fs)), (wa, .inl (cA, 24204, .inl fa)), (md, .inl (cM, 4000, .inl fm))] s.heap := hP
  refine lv_aload_n hx hb dX15_record_0 rfl (lv_at hl 0 rfl) ?_
  refine va_get (D := (dC, dI)) (ci := 15) (v := .ref wa) (C := RX15) (T := TX15) (N := 163) hx hb ht uX15 hown hK hP 0 rfl rfl 155 (by decide) (ht _ k_11_103) (fun _ h9 => h9) K155_fs dX15_record_1 ?_
  refine lv_aload_n hx hb dX15_record_4 rfl (lv_at hl 0 rfl) ?_
  refine va_get (D := (dC, dI)) (ci := 15) (v := .int 0) (C := RX15) (T := TX15) (N := 163) hx hb ht uX15 hown hK hP 0 rfl rfl 156 (by decide) (ht _ k_11_104) (fun _ h9 => h9) K156_fs dX15_record_5 ?_
  refine lv_iload_n hx hb dX15_record_8 rfl (lv_at hl 1 rfl) ?_
  refine va_iast (i := 0) (x := 4) hx hb hK hP hD hS 1 0 rfl rfl (by unfold vp_in; decide) dX15_record_9 (fun H locs hP hD hS => ?_)
  obtain ⟨f_1, ef_1⟩ : ∃ g : Nat → Int32, g = upd fa (0 : Int32).toNatClampNeg 4 := ⟨_, rfl⟩
  rw [← ef_1] at hP hD
  have hP : va_P (dC, dI) cls [(q, .inr (15, fs)), (wa, .inl (cA, 24204, .inl f_1)), (md, .inl (cM, 4000, .inl fm))] H := hP
  have hD : va_D A [(q, .inr (15, fs)), (wa, .inl (cA, 24204, .inl f_1)), (md, .inl (cM, 4000, .inl fm))] := hD
  refine lv_aload_n hx hb dX15_record_10 rfl (lv_at hl 0 rfl) ?_
  refine va_get (D := (dC, dI)) (ci := 15) (v := .ref wa) (C := RX15) (T := TX15) (N := 163) hx hb ht uX15 hown hK hP 0 rfl rfl 155 (by decide) (ht _ k_11_103) (fun _ h9 => h9) K155_fs dX15_record_11 ?_
  refine lv_aload_n hx hb dX15_record_14 rfl (lv_at hl 0 rfl) ?_
  refine va_get (D := (dC, dI)) (ci := 15) (v := .int 0) (C := RX15) (T := TX15) (N := 163) hx hb ht uX15 hown hK hP 0 rfl rfl 156 (by decide) (ht _ k_11_104) (fun _ h9 => h9) K156_fs dX15_record_15 ?_
  refine lv_iconst (v := 1) hx hb dX15_record_18 (by decide) ?_
  refine lv_iadd hx hb dX15_record_19 ?_
  refine tk_i (y := 1) (by decide) ?_
  refine lv_iload hx hb dX15_record_20 (lv_at hl 4 rfl) ?_
  refine lv_iload_n hx hb dX15_record_22 rfl (lv_at hl 3 rfl) ?_
  refine lv_isub hx hb dX15_record_23 ?_
  refine tk_i (y := 1) (by decide) ?_
  refine lv_bipush (v := 8) hx hb dX15_record_24 (by decide) ?_
  refine lv_ishr hx hb dX15_record_26 ?_
  refine tk_i (y := 0) (by decide) ?_
  refine va_iast (i := 1) (x := 0) hx hb hK hP hD hS 1 0 rfl rfl (by unfold vp_in; decide) dX15_record_27 (fun H locs hP hD hS => ?_)
  obtain ⟨f_2, ef_2⟩ : ∃ g : Nat → Int32, g = upd f_1 (1 : Int32).toNatClampNeg 0 := ⟨_, rfl⟩
  rw [← ef_2] at hP hD
  have hP : va_P (dC, dI) cls [(q, .inr (15, fs)), (wa, .inl (cA, 24204, .inl f_2)), (md, .inl (cM, 4000, .inl fm))] H := hP
  have hD : va_D A [(q, .inr (15, fs)), (wa, .inl (cA, 24204, .inl f_2)), (md, .inl (cM, 4000, .inl fm))] := hD
  refine lv_aload_n hx hb dX15_record_28 rfl (lv_at hl 0 rfl) ?_
  refine va_get (D := (dC, dI)) (ci := 15) (v := .ref wa) (C := RX15) (T := TX15) (N := 163) hx hb ht uX15 hown hK hP 0 rfl rfl 155 (by decide) (ht _ k_11_103) (fun _ h9 => h9) K155_fs dX15_record_29 ?_
  refine lv_aload_n hx hb dX15_record_32 rfl (lv_at hl 0 rfl) ?_
  refine va_get (D := (dC, dI)) (ci := 15) (v := .int 0) (C := RX15) (T := TX15) (N := 163) hx hb ht uX15 hown hK hP 0 rfl rfl 156 (by decide) (ht _ k_11_104) (fun _ h9 => h9) K156_fs dX15_record_33 ?_
  refine lv_iconst (v := 2) hx hb dX15_record_36 (by decide) ?_
  refine lv_iadd hx hb dX15_record_37 ?_
  refine tk_i (y := 2) (by decide) ?_
  refine lv_iload hx hb dX15_record_38 (lv_at hl 4 rfl) ?_
  refine lv_iload_n hx hb dX15_record_40 rfl (lv_at hl 3 rfl) ?_
  refine lv_isub hx hb dX15_record_41 ?_
  refine tk_i (y := 1) (by decide) ?_
  refine lv_sipush (v := 255) hx hb dX15_record_42 (by decide) ?_
  refine lv_iand hx hb dX15_record_45 ?_
  refine tk_i (y := 1) (by decide) ?_
  refine va_iast (i := 2) (x := 1) hx hb hK hP hD hS 1 0 rfl rfl (by unfold vp_in; decide) dX15_record_46 (fun H locs hP hD hS => ?_)
  obtain ⟨f_3, ef_3⟩ : ∃ g : Nat → Int32, g = upd f_2 (2 : Int32).toNatClampNeg 1 := ⟨_, rfl⟩
  rw [← ef_3] at hP hD
  have hP : va_P (dC, dI) cls [(q, .inr (15, fs)), (wa, .inl (cA, 24204, .inl f_3)), (md, .inl (cM, 4000, .inl fm))] H := hP
  have hD : va_D A [(q, .inr (15, fs)), (wa, .inl (cA, 24204, .inl f_3)), (md, .inl (cM, 4000, .inl fm))] := hD
  refine lv_iload_n hx hb dX15_record_47 rfl (lv_at hl 3 rfl) ?_
  refine lv_istore (lv' := [(5, .int 0), (0, .ref q), (1, .int 4), (2, .ref md), (3, .int 0), (4, .int 1)]) hx hb dX15_record_48 hl (by decide) rfl (fun ls hl => ?_)
  refine lv_iload hx hb dX15_record_50 (lv_at hl 0 rfl) ?_
  refine lv_iload hx hb dX15_record_52 (lv_at hl 5 rfl) ?_
  refine lv_icmp_ge (tgt := 83) hx hb dX15_record_54 (by decide) (fun c0 => absurd c0 (by decide)) (fun _ => ?_)
  refine lv_aload_n hx hb dX15_record_57 rfl (lv_at hl 1 rfl) ?_
  refine va_get (D := (dC, dI)) (ci := 15) (v := .ref wa) (C := RX15) (T := TX15) (N := 163) hx hb ht uX15 hown hK hP 0 rfl rfl 155 (by decide) (ht _ k_11_103) (fun _ h9 => h9) K155_fs dX15_record_58 ?_
  refine lv_aload_n hx hb dX15_record_61 rfl (lv_at hl 1 rfl) ?_
  refine va_get (D := (dC, dI)) (ci := 15) (v := .int 0) (C := RX15) (T := TX15) (N := 163) hx hb ht uX15 hown hK hP 0 rfl rfl 156 (by decide) (ht _ k_11_104) (fun _ h9 => h9) K156_fs dX15_record_62 ?_
  refine lv_iconst (v := 3) hx hb dX15_record_65 (by decide) ?_
  refine lv_iadd hx hb dX15_record_66 ?_
  refine tk_i (y := 3) (by decide) ?_
  refine lv_iload hx hb dX15_record_67 (lv_at hl 0 rfl) ?_
  refine lv_iadd hx hb dX15_record_69 ?_
  refine tk_i (y := 3) (by decide) ?_
  refine lv_iload_n hx hb dX15_record_70 rfl (lv_at hl 4 rfl) ?_
  refine lv_isub hx hb dX15_record_71 ?_
  refine tk_i (y := 3) (by decide) ?_
  refine lv_aload_n hx hb dX15_record_72 rfl (lv_at hl 3 rfl) ?_
  refine lv_iload hx hb dX15_record_73 (lv_at hl 0 rfl) ?_
  refine va_iald hx hb hK hP 2 1 rfl rfl (by unfold vp_in; decide) dX15_record_75 ?_
  refine tk_i (y := fm 0) (by first | rfl | decide) ?_
  refine lv_topi (fun x_4 ex_4 => ?_)
  refine va_iast (i := 3) (x := x_4) hx hb hK hP hD hS 1 0 rfl rfl (by unfold vp_in; decide) dX15_record_76 (fun H locs hP hD hS => ?_)
  obtain ⟨f_5, ef_5⟩ : ∃ g : Nat → Int32, g = upd f_3 (3 : Int32).toNatClampNeg x_4 := ⟨_, rfl⟩
  rw [← ef_5] at hP hD
  have hP : va_P (dC, dI) cls [(q, .inr (15, fs)), (wa, .inl (cA, 24204, .inl f_5)), (md, .inl (cM, 4000, .inl fm))] H := hP
  have hD : va_D A [(q, .inr (15, fs)), (wa, .inl (cA, 24204, .inl f_5)), (md, .inl (cM, 4000, .inl fm))] := hD
  refine lv_iinc (v := 1) (lv' := [(5, .int 1), (0, .ref q), (1, .int 4), (2, .ref md), (3, .int 0), (4, .int 1)]) hx hb dX15_record_77 hl (k := 0) rfl (by decide) (by decide) rfl (fun ls hl => ?_)
  refine lv_goto (tgt := 50) hx hb dX15_record_80 (by decide) ?_
  refine lv_iload hx hb dX15_record_50 (lv_at hl 0 rfl) ?_
  refine lv_iload hx hb dX15_record_52 (lv_at hl 5 rfl) ?_
  refine lv_icmp_ge (tgt := 83) hx hb dX15_record_54 (by decide) (fun _ => ?_) (fun c0 => absurd c0 (by decide))
  refine lv_aload_n hx hb dX15_record_83 rfl (lv_at hl 1 rfl) ?_
  refine lv_dup hx hb dX15_record_84 rfl ?_
  refine va_get (D := (dC, dI)) (ci := 15) (v := .int 0) (C := RX15) (T := TX15) (N := 163) hx hb ht uX15 hown hK hP 0 rfl rfl 156 (by decide) (ht _ k_11_104) (fun _ h9 => h9) K156_fs dX15_record_85 ?_
  refine lv_iconst (v := 3) hx hb dX15_record_88 (by decide) ?_
  refine lv_iload hx hb dX15_record_89 (lv_at hl 5 rfl) ?_
  refine lv_iadd hx hb dX15_record_91 ?_
  refine tk_i (y := 4) (by decide) ?_
  refine lv_iload_n hx hb dX15_record_92 rfl (lv_at hl 4 rfl) ?_
  refine lv_isub hx hb dX15_record_93 ?_
  refine tk_i (y := 4) (by decide) ?_
  refine lv_iadd hx hb dX15_record_94 ?_
  refine tk_i (y := 4) (by decide) ?_
  refine va_put (D := (dC, dI)) (ci := 15) (v := .int 4) (ty := .int) (C := RX15) (T := TX15) (N := 163) hx hb ht uX15 tyX15 tkX15 nmX15 hown hK hP hD hS 0 rfl rfl 156 (by decide) (ht _ k_11_104) (fun _ h9 => h9) rfl (by decide +kernel) rfl rfl (by rw [L_fs]; decide) dX15_record_95 (fun H locs hP hD hS => ?_)
  obtain ⟨F_6, eF_6⟩ : ∃ g : List Value, g = fs.set 156 (.int 4) := ⟨_, rfl⟩
  rw [← eF_6] at hP hD
  have K128_F_6 : F_6[128]? = some (.int 0) := by rw [eF_6, List.getElem?_set_ne (by decide)]; exact K128_fs
  have K129_F_6 : F_6[129]? = some (.ref ww1) := by rw [eF_6, List.getElem?_set_ne (by decide)]; exact K129_fs
  have K130_F_6 : F_6[130]? = some (.ref ww2) := by rw [eF_6, List.getElem?_set_ne (by decide)]; exact K130_fs
  have K131_F_6 : F_6[131]? = some (.ref ww3) := by rw [eF_6, List.getElem?_set_ne (by decide)]; exact K131_fs
  have K154_F_6 : F_6[154]? = some (.int 0) := by rw [eF_6, List.getElem?_set_ne (by decide)]; exact K154_fs
  have K155_F_6 : F_6[155]? = some (.ref wa) := by rw [eF_6, List.getElem?_set_ne (by decide)]; exact K155_fs
  have K156_F_6 : F_6[156]? = some (.int 4) := by rw [eF_6]; exact List.getElem?_set_self (by rw [L_fs]; decide)
  have L_F_6 : F_6.length = 163 := by rw [eF_6, List.length_set]; exact L_fs
  have hP : va_P (dC, dI) cls [(q, .inr (15, F_6)), (wa, .inl (cA, 24204, .inl f_5)), (md, .inl (cM, 4000, .inl fm))] H := hP
  have hD : va_D A [(q, .inr (15, F_6)), (wa, .inl (cA, 24204, .inl f_5)), (md, .inl (cM, 4000, .inl fm))] := hD
  refine lv_aload_n hx hb dX15_record_98 rfl (lv_at hl 1 rfl) ?_
  refine lv_dup hx hb dX15_record_99 rfl ?_
  refine va_get (D := (dC, dI)) (ci := 15) (v := .int 0) (C := RX15) (T := TX15) (N := 163) hx hb ht uX15 hown hK hP 0 rfl rfl 154 (by decide) (ht _ k_11_102) (fun _ h9 => h9) K154_F_6 dX15_record_100 ?_
  refine lv_iconst (v := 1) hx hb dX15_record_103 (by decide) ?_
  refine lv_iadd hx hb dX15_record_104 ?_
  refine tk_i (y := 1) (by decide) ?_
  refine va_put (D := (dC, dI)) (ci := 15) (v := .int 1) (ty := .int) (C := RX15) (T := TX15) (N := 163) hx hb ht uX15 tyX15 tkX15 nmX15 hown hK hP hD hS 0 rfl rfl 154 (by decide) (ht _ k_11_102) (fun _ h9 => h9) rfl (by decide +kernel) rfl rfl (by rw [L_F_6]; decide) dX15_record_105 (fun H locs hP hD hS => ?_)
  obtain ⟨F_7, eF_7⟩ : ∃ g : List Value, g = F_6.set 154 (.int 1) := ⟨_, rfl⟩
  rw [← eF_7] at hP hD
  have K128_F_7 : F_7[128]? = some (.int 0) := by rw [eF_7, List.getElem?_set_ne (by decide)]; exact K128_F_6
  have K129_F_7 : F_7[129]? = some (.ref ww1) := by rw [eF_7, List.getElem?_set_ne (by decide)]; exact K129_F_6
  have K130_F_7 : F_7[130]? = some (.ref ww2) := by rw [eF_7, List.getElem?_set_ne (by decide)]; exact K130_F_6
  have K131_F_7 : F_7[131]? = some (.ref ww3) := by rw [eF_7, List.getElem?_set_ne (by decide)]; exact K131_F_6
  have K155_F_7 : F_7[155]? = some (.ref wa) := by rw [eF_7, List.getElem?_set_ne (by decide)]; exact K155_F_6
  have K156_F_7 : F_7[156]? = some (.int 4) := by rw [eF_7, List.getElem?_set_ne (by decide)]; exact K156_F_6
  have K154_F_7 : F_7[154]? = some (.int 1) := by rw [eF_7]; exact List.getElem?_set_self (by rw [L_F_6]; decide)
  have L_F_7 : F_7.length = 163 := by rw [eF_7, List.length_set]; exact L_F_6
  have hP : va_P (dC, dI) cls [(q, .inr (15, F_7)), (wa, .inl (cA, 24204, .inl f_5)), (md, .inl (cM, 4000, .inl fm))] H := hP
  have hD : va_D A [(q, .inr (15, F_7)), (wa, .inl (cA, 24204, .inl f_5)), (md, .inl (cM, 4000, .inl fm))] := hD
  exact W.vret hx hb hr (fun t ht9 hW => ⟨⟨(F_7), rfl, ⟨trivial, L_F_7, K128_F_7, K129_F_7, K130_F_7, K131_F_7⟩, by rw [ht9]; exact hP.sub [0] rfl, va_K.moved hW.alike (hK.sub [] rfl), hD.sub [0] (by decide) rfl⟩, hS.F ht9⟩) hS.2.2 dX15_record_108
set_option maxHeartbeats 4000000 in
set_option maxRecDepth 100000 in
theorem r_word_ (l : Launch) (dC : Nat → ClassId) (dI : Nat → Nat → Nat) (sz : Nat) (q : Nat) (fs : List Value) (wa : Nat) (cA : ClassId) (fa : Nat → Int32) (md : Nat) (cM : ClassId) (fm : Nat → Int32) (ww1 : Nat) (ww2 : Nat) (ww3 : Nat) (d1 : ClassId) (g1 : Nat → Int32) (d2 : ClassId) (g2 : Nat → Int32) (d3 : ClassId) (g3 : Nat → Int32) (p0 : Int32) (L_fs : fs.length = 163) (K18_fs : fs[18]? = some (.ref md)) (K25_fs : fs[25]? = some (.int 0)) (K128_fs : fs[128]? = some (.int 0)) (K129_fs : fs[129]? = some (.ref ww1)) (K130_fs : fs[130]? = some (.ref ww2)) (K131_fs : fs[131]? = some (.ref ww3)) (K154_fs : fs[154]? = some (.int 0)) (K155_fs : fs[155]? = some (.ref wa)) (K156_fs : fs[156]? = some (.int 0)) (K160_fs : fs[160]? = some (.int 0)) : Met l yX15_word_ (Cond.code yX15_word_ cX15_word_ 9 (some .int) :: tb) ({ frames := 2, cells := 0, slots := 0, locals := 41 }) (pcw [.ref q, .int 0, .int p0, .int 1] (dC, dI) [(q, .inr (15, fs)), (wa, .inl (cA, 24204, .inl fa)), (md, .inl (cM, 4000, .inl fm)), (ww1, .inl (d1, 20, .inl g1)), (ww2, .inl (d2, 20, .inl g2)), (ww3, .inl (d3, 20, .inl g3))] [(cA, .int), (cM, .int), (d1, .int), (d2, .int), (d3, .boolean)] sz) (va_Qi (fun (r : Int32) => (fun (_ : Unit) => r = 1)) (bw (dC, dI) (va_A [(q, .inr (15, fs)), (wa, .inl (cA, 24204, .inl fa)), (md, .inl (cM, 4000, .inl fm)), (ww1, .inl (d1, 20, .inl g1)), (ww2, .inl (d2, 20, .inl g2)), (ww3, .inl (d3, 20, .inl g3))] sz) (fun (_ : Unit) => []) (fun (_ : Unit) => [])) (va_A [(q, .inr (15, fs)), (wa, .inl (cA, 24204, .inl fa)), (md, .inl (cM, 4000, .inl fm)), (ww1, .inl (d1, 20, .inl g1)), (ww2, .inl (d2, 20, .inl g2)), (ww3, .inl (d3, 20, .inl g3))] sz)) 0 0 (va_A [(q, .inr (15, fs)), (wa, .inl (cA, 24204, .inl fa)), (md, .inl (cM, 4000, .inl fm)), (ww1, .inl (d1, 20, .inl g1)), (ww2, .inl (d2, 20, .inl g2)), (ww3, .inl (d3, 20, .inl g3))] sz) := by
  refine Met.ofW (cc := cX15_word_) (maxL := 9) (ret := (some .int)) (by decide) rfl ?_
  intro p e s m args below meth c s₁ B hml hv
  obtain ⟨rfl, hsz, hP, hK, hD0⟩ := hv
  have hx := B.exec
  have hb := B.bytes
  have hr := B.returns
  have hts := atoms_spec (ws := Cond.code yX15_word_ cX15_word_ 9 (some .int) :: tb) B.pre
  have ht : ∀ w ∈ tb, w.before _ s = true := fun w h => hts w (List.mem_cons_of_mem _ h)
  have hown : s.vm.findClass RX15 = some m.cls := findClass_of_methodNamed B.named
  have hlocks := B.notSynchronized
  subst hsz
  have hD := hD0.self (sz := s.heap.size)
  generalize hAe : va_A [(q, .inr (15, fs)), (wa, .inl (cA, 24204, .inl fa)), (md, .inl (cM, 4000, .inl fm)), (ww1, .inl (d1, 20, .inl g1)), (ww2, .inl (d2, 20, .inl g2)), (ww3, .inl (d3, 20, .inl g3))] s.heap.size = A at hD ⊢
  have hA : ∀ q : Nat, s.heap.size ≤ q → A q := fun q h => by rw [← hAe]; exact Or.inr h
  have hS : va_S A s.heap s.heap [] := va_S.rf
  have hl := lv_entry ([.ref q, .int 0, .int p0, .int 1]) (n := 9) (Nat.le_of_ble_eq_true rfl)
  rw [lg_entry_eq]
  generalize (lg_sl ([.ref q, .int 0, .int p0, .int 1]) ++ List.replicate (9 - (lg_sl ([.ref q, .int 0, .int p0, .int 1])).length) Slot.unset).toArray = ls at hl ⊢
  have hl : lv_has ls 9 [(0, .ref q), (1, .int 0), (2, .int p0), (3, .int 1)] := hl
  have hP : va_P (dC, dI) cls [(q, .inr (15, fs)), (wa, .inl (cA, 24204, .inl fa)), (md, .inl (cM, 4000, .inl fm)), (ww1, .inl (d1, 20, .inl g1)), (ww2, .inl (d2, 20, .inl g2)), (ww3, .inl (d3, 20, .inl g3))] s.heap := hP
  refine lv_aload_n hx hb dX15_word__0 rfl (lv_at hl 0 rfl) ?_
  refine va_get (D := (dC, dI)) (ci := 15) (v := .int 0) (C := RX15) (T := TX15) (N := 163) hx hb ht uX15 hown hK hP 0 rfl rfl 25 (by decide) (ht _ k_10_213) (fun _ h9 => h9) K25_fs dX15_word__1 ?_
  refine lv_iload_n hx hb dX15_word__4 rfl (lv_at hl 1 rfl) ?_
  refine lv_isub hx hb dX15_word__5 ?_
  refine tk_i (y := 0) (by decide) ?_
  refine lv_istore (lv' := [(4, .int 0), (0, .ref q), (1, .int 0), (2, .int p0), (3, .int 1)]) hx hb dX15_word__6 hl (by decide) rfl (fun ls hl => ?_)
  refine lv_iload hx hb dX15_word__8 (lv_at hl 0 rfl) ?_
  refine lv_bipush (v := 8) hx hb dX15_word__10 (by decide) ?_
  refine lv_icmp_gt (tgt := 19) hx hb dX15_word__12 (by decide) (fun c0 => absurd c0 (by decide)) (fun _ => ?_)
  refine lv_iconst (v := 1) hx hb dX15_word__15 (by decide) ?_
  refine lv_goto (tgt := 20) hx hb dX15_word__16 (by decide) ?_
  refine lv_istore (lv' := [(5, .int 1), (4, .int 0), (0, .ref q), (1, .int 0), (2, .int p0), (3, .int 1)]) hx hb dX15_word__20 hl (by decide) rfl (fun ls hl => ?_)
  refine lv_iconst (v := 0) hx hb dX15_word__22 (by decide) ?_
  refine lv_istore (lv' := [(6, .int 0), (5, .int 1), (4, .int 0), (0, .ref q), (1, .int 0), (2, .int p0), (3, .int 1)]) hx hb dX15_word__23 hl (by decide) rfl (fun ls hl => ?_)
  refine lv_iconst (v := 0) hx hb dX15_word__25 (by decide) ?_
  refine lv_istore (lv' := [(7, .int 0), (6, .int 0), (5, .int 1), (4, .int 0), (0, .ref q), (1, .int 0), (2, .int p0), (3, .int 1)]) hx hb dX15_word__26 hl (by decide) rfl (fun ls hl => ?_)
  refine lv_iload hx hb dX15_word__28 (lv_at hl 0 rfl) ?_
  refine lv_iload hx hb dX15_word__30 (lv_at hl 3 rfl) ?_
  refine lv_icmp_ge (tgt := 98) hx hb dX15_word__32 (by decide) (fun _ => ?_) (fun c0 => absurd c0 (by decide))
  refine lv_iload hx hb dX15_word__98 (lv_at hl 2 rfl) ?_
  refine lv_if_ne (tgt := 105) hx hb dX15_word__100 (by decide) (fun _ => ?_) (fun c0 => absurd c0 (by decide))
  refine lv_iconst (v := 0) hx hb dX15_word__105 (by decide) ?_
  refine lv_istore (lv' := [(7, .int 0), (6, .int 0), (5, .int 1), (4, .int 0), (0, .ref q), (1, .int 0), (2, .int p0), (3, .int 1)]) hx hb dX15_word__106 hl (by decide) rfl (fun ls hl => ?_)
  refine lv_iload hx hb dX15_word__108 (lv_at hl 0 rfl) ?_
  refine lv_aload_n hx hb dX15_word__110 rfl (lv_at hl 4 rfl) ?_
  refine va_get (D := (dC, dI)) (ci := 15) (v := .int 0) (C := RX15) (T := TX15) (N := 163) hx hb ht uX15 hown hK hP 0 rfl rfl 128 (by decide) (ht _ k_11_76) (fun _ h9 => h9) K128_fs dX15_word__111 ?_
  refine lv_icmp_ge (tgt := 168) hx hb dX15_word__114 (by decide) (fun _ => ?_) (fun c0 => absurd c0 (by decide))
  refine lv_aload_n hx hb dX15_word__168 rfl (lv_at hl 4 rfl) ?_
  refine va_get (D := (dC, dI)) (ci := 15) (v := .int 0) (C := RX15) (T := TX15) (N := 163) hx hb ht uX15 hown hK hP 0 rfl rfl 128 (by decide) (ht _ k_11_76) (fun _ h9 => h9) K128_fs dX15_word__169 ?_
  refine lv_bipush (v := 20) hx hb dX15_word__172 (by decide) ?_
  refine lv_icmp_eq (tgt := 192) hx hb dX15_word__174 (by decide) (fun c0 => absurd c0 (by decide)) (fun _ => ?_)
  refine lv_iload_n hx hb dX15_word__177 rfl (lv_at hl 7 rfl) ?_
  refine lv_if_eq (tgt := 195) hx hb dX15_word__178 (by decide) (fun c0 => absurd c0 (by decide)) (fun _ => ?_)
  refine lv_aload_n hx hb dX15_word__181 rfl (lv_at hl 4 rfl) ?_
  refine lv_iload hx hb dX15_word__182 (lv_at hl 3 rfl) ?_
  refine lv_iconst (v := 1) hx hb dX15_word__184 (by decide) ?_
  refine lv_iadd hx hb dX15_word__185 ?_
  refine tk_i (y := 1) (by decide) ?_
  refine ca_i (wr := [(wa, .inl (cA, 24204, .inl fa)), (md, .inl (cM, 4000, .inl fm)), (ww1, .inl (d1, 20, .inl g1)), (ww2, .inl (d2, 20, .inl g2)), (ww3, .inl (d3, 20, .inl g3))]) (va_runV (As := [.int 1]) (rest := []) ⟨hx, hb, hml, hown, ht⟩ (r_hasRoom l dC dI s.heap.size q fs L_fs K156_fs K160_fs ) (cwV 1 ht (gdV k_13_191 k_13_188 k_13_190 ks_148 k_1_17) rfl rfl rfl (by decide +kernel) ⟨Nat.le_of_ble_eq_true rfl, Nat.le_of_ble_eq_true rfl⟩) ⟨pcw_blind, va_recv hK hP (ci := 15) (q0 := 0) rfl rfl, pcw_at hP hD hK [0] [] (by decide) rfl rfl rfl⟩ rfl rfl hl.1 rfl (lv_room (Nat.le_of_ble_eq_true rfl)) dX15_word__186 ⟨Nat.le_of_ble_eq_true rfl, Nat.le_of_ble_eq_true rfl⟩) hP hD hK hS hA [0] [1, 2, 3, 4, 5] rfl rfl (by decide) (by decide) (fun r_1 u H locs w_2 hK hP hD hS => ?_)
  have hK : va_K (dC, dI) cls [(cA, .int), (cM, .int), (d1, .int), (d2, .int), (d3, .boolean)] s := hK
  have hP : va_P (dC, dI) cls [(wa, .inl (cA, 24204, .inl fa)), (md, .inl (cM, 4000, .inl fm)), (ww1, .inl (d1, 20, .inl g1)), (ww2, .inl (d2, 20, .inl g2)), (ww3, .inl (d3, 20, .inl g3)), (q, .inr (15, fs))] H := hP
  have hD : va_D A [(wa, .inl (cA, 24204, .inl fa)), (md, .inl (cM, 4000, .inl fm)), (ww1, .inl (d1, 20, .inl g1)), (ww2, .inl (d2, 20, .inl g2)), (ww3, .inl (d3, 20, .inl g3)), (q, .inr (15, fs))] := hD
  obtain rfl : r_1 = 1 := w_2
  refine lv_if_ne (tgt := 195) hx hb dX15_word__189 (by decide) (fun _ => ?_) (fun c0 => absurd c0 (by decide))
  refine lv_iload_n hx hb dX15_word__195 rfl (lv_at hl 7 rfl) ?_
  refine lv_if_eq (tgt := 262) hx hb dX15_word__196 (by decide) (fun c0 => absurd c0 (by decide)) (fun _ => ?_)
  refine lv_aload_n hx hb dX15_word__199 rfl (lv_at hl 4 rfl) ?_
  refine va_get (D := (dC, dI)) (ci := 15) (v := .ref md) (C := RX15) (T := TX15) (N := 163) hx hb ht uX15 hown hK hP 5 rfl rfl 18 (by decide) (ht _ k_10_206) (fun _ h9 => h9) K18_fs dX15_word__200 ?_
  refine lv_iconst (v := 0) hx hb dX15_word__203 (by decide) ?_
  refine lv_iload_n hx hb dX15_word__204 rfl (lv_at hl 6 rfl) ?_
  refine lv_if_eq (tgt := 212) hx hb dX15_word__205 (by decide) (fun b_3 => ?_) (fun b_3 => ?_)
  · refine lv_iconst (v := 0) hx hb dX15_word__212 (by decide) ?_
    refine va_iast (i := 0) (x := 0) hx hb hK hP hD hS 1 1 rfl rfl (by unfold vp_in; decide) dX15_word__213 (fun H locs hP hD hS => ?_)
    obtain ⟨f_4, ef_4⟩ : ∃ g : Nat → Int32, g = upd fm (0 : Int32).toNatClampNeg 0 := ⟨_, rfl⟩
    rw [← ef_4] at hP hD
    have hP : va_P (dC, dI) cls [(wa, .inl (cA, 24204, .inl fa)), (md, .inl (cM, 4000, .inl f_4)), (ww1, .inl (d1, 20, .inl g1)), (ww2, .inl (d2, 20, .inl g2)), (ww3, .inl (d3, 20, .inl g3)), (q, .inr (15, fs))] H := hP
    have hD : va_D A [(wa, .inl (cA, 24204, .inl fa)), (md, .inl (cM, 4000, .inl f_4)), (ww1, .inl (d1, 20, .inl g1)), (ww2, .inl (d2, 20, .inl g2)), (ww3, .inl (d3, 20, .inl g3)), (q, .inr (15, fs))] := hD
    refine lv_iconst (v := 0) hx hb dX15_word__214 (by decide) ?_
    refine lv_istore (lv' := [(7, .int 0), (6, .int 0), (5, .int 1), (4, .int 0), (0, .ref q), (1, .int 0), (2, .int p0), (3, .int 1)]) hx hb dX15_word__215 hl (by decide) rfl (fun ls hl => ?_)
    refine lv_iload hx hb dX15_word__217 (lv_at hl 0 rfl) ?_
    refine lv_iload hx hb dX15_word__219 (lv_at hl 3 rfl) ?_
    refine lv_icmp_ge (tgt := 248) hx hb dX15_word__221 (by decide) (fun _ => ?_) (fun c0 => absurd c0 (by decide))
    refine lv_aload_n hx hb dX15_word__248 rfl (lv_at hl 4 rfl) ?_
    refine lv_iconst (v := 4) hx hb dX15_word__249 (by decide) ?_
    refine lv_aload_n hx hb dX15_word__250 rfl (lv_at hl 4 rfl) ?_
    refine va_get (D := (dC, dI)) (ci := 15) (v := .ref md) (C := RX15) (T := TX15) (N := 163) hx hb ht uX15 hown hK hP 5 rfl rfl 18 (by decide) (ht _ k_10_206) (fun _ h9 => h9) K18_fs dX15_word__251 ?_
    refine lv_iconst (v := 0) hx hb dX15_word__254 (by decide) ?_
    refine lv_iload hx hb dX15_word__255 (lv_at hl 3 rfl) ?_
    refine lv_iconst (v := 1) hx hb dX15_word__257 (by decide) ?_
    refine lv_iadd hx hb dX15_word__258 ?_
    refine tk_i (y := 1) (by decide) ?_
    refine ca_v (wr := [(ww1, .inl (d1, 20, .inl g1)), (ww2, .inl (d2, 20, .inl g2)), (ww3, .inl (d3, 20, .inl g3))]) (va_runV (As := [.int 4, .ref md, .int 0, .int 1]) (rest := []) ⟨hx, hb, hml, hown, ht⟩ (r_record l dC dI H.size q fs wa cA fa md cM f_4 ww1 ww2 ww3 L_fs K128_fs K129_fs K130_fs K131_fs K154_fs K155_fs K156_fs ) (cwV 4 ht (gdV k_13_198 k_13_195 k_13_197 ks_149 k_1_17) rfl rfl rfl (by decide +kernel) ⟨Nat.le_of_ble_eq_true rfl, Nat.le_of_ble_eq_true rfl⟩) ⟨pcw_blind, va_recv hK hP (ci := 15) (q0 := 5) rfl rfl, pcw_at hP hD hK [5, 0, 1] [0, 1] (by decide) rfl rfl rfl⟩ rfl rfl hl.1 rfl (lv_room (Nat.le_of_ble_eq_true rfl)) dX15_word__259 ⟨Nat.le_of_ble_eq_true rfl, Nat.le_of_ble_eq_true rfl⟩) hP hD hK hS hA [5, 0, 1] [2, 3, 4] rfl rfl (by decide) (by decide) (fun u H locs w_6 hK hP hD hS => ?_)
    obtain ⟨F_7, rfl⟩ : ∃ z, z = u := ⟨_, rfl⟩
    have hK : va_K (dC, dI) cls [(cA, .int), (cM, .int), (d1, .int), (d2, .int), (d3, .boolean)] s := hK
    have hP : va_P (dC, dI) cls [(ww1, .inl (d1, 20, .inl g1)), (ww2, .inl (d2, 20, .inl g2)), (ww3, .inl (d3, 20, .inl g3)), (q, .inr (15, F_7))] H := hP
    have hD : va_D A [(ww1, .inl (d1, 20, .inl g1)), (ww2, .inl (d2, 20, .inl g2)), (ww3, .inl (d3, 20, .inl g3)), (q, .inr (15, F_7))] := hD
    obtain ⟨w_6, K_8, K_9, K_10, K_11, K_12⟩ := w_6
    refine lv_aload_n hx hb dX15_word__262 rfl (lv_at hl 4 rfl) ?_
    refine va_get (D := (dC, dI)) (ci := 15) (v := .ref ww1) (C := RX15) (T := TX15) (N := 163) hx hb ht uX15 hown hK hP 3 rfl rfl 129 (by decide) (ht _ k_11_77) (fun _ h9 => h9) K_10 dX15_word__263 ?_
    refine lv_aload_n hx hb dX15_word__266 rfl (lv_at hl 4 rfl) ?_
    refine va_get (D := (dC, dI)) (ci := 15) (v := .int 0) (C := RX15) (T := TX15) (N := 163) hx hb ht uX15 hown hK hP 3 rfl rfl 128 (by decide) (ht _ k_11_76) (fun _ h9 => h9) K_9 dX15_word__267 ?_
    refine lv_iload hx hb dX15_word__270 (lv_at hl 3 rfl) ?_
    refine va_iast (i := 0) (x := 0) hx hb hK hP hD hS 0 2 rfl rfl (by unfold vp_in; decide) dX15_word__272 (fun H locs hP hD hS => ?_)
    obtain ⟨f_13, ef_13⟩ : ∃ g : Nat → Int32, g = upd g1 (0 : Int32).toNatClampNeg 0 := ⟨_, rfl⟩
    rw [← ef_13] at hP hD
    have hP : va_P (dC, dI) cls [(ww1, .inl (d1, 20, .inl f_13)), (ww2, .inl (d2, 20, .inl g2)), (ww3, .inl (d3, 20, .inl g3)), (q, .inr (15, F_7))] H := hP
    have hD : va_D A [(ww1, .inl (d1, 20, .inl f_13)), (ww2, .inl (d2, 20, .inl g2)), (ww3, .inl (d3, 20, .inl g3)), (q, .inr (15, F_7))] := hD
    refine lv_aload_n hx hb dX15_word__273 rfl (lv_at hl 4 rfl) ?_
    refine va_get (D := (dC, dI)) (ci := 15) (v := .ref ww2) (C := RX15) (T := TX15) (N := 163) hx hb ht uX15 hown hK hP 3 rfl rfl 130 (by decide) (ht _ k_11_78) (fun _ h9 => h9) K_11 dX15_word__274 ?_
    refine lv_aload_n hx hb dX15_word__277 rfl (lv_at hl 4 rfl) ?_
    refine va_get (D := (dC, dI)) (ci := 15) (v := .int 0) (C := RX15) (T := TX15) (N := 163) hx hb ht uX15 hown hK hP 3 rfl rfl 128 (by decide) (ht _ k_11_76) (fun _ h9 => h9) K_9 dX15_word__278 ?_
    refine lv_iload hx hb dX15_word__281 (lv_at hl 1 rfl) ?_
    refine va_iast (i := 0) (x := 0) hx hb hK hP hD hS 1 3 rfl rfl (by unfold vp_in; decide) dX15_word__283 (fun H locs hP hD hS => ?_)
    obtain ⟨f_14, ef_14⟩ : ∃ g : Nat → Int32, g = upd g2 (0 : Int32).toNatClampNeg 0 := ⟨_, rfl⟩
    rw [← ef_14] at hP hD
    have hP : va_P (dC, dI) cls [(ww1, .inl (d1, 20, .inl f_13)), (ww2, .inl (d2, 20, .inl f_14)), (ww3, .inl (d3, 20, .inl g3)), (q, .inr (15, F_7))] H := hP
    have hD : va_D A [(ww1, .inl (d1, 20, .inl f_13)), (ww2, .inl (d2, 20, .inl f_14)), (ww3, .inl (d3, 20, .inl g3)), (q, .inr (15, F_7))] := hD
    refine lv_aload_n hx hb dX15_word__284 rfl (lv_at hl 4 rfl) ?_
    refine va_get (D := (dC, dI)) (ci := 15) (v := .ref ww3) (C := RX15) (T := TX15) (N := 163) hx hb ht uX15 hown hK hP 3 rfl rfl 131 (by decide) (ht _ k_11_79) (fun _ h9 => h9) K_12 dX15_word__285 ?_
    refine lv_aload_n hx hb dX15_word__288 rfl (lv_at hl 4 rfl) ?_
    refine va_get (D := (dC, dI)) (ci := 15) (v := .int 0) (C := RX15) (T := TX15) (N := 163) hx hb ht uX15 hown hK hP 3 rfl rfl 128 (by decide) (ht _ k_11_76) (fun _ h9 => h9) K_9 dX15_word__289 ?_
    refine lv_iload_n hx hb dX15_word__292 rfl (lv_at hl 6 rfl) ?_
    refine va_zast (i := 0) (x := p0) hx hb hK hP hD hS 2 4 rfl rfl (by unfold vp_in; decide) dX15_word__293 (fun H locs hP hD hS => ?_)
    obtain ⟨f_15, ef_15⟩ : ∃ g : Nat → Int32, g = upd g3 (0 : Int32).toNatClampNeg (vp_nar .boolean p0) := ⟨_, rfl⟩
    rw [← ef_15] at hP hD
    have hP : va_P (dC, dI) cls [(ww1, .inl (d1, 20, .inl f_13)), (ww2, .inl (d2, 20, .inl f_14)), (ww3, .inl (d3, 20, .inl f_15)), (q, .inr (15, F_7))] H := hP
    have hD : va_D A [(ww1, .inl (d1, 20, .inl f_13)), (ww2, .inl (d2, 20, .inl f_14)), (ww3, .inl (d3, 20, .inl f_15)), (q, .inr (15, F_7))] := hD
    refine lv_aload_n hx hb dX15_word__294 rfl (lv_at hl 4 rfl) ?_
    refine lv_dup hx hb dX15_word__295 rfl ?_
    refine va_get (D := (dC, dI)) (ci := 15) (v := .int 0) (C := RX15) (T := TX15) (N := 163) hx hb ht uX15 hown hK hP 3 rfl rfl 128 (by decide) (ht _ k_11_76) (fun _ h9 => h9) K_9 dX15_word__296 ?_
    refine lv_iconst (v := 1) hx hb dX15_word__299 (by decide) ?_
    refine lv_iadd hx hb dX15_word__300 ?_
    refine tk_i (y := 1) (by decide) ?_
    refine va_put (D := (dC, dI)) (ci := 15) (v := .int 1) (ty := .int) (C := RX15) (T := TX15) (N := 163) hx hb ht uX15 tyX15 tkX15 nmX15 hown hK hP hD hS 3 rfl rfl 128 (by decide) (ht _ k_11_76) (fun _ h9 => h9) rfl (by decide +kernel) rfl rfl (by rw [K_8]; decide) dX15_word__301 (fun H locs hP hD hS => ?_)
    obtain ⟨F_16, eF_16⟩ : ∃ g : List Value, g = F_7.set 128 (.int 1) := ⟨_, rfl⟩
    rw [← eF_16] at hP hD
    have K129_F_16 : F_16[129]? = some (.ref ww1) := by rw [eF_16, List.getElem?_set_ne (by decide)]; exact K_10
    have K130_F_16 : F_16[130]? = some (.ref ww2) := by rw [eF_16, List.getElem?_set_ne (by decide)]; exact K_11
    have K131_F_16 : F_16[131]? = some (.ref ww3) := by rw [eF_16, List.getElem?_set_ne (by decide)]; exact K_12
    have K128_F_16 : F_16[128]? = some (.int 1) := by rw [eF_16]; exact List.getElem?_set_self (by rw [K_8]; decide)
    have L_F_16 : F_16.length = 163 := by rw [eF_16, List.length_set]; exact K_8
    have hP : va_P (dC, dI) cls [(ww1, .inl (d1, 20, .inl f_13)), (ww2, .inl (d2, 20, .inl f_14)), (ww3, .inl (d3, 20, .inl f_15)), (q, .inr (15, F_16))] H := hP
    have hD : va_D A [(ww1, .inl (d1, 20, .inl f_13)), (ww2, .inl (d2, 20, .inl f_14)), (ww3, .inl (d3, 20, .inl f_15)), (q, .inr (15, F_16))] := hD
    refine lv_aload_n hx hb dX15_word__304 rfl (lv_at hl 4 rfl) ?_
    refine va_get (D := (dC, dI)) (ci := 15) (v := .int 1) (C := RX15) (T := TX15) (N := 163) hx hb ht uX15 hown hK hP 3 rfl rfl 128 (by decide) (ht _ k_11_76) (fun _ h9 => h9) K128_F_16 dX15_word__305 ?_
    exact W.iret (v := 1) hx hb hr (fun t ht9 hW => ⟨⟨1, (), rfl, rfl, by rw [ht9]; exact hP.sub [] rfl, va_K.moved hW.alike (hK.sub [] rfl), hD.sub [] (by decide) rfl⟩, hS.F ht9⟩) hS.2.2 dX15_word__308
  · refine lv_iconst (v := 1) hx hb dX15_word__208 (by decide) ?_
    refine lv_goto (tgt := 213) hx hb dX15_word__209 (by decide) ?_
    refine va_iast (i := 0) (x := 1) hx hb hK hP hD hS 1 1 rfl rfl (by unfold vp_in; decide) dX15_word__213 (fun H locs hP hD hS => ?_)
    obtain ⟨f_17, ef_17⟩ : ∃ g : Nat → Int32, g = upd fm (0 : Int32).toNatClampNeg 1 := ⟨_, rfl⟩
    rw [← ef_17] at hP hD
    have hP : va_P (dC, dI) cls [(wa, .inl (cA, 24204, .inl fa)), (md, .inl (cM, 4000, .inl f_17)), (ww1, .inl (d1, 20, .inl g1)), (ww2, .inl (d2, 20, .inl g2)), (ww3, .inl (d3, 20, .inl g3)), (q, .inr (15, fs))] H := hP
    have hD : va_D A [(wa, .inl (cA, 24204, .inl fa)), (md, .inl (cM, 4000, .inl f_17)), (ww1, .inl (d1, 20, .inl g1)), (ww2, .inl (d2, 20, .inl g2)), (ww3, .inl (d3, 20, .inl g3)), (q, .inr (15, fs))] := hD
    refine lv_iconst (v := 0) hx hb dX15_word__214 (by decide) ?_
    refine lv_istore (lv' := [(7, .int 0), (6, .int 0), (5, .int 1), (4, .int 0), (0, .ref q), (1, .int 0), (2, .int p0), (3, .int 1)]) hx hb dX15_word__215 hl (by decide) rfl (fun ls hl => ?_)
    refine lv_iload hx hb dX15_word__217 (lv_at hl 0 rfl) ?_
    refine lv_iload hx hb dX15_word__219 (lv_at hl 3 rfl) ?_
    refine lv_icmp_ge (tgt := 248) hx hb dX15_word__221 (by decide) (fun _ => ?_) (fun c0 => absurd c0 (by decide))
    refine lv_aload_n hx hb dX15_word__248 rfl (lv_at hl 4 rfl) ?_
    refine lv_iconst (v := 4) hx hb dX15_word__249 (by decide) ?_
    refine lv_aload_n hx hb dX15_word__250 rfl (lv_at hl 4 rfl) ?_
    refine va_get (D := (dC, dI)) (ci := 15) (v := .ref md) (C := RX15) (T := TX15) (N := 163) hx hb ht uX15 hown hK hP 5 rfl rfl 18 (by decide) (ht _ k_10_206) (fun _ h9 => h9) K18_fs dX15_word__251 ?_
    refine lv_iconst (v := 0) hx hb dX15_word__254 (by decide) ?_
    refine lv_iload hx hb dX15_word__255 (lv_at hl 3 rfl) ?_
    refine lv_iconst (v := 1) hx hb dX15_word__257 (by decide) ?_
    refine lv_iadd hx hb dX15_word__258 ?_
    refine tk_i (y := 1) (by decide) ?_
    refine ca_v (wr := [(ww1, .inl (d1, 20, .inl g1)), (ww2, .inl (d2, 20, .inl g2)), (ww3, .inl (d3, 20, .inl g3))]) (va_runV (As := [.int 4, .ref md, .int 0, .int 1]) (rest := []) ⟨hx, hb, hml, hown, ht⟩ (r_record l dC dI H.size q fs wa cA fa md cM f_17 ww1 ww2 ww3 L_fs K128_fs K129_fs K130_fs K131_fs K154_fs K155_fs K156_fs ) (cwV 4 ht (gdV k_13_198 k_13_195 k_13_197 ks_149 k_1_17) rfl rfl rfl (by decide +kernel) ⟨Nat.le_of_ble_eq_true rfl, Nat.le_of_ble_eq_true rfl⟩) ⟨pcw_blind, va_recv hK hP (ci := 15) (q0 := 5) rfl rfl, pcw_at hP hD hK [5, 0, 1] [0, 1] (by decide) rfl rfl rfl⟩ rfl rfl hl.1 rfl (lv_room (Nat.le_of_ble_eq_true rfl)) dX15_word__259 ⟨Nat.le_of_ble_eq_true rfl, Nat.le_of_ble_eq_true rfl⟩) hP hD hK hS hA [5, 0, 1] [2, 3, 4] rfl rfl (by decide) (by decide) (fun u H locs w_19 hK hP hD hS => ?_)
    obtain ⟨F_20, rfl⟩ : ∃ z, z = u := ⟨_, rfl⟩
    have hK : va_K (dC, dI) cls [(cA, .int), (cM, .int), (d1, .int), (d2, .int), (d3, .boolean)] s := hK
    have hP : va_P (dC, dI) cls [(ww1, .inl (d1, 20, .inl g1)), (ww2, .inl (d2, 20, .inl g2)), (ww3, .inl (d3, 20, .inl g3)), (q, .inr (15, F_20))] H := hP
    have hD : va_D A [(ww1, .inl (d1, 20, .inl g1)), (ww2, .inl (d2, 20, .inl g2)), (ww3, .inl (d3, 20, .inl g3)), (q, .inr (15, F_20))] := hD
    obtain ⟨w_19, K_21, K_22, K_23, K_24, K_25⟩ := w_19
    refine lv_aload_n hx hb dX15_word__262 rfl (lv_at hl 4 rfl) ?_
    refine va_get (D := (dC, dI)) (ci := 15) (v := .ref ww1) (C := RX15) (T := TX15) (N := 163) hx hb ht uX15 hown hK hP 3 rfl rfl 129 (by decide) (ht _ k_11_77) (fun _ h9 => h9) K_23 dX15_word__263 ?_
    refine lv_aload_n hx hb dX15_word__266 rfl (lv_at hl 4 rfl) ?_
    refine va_get (D := (dC, dI)) (ci := 15) (v := .int 0) (C := RX15) (T := TX15) (N := 163) hx hb ht uX15 hown hK hP 3 rfl rfl 128 (by decide) (ht _ k_11_76) (fun _ h9 => h9) K_22 dX15_word__267 ?_
    refine lv_iload hx hb dX15_word__270 (lv_at hl 3 rfl) ?_
    refine va_iast (i := 0) (x := 0) hx hb hK hP hD hS 0 2 rfl rfl (by unfold vp_in; decide) dX15_word__272 (fun H locs hP hD hS => ?_)
    obtain ⟨f_26, ef_26⟩ : ∃ g : Nat → Int32, g = upd g1 (0 : Int32).toNatClampNeg 0 := ⟨_, rfl⟩
    rw [← ef_26] at hP hD
    have hP : va_P (dC, dI) cls [(ww1, .inl (d1, 20, .inl f_26)), (ww2, .inl (d2, 20, .inl g2)), (ww3, .inl (d3, 20, .inl g3)), (q, .inr (15, F_20))] H := hP
    have hD : va_D A [(ww1, .inl (d1, 20, .inl f_26)), (ww2, .inl (d2, 20, .inl g2)), (ww3, .inl (d3, 20, .inl g3)), (q, .inr (15, F_20))] := hD
    refine lv_aload_n hx hb dX15_word__273 rfl (lv_at hl 4 rfl) ?_
    refine va_get (D := (dC, dI)) (ci := 15) (v := .ref ww2) (C := RX15) (T := TX15) (N := 163) hx hb ht uX15 hown hK hP 3 rfl rfl 130 (by decide) (ht _ k_11_78) (fun _ h9 => h9) K_24 dX15_word__274 ?_
    refine lv_aload_n hx hb dX15_word__277 rfl (lv_at hl 4 rfl) ?_
    refine va_get (D := (dC, dI)) (ci := 15) (v := .int 0) (C := RX15) (T := TX15) (N := 163) hx hb ht uX15 hown hK hP 3 rfl rfl 128 (by decide) (ht _ k_11_76) (fun _ h9 => h9) K_22 dX15_word__278 ?_
    refine lv_iload hx hb dX15_word__281 (lv_at hl 1 rfl) ?_
    refine va_iast (i := 0) (x := 0) hx hb hK hP hD hS 1 3 rfl rfl (by unfold vp_in; decide) dX15_word__283 (fun H locs hP hD hS => ?_)
    obtain ⟨f_27, ef_27⟩ : ∃ g : Nat → Int32, g = upd g2 (0 : Int32).toNatClampNeg 0 := ⟨_, rfl⟩
    rw [← ef_27] at hP hD
    have hP : va_P (dC, dI) cls [(ww1, .inl (d1, 20, .inl f_26)), (ww2, .inl (d2, 20, .inl f_27)), (ww3, .inl (d3, 20, .inl g3)), (q, .inr (15, F_20))] H := hP
    have hD : va_D A [(ww1, .inl (d1, 20, .inl f_26)), (ww2, .inl (d2, 20, .inl f_27)), (ww3, .inl (d3, 20, .inl g3)), (q, .inr (15, F_20))] := hD
    refine lv_aload_n hx hb dX15_word__284 rfl (lv_at hl 4 rfl) ?_
    refine va_get (D := (dC, dI)) (ci := 15) (v := .ref ww3) (C := RX15) (T := TX15) (N := 163) hx hb ht uX15 hown hK hP 3 rfl rfl 131 (by decide) (ht _ k_11_79) (fun _ h9 => h9) K_25 dX15_word__285 ?_
    refine lv_aload_n hx hb dX15_word__288 rfl (lv_at hl 4 rfl) ?_
    refine va_get (D := (dC, dI)) (ci := 15) (v := .int 0) (C := RX15) (T := TX15) (N := 163) hx hb ht uX15 hown hK hP 3 rfl rfl 128 (by decide) (ht _ k_11_76) (fun _ h9 => h9) K_22 dX15_word__289 ?_
    refine lv_iload_n hx hb dX15_word__292 rfl (lv_at hl 6 rfl) ?_
    refine va_zast (i := 0) (x := p0) hx hb hK hP hD hS 2 4 rfl rfl (by unfold vp_in; decide) dX15_word__293 (fun H locs hP hD hS => ?_)
    obtain ⟨f_28, ef_28⟩ : ∃ g : Nat → Int32, g = upd g3 (0 : Int32).toNatClampNeg (vp_nar .boolean p0) := ⟨_, rfl⟩
    rw [← ef_28] at hP hD
    have hP : va_P (dC, dI) cls [(ww1, .inl (d1, 20, .inl f_26)), (ww2, .inl (d2, 20, .inl f_27)), (ww3, .inl (d3, 20, .inl f_28)), (q, .inr (15, F_20))] H := hP
    have hD : va_D A [(ww1, .inl (d1, 20, .inl f_26)), (ww2, .inl (d2, 20, .inl f_27)), (ww3, .inl (d3, 20, .inl f_28)), (q, .inr (15, F_20))] := hD
    refine lv_aload_n hx hb dX15_word__294 rfl (lv_at hl 4 rfl) ?_
    refine lv_dup hx hb dX15_word__295 rfl ?_
    refine va_get (D := (dC, dI)) (ci := 15) (v := .int 0) (C := RX15) (T := TX15) (N := 163) hx hb ht uX15 hown hK hP 3 rfl rfl 128 (by decide) (ht _ k_11_76) (fun _ h9 => h9) K_22 dX15_word__296 ?_
    refine lv_iconst (v := 1) hx hb dX15_word__299 (by decide) ?_
    refine lv_iadd hx hb dX15_word__300 ?_
    refine tk_i (y := 1) (by decide) ?_
    refine va_put (D := (dC, dI)) (ci := 15) (v := .int 1) (ty := .int) (C := RX15) (T := TX15) (N := 163) hx hb ht uX15 tyX15 tkX15 nmX15 hown hK hP hD hS 3 rfl rfl 128 (by decide) (ht _ k_11_76) (fun _ h9 => h9) rfl (by decide +kernel) rfl rfl (by rw [K_21]; decide) dX15_word__301 (fun H locs hP hD hS => ?_)
    obtain ⟨F_29, eF_29⟩ : ∃ g : List Value, g = F_20.set 128 (.int 1) := ⟨_, rfl⟩
    rw [← eF_29] at hP hD
    have K129_F_29 : F_29[129]? = some (.ref ww1) := by rw [eF_29, List.getElem?_set_ne (by decide)]; exact K_23
    have K130_F_29 : F_29[130]? = some (.ref ww2) := by rw [eF_29, List.getElem?_set_ne (by decide)]; exact K_24
    have K131_F_29 : F_29[131]? = some (.ref ww3) := by rw [eF_29, List.getElem?_set_ne (by decide)]; exact K_25
    have K128_F_29 : F_29[128]? = some (.int 1) := by rw [eF_29]; exact List.getElem?_set_self (by rw [K_21]; decide)
    have L_F_29 : F_29.length = 163 := by rw [eF_29, List.length_set]; exact K_21
    have hP : va_P (dC, dI) cls [(ww1, .inl (d1, 20, .inl f_26)), (ww2, .inl (d2, 20, .inl f_27)), (ww3, .inl (d3, 20, .inl f_28)), (q, .inr (15, F_29))] H := hP
    have hD : va_D A [(ww1, .inl (d1, 20, .inl f_26)), (ww2, .inl (d2, 20, .inl f_27)), (ww3, .inl (d3, 20, .inl f_28)), (q, .inr (15, F_29))] := hD
    refine lv_aload_n hx hb dX15_word__304 rfl (lv_at hl 4 rfl) ?_
    refine va_get (D := (dC, dI)) (ci := 15) (v := .int 1) (C := RX15) (T := TX15) (N := 163) hx hb ht uX15 hown hK hP 3 rfl rfl 128 (by decide) (ht _ k_11_76) (fun _ h9 => h9) K128_F_29 dX15_word__305 ?_
    exact W.iret (v := 1) hx hb hr (fun t ht9 hW => ⟨⟨1, (), rfl, rfl, by rw [ht9]; exact hP.sub [] rfl, va_K.moved hW.alike (hK.sub [] rfl), hD.sub [] (by decide) rfl⟩, hS.F ht9⟩) hS.2.2 dX15_word__308
set_option maxHeartbeats 4000000 in
set_option maxRecDepth 100000 in
theorem r_takeTape_word (l : Launch) (dC : Nat → ClassId) (dI : Nat → Nat → Nat) (sz : Nat) (q : Nat) (fs : List Value) (wa : Nat) (md : Nat) (ww1 : Nat) (ww2 : Nat) (ww3 : Nat) (L_fs : fs.length = 163) (K18_fs : fs[18]? = some (.ref md)) (K53_fs : fs[53]? = some (.int 0)) (K128_fs : fs[128]? = some (.int 0)) (K129_fs : fs[129]? = some (.ref ww1)) (K130_fs : fs[130]? = some (.ref ww2)) (K131_fs : fs[131]? = some (.ref ww3)) (K154_fs : fs[154]? = some (.int 0)) (K155_fs : fs[155]? = some (.ref wa)) (K156_fs : fs[156]? = some (.int 0)) (K160_fs : fs[160]? = some (.int 0)) : Met l yX15_takeTape (Cond.code yX15_takeTape cX15_takeTape 2 none :: tb) ({ frames := 0, cells := 0, slots := 0, locals := 0 }) (pcw [.ref q] (dC, dI) [(q, .inr (15, fs))] [] sz) (va_Qv (fun (fs1 : List Value) => (True) ∧ (fs1.length = 163) ∧ (fs1[18]? = some (.ref md)) ∧ (fs1[25]? = some (.int 0)) ∧ (fs1[51]? = some (.int 0)) ∧ (fs1[53]? = some (.int 0)) ∧ (fs1[128]? = some (.int 0)) ∧ (fs1[129]? = some (.ref ww1)) ∧ (fs1[130]? = some (.ref ww2)) ∧ (fs1[131]? = some (.ref ww3)) ∧ (fs1[154]? = some (.int 0)) ∧ (fs1[155]? = some (.ref wa)) ∧ (fs1[156]? = some (.int 0)) ∧ (fs1[160]? = some (.int 0))) (bw (dC, dI) (va_A [(q, .inr (15, fs))] sz) (fun (fs1 : List Value) => [(q, .inr (15, fs1))]) (fun (fs1 : List Value) => [])) (va_A [(q, .inr (15, fs))] sz)) 0 0 (va_A [(q, .inr (15, fs))] sz) := by
  refine Met.ofW (cc := cX15_takeTape) (maxL := 2) (ret := none) (by decide) rfl ?_
  intro p e s m args below meth c s₁ B hml hv
  obtain ⟨rfl, hsz, hP, hK, hD0⟩ := hv
  have hx := B.exec
  have hb := B.bytes
  have hr := B.returns
  have hts := atoms_spec (ws := Cond.code yX15_takeTape cX15_takeTape 2 none :: tb) B.pre
  have ht : ∀ w ∈ tb, w.before _ s = true := fun w h => hts w (List.mem_cons_of_mem _ h)
  have hown : s.vm.findClass RX15 = some m.cls := findClass_of_methodNamed B.named
  have hlocks := B.notSynchronized
  subst hsz
  have hD := hD0.self (sz := s.heap.size)
  generalize hAe : va_A [(q, .inr (15, fs))] s.heap.size = A at hD ⊢
  have hA : ∀ q : Nat, s.heap.size ≤ q → A q := fun q h => by rw [← hAe]; exact Or.inr h
  have hS : va_S A s.heap s.heap [] := va_S.rf
  have hl := lv_entry ([.ref q]) (n := 2) (Nat.le_of_ble_eq_true rfl)
  rw [lg_entry_eq]
  generalize (lg_sl ([.ref q]) ++ List.replicate (2 - (lg_sl ([.ref q])).length) Slot.unset).toArray = ls at hl ⊢
  have hl : lv_has ls 2 [(0, .ref q)] := hl
  have hP : va_P (dC, dI) cls [(q, .inr (15, fs))] s.heap := hP
  refine lv_aload_n hx hb dX15_takeTape_0 rfl (lv_at hl 0 rfl) ?_
  refine lv_iconst (v := 0) hx hb dX15_takeTape_1 (by decide) ?_
  refine va_put (D := (dC, dI)) (ci := 15) (v := .int 0) (ty := .int) (C := RX15) (T := TX15) (N := 163) hx hb ht uX15 tyX15 tkX15 nmX15 hown hK hP hD hS 0 rfl rfl 51 (by decide) (ht _ k_10_239) (fun _ h9 => h9) rfl (by decide +kernel) rfl rfl (by rw [L_fs]; decide) dX15_takeTape_2 (fun H locs hP hD hS => ?_)
  obtain ⟨F_1, eF_1⟩ : ∃ g : List Value, g = fs.set 51 (.int 0) := ⟨_, rfl⟩
  rw [← eF_1] at hP hD
  have K18_F_1 : F_1[18]? = some (.ref md) := by rw [eF_1, List.getElem?_set_ne (by decide)]; exact K18_fs
  have K53_F_1 : F_1[53]? = some (.int 0) := by rw [eF_1, List.getElem?_set_ne (by decide)]; exact K53_fs
  have K128_F_1 : F_1[128]? = some (.int 0) := by rw [eF_1, List.getElem?_set_ne (by decide)]; exact K128_fs
  have K129_F_1 : F_1[129]? = some (.ref ww1) := by rw [eF_1, List.getElem?_set_ne (by decide)]; exact K129_fs
  have K130_F_1 : F_1[130]? = some (.ref ww2) := by rw [eF_1, List.getElem?_set_ne (by decide)]; exact K130_fs
  have K131_F_1 : F_1[131]? = some (.ref ww3) := by rw [eF_1, List.getElem?_set_ne (by decide)]; exact K131_fs
  have K154_F_1 : F_1[154]? = some (.int 0) := by rw [eF_1, List.getElem?_set_ne (by decide)]; exact K154_fs
  have K155_F_1 : F_1[155]? = some (.ref wa) := by rw [eF_1, List.getElem?_set_ne (by decide)]; exact K155_fs
  have K156_F_1 : F_1[156]? = some (.int 0) := by rw [eF_1, List.getElem?_set_ne (by decide)]; exact K156_fs
  have K160_F_1 : F_1[160]? = some (.int 0) := by rw [eF_1, List.getElem?_set_ne (by decide)]; exact K160_fs
  have K51_F_1 : F_1[51]? = some (.int 0) := by rw [eF_1]; exact List.getElem?_set_self (by rw [L_fs]; decide)
  have L_F_1 : F_1.length = 163 := by rw [eF_1, List.length_set]; exact L_fs
  have hP : va_P (dC, dI) cls [(q, .inr (15, F_1))] H := hP
  have hD : va_D A [(q, .inr (15, F_1))] := hD
  refine lv_iconst (v := 0) hx hb dX15_takeTape_5 (by decide) ?_
  refine lv_istore_n (lv' := [(1, .int 0), (0, .ref q)]) hx hb dX15_takeTape_6 rfl hl (by decide) rfl (fun ls hl => ?_)
  refine lv_iload_n hx hb dX15_takeTape_7 rfl (lv_at hl 0 rfl) ?_
  refine lv_aload_n hx hb dX15_takeTape_8 rfl (lv_at hl 1 rfl) ?_
  refine va_get (D := (dC, dI)) (ci := 15) (v := .int 0) (C := RX15) (T := TX15) (N := 163) hx hb ht uX15 hown hK hP 0 rfl rfl 53 (by decide) (ht _ k_11_1) (fun _ h9 => h9) K53_F_1 dX15_takeTape_9 ?_
  refine lv_icmp_ge (tgt := 33) hx hb dX15_takeTape_12 (by decide) (fun _ => ?_) (fun c0 => absurd c0 (by decide))
  refine lv_aload_n hx hb dX15_takeTape_33 rfl (lv_at hl 1 rfl) ?_
  refine lv_aload_n hx hb dX15_takeTape_34 rfl (lv_at hl 1 rfl) ?_
  refine va_get (D := (dC, dI)) (ci := 15) (v := .int 0) (C := RX15) (T := TX15) (N := 163) hx hb ht uX15 hown hK hP 0 rfl rfl 53 (by decide) (ht _ k_11_1) (fun _ h9 => h9) K53_F_1 dX15_takeTape_35 ?_
  refine va_put (D := (dC, dI)) (ci := 15) (v := .int 0) (ty := .int) (C := RX15) (T := TX15) (N := 163) hx hb ht uX15 tyX15 tkX15 nmX15 hown hK hP hD hS 0 rfl rfl 25 (by decide) (ht _ k_10_213) (fun _ h9 => h9) rfl (by decide +kernel) rfl rfl (by rw [L_F_1]; decide) dX15_takeTape_38 (fun H locs hP hD hS => ?_)
  obtain ⟨F_2, eF_2⟩ : ∃ g : List Value, g = F_1.set 25 (.int 0) := ⟨_, rfl⟩
  rw [← eF_2] at hP hD
  have K18_F_2 : F_2[18]? = some (.ref md) := by rw [eF_2, List.getElem?_set_ne (by decide)]; exact K18_F_1
  have K51_F_2 : F_2[51]? = some (.int 0) := by rw [eF_2, List.getElem?_set_ne (by decide)]; exact K51_F_1
  have K53_F_2 : F_2[53]? = some (.int 0) := by rw [eF_2, List.getElem?_set_ne (by decide)]; exact K53_F_1
  have K128_F_2 : F_2[128]? = some (.int 0) := by rw [eF_2, List.getElem?_set_ne (by decide)]; exact K128_F_1
  have K129_F_2 : F_2[129]? = some (.ref ww1) := by rw [eF_2, List.getElem?_set_ne (by decide)]; exact K129_F_1
  have K130_F_2 : F_2[130]? = some (.ref ww2) := by rw [eF_2, List.getElem?_set_ne (by decide)]; exact K130_F_1
  have K131_F_2 : F_2[131]? = some (.ref ww3) := by rw [eF_2, List.getElem?_set_ne (by decide)]; exact K131_F_1
  have K154_F_2 : F_2[154]? = some (.int 0) := by rw [eF_2, List.getElem?_set_ne (by decide)]; exact K154_F_1
  have K155_F_2 : F_2[155]? = some (.ref wa) := by rw [eF_2, List.getElem?_set_ne (by decide)]; exact K155_F_1
  have K156_F_2 : F_2[156]? = some (.int 0) := by rw [eF_2, List.getElem?_set_ne (by decide)]; exact K156_F_1
  have K160_F_2 : F_2[160]? = some (.int 0) := by rw [eF_2, List.getElem?_set_ne (by decide)]; exact K160_F_1
  have K25_F_2 : F_2[25]? = some (.int 0) := by rw [eF_2]; exact List.getElem?_set_self (by rw [L_F_1]; decide)
  have L_F_2 : F_2.length = 163 := by rw [eF_2, List.length_set]; exact L_F_1
  have hP : va_P (dC, dI) cls [(q, .inr (15, F_2))] H := hP
  have hD : va_D A [(q, .inr (15, F_2))] := hD
  refine lv_aload_n hx hb dX15_takeTape_41 rfl (lv_at hl 1 rfl) ?_
  refine lv_iconst (v := 0) hx hb dX15_takeTape_42 (by decide) ?_
  refine va_put (D := (dC, dI)) (ci := 15) (v := .int 0) (ty := .int) (C := RX15) (T := TX15) (N := 163) hx hb ht uX15 tyX15 tkX15 nmX15 hown hK hP hD hS 0 rfl rfl 53 (by decide) (ht _ k_11_1) (fun _ h9 => h9) rfl (by decide +kernel) rfl rfl (by rw [L_F_2]; decide) dX15_takeTape_43 (fun H locs hP hD hS => ?_)
  obtain ⟨F_3, eF_3⟩ : ∃ g : List Value, g = F_2.set 53 (.int 0) := ⟨_, rfl⟩
  rw [← eF_3] at hP hD
  have K18_F_3 : F_3[18]? = some (.ref md) := by rw [eF_3, List.getElem?_set_ne (by decide)]; exact K18_F_2
  have K25_F_3 : F_3[25]? = some (.int 0) := by rw [eF_3, List.getElem?_set_ne (by decide)]; exact K25_F_2
  have K51_F_3 : F_3[51]? = some (.int 0) := by rw [eF_3, List.getElem?_set_ne (by decide)]; exact K51_F_2
  have K128_F_3 : F_3[128]? = some (.int 0) := by rw [eF_3, List.getElem?_set_ne (by decide)]; exact K128_F_2
  have K129_F_3 : F_3[129]? = some (.ref ww1) := by rw [eF_3, List.getElem?_set_ne (by decide)]; exact K129_F_2
  have K130_F_3 : F_3[130]? = some (.ref ww2) := by rw [eF_3, List.getElem?_set_ne (by decide)]; exact K130_F_2
  have K131_F_3 : F_3[131]? = some (.ref ww3) := by rw [eF_3, List.getElem?_set_ne (by decide)]; exact K131_F_2
  have K154_F_3 : F_3[154]? = some (.int 0) := by rw [eF_3, List.getElem?_set_ne (by decide)]; exact K154_F_2
  have K155_F_3 : F_3[155]? = some (.ref wa) := by rw [eF_3, List.getElem?_set_ne (by decide)]; exact K155_F_2
  have K156_F_3 : F_3[156]? = some (.int 0) := by rw [eF_3, List.getElem?_set_ne (by decide)]; exact K156_F_2
  have K160_F_3 : F_3[160]? = some (.int 0) := by rw [eF_3, List.getElem?_set_ne (by decide)]; exact K160_F_2
  have K53_F_3 : F_3[53]? = some (.int 0) := by rw [eF_3]; exact List.getElem?_set_self (by rw [L_F_2]; decide)
  have L_F_3 : F_3.length = 163 := by rw [eF_3, List.length_set]; exact L_F_2
  have hP : va_P (dC, dI) cls [(q, .inr (15, F_3))] H := hP
  have hD : va_D A [(q, .inr (15, F_3))] := hD
  exact W.vret hx hb hr (fun t ht9 hW => ⟨⟨(F_3), rfl, ⟨trivial, L_F_3, K18_F_3, K25_F_3, K51_F_3, K53_F_3, K128_F_3, K129_F_3, K130_F_3, K131_F_3, K154_F_3, K155_F_3, K156_F_3, K160_F_3⟩, by rw [ht9]; exact hP.sub [0] rfl, va_K.moved hW.alike (hK.sub [] rfl), hD.sub [0] (by decide) rfl⟩, hS.F ht9⟩) hS.2.2 dX15_takeTape_46
set_option maxHeartbeats 4000000 in
set_option maxRecDepth 100000 in
theorem r_isDown_word (l : Launch) (dC : Nat → ClassId) (dI : Nat → Nat → Nat) (sz : Nat) (q : Nat) (fs : List Value) (wa : Nat) (md : Nat) (ww1 : Nat) (ww2 : Nat) (ww3 : Nat) (L_fs : fs.length = 163) (K18_fs : fs[18]? = some (.ref md)) (K53_fs : fs[53]? = some (.int 0)) (K54_fs : fs[54]? = some (.int 0)) (K128_fs : fs[128]? = some (.int 0)) (K129_fs : fs[129]? = some (.ref ww1)) (K130_fs : fs[130]? = some (.ref ww2)) (K131_fs : fs[131]? = some (.ref ww3)) (K154_fs : fs[154]? = some (.int 0)) (K155_fs : fs[155]? = some (.ref wa)) (K156_fs : fs[156]? = some (.int 0)) (K160_fs : fs[160]? = some (.int 0)) : Met l yX15_isDown (Cond.code yX15_isDown cX15_isDown 1 (some .boolean) :: tb) ({ frames := 0, cells := 0, slots := 0, locals := 0 }) (pcw [.ref q] (dC, dI) [(q, .inr (15, fs))] [] sz) (va_Qi (fun (r : Int32) => (fun (fs1 : List Value) => (r = 0) ∧ (fs1.length = 163) ∧ (fs1[18]? = some (.ref md)) ∧ (fs1[51]? = some (.int 0)) ∧ (fs1[53]? = some (.int 0)) ∧ (fs1[54]? = some (.int 0)) ∧ (fs1[128]? = some (.int 0)) ∧ (fs1[129]? = some (.ref ww1)) ∧ (fs1[130]? = some (.ref ww2)) ∧ (fs1[131]? = some (.ref ww3)) ∧ (fs1[154]? = some (.int 0)) ∧ (fs1[155]? = some (.ref wa)) ∧ (fs1[156]? = some (.int 0)) ∧ (fs1[160]? = some (.int 0)))) (bw (dC, dI) (va_A [(q, .inr (15, fs))] sz) (fun (fs1 : List Value) => [(q, .inr (15, fs1))]) (fun (fs1 : List Value) => [])) (va_A [(q, .inr (15, fs))] sz)) 0 0 (va_A [(q, .inr (15, fs))] sz) := by
  refine Met.ofW (cc := cX15_isDown) (maxL := 1) (ret := (some .boolean)) (by decide) rfl ?_
  intro p e s m args below meth c s₁ B hml hv
  obtain ⟨rfl, hsz, hP, hK, hD0⟩ := hv
  have hx := B.exec
  have hb := B.bytes
  have hr := B.returns
  have hts := atoms_spec (ws := Cond.code yX15_isDown cX15_isDown 1 (some .boolean) :: tb) B.pre
  have ht : ∀ w ∈ tb, w.before _ s = true := fun w h => hts w (List.mem_cons_of_mem _ h)
  have hown : s.vm.findClass RX15 = some m.cls := findClass_of_methodNamed B.named
  have hlocks := B.notSynchronized
  subst hsz
  have hD := hD0.self (sz := s.heap.size)
  generalize hAe : va_A [(q, .inr (15, fs))] s.heap.size = A at hD ⊢
  have hA : ∀ q : Nat, s.heap.size ≤ q → A q := fun q h => by rw [← hAe]; exact Or.inr h
  have hS : va_S A s.heap s.heap [] := va_S.rf
  have hl := lv_entry ([.ref q]) (n := 1) (Nat.le_of_ble_eq_true rfl)
  rw [lg_entry_eq]
  generalize (lg_sl ([.ref q]) ++ List.replicate (1 - (lg_sl ([.ref q])).length) Slot.unset).toArray = ls at hl ⊢
  have hl : lv_has ls 1 [(0, .ref q)] := hl
  have hP : va_P (dC, dI) cls [(q, .inr (15, fs))] s.heap := hP
  refine lv_aload_n hx hb dX15_isDown_0 rfl (lv_at hl 0 rfl) ?_
  refine lv_iconst (v := 0) hx hb dX15_isDown_1 (by decide) ?_
  refine va_put (D := (dC, dI)) (ci := 15) (v := .int 0) (ty := .int) (C := RX15) (T := TX15) (N := 163) hx hb ht uX15 tyX15 tkX15 nmX15 hown hK hP hD hS 0 rfl rfl 51 (by decide) (ht _ k_10_239) (fun _ h9 => h9) rfl (by decide +kernel) rfl rfl (by rw [L_fs]; decide) dX15_isDown_2 (fun H locs hP hD hS => ?_)
  obtain ⟨F_1, eF_1⟩ : ∃ g : List Value, g = fs.set 51 (.int 0) := ⟨_, rfl⟩
  rw [← eF_1] at hP hD
  have K18_F_1 : F_1[18]? = some (.ref md) := by rw [eF_1, List.getElem?_set_ne (by decide)]; exact K18_fs
  have K53_F_1 : F_1[53]? = some (.int 0) := by rw [eF_1, List.getElem?_set_ne (by decide)]; exact K53_fs
  have K54_F_1 : F_1[54]? = some (.int 0) := by rw [eF_1, List.getElem?_set_ne (by decide)]; exact K54_fs
  have K128_F_1 : F_1[128]? = some (.int 0) := by rw [eF_1, List.getElem?_set_ne (by decide)]; exact K128_fs
  have K129_F_1 : F_1[129]? = some (.ref ww1) := by rw [eF_1, List.getElem?_set_ne (by decide)]; exact K129_fs
  have K130_F_1 : F_1[130]? = some (.ref ww2) := by rw [eF_1, List.getElem?_set_ne (by decide)]; exact K130_fs
  have K131_F_1 : F_1[131]? = some (.ref ww3) := by rw [eF_1, List.getElem?_set_ne (by decide)]; exact K131_fs
  have K154_F_1 : F_1[154]? = some (.int 0) := by rw [eF_1, List.getElem?_set_ne (by decide)]; exact K154_fs
  have K155_F_1 : F_1[155]? = some (.ref wa) := by rw [eF_1, List.getElem?_set_ne (by decide)]; exact K155_fs
  have K156_F_1 : F_1[156]? = some (.int 0) := by rw [eF_1, List.getElem?_set_ne (by decide)]; exact K156_fs
  have K160_F_1 : F_1[160]? = some (.int 0) := by rw [eF_1, List.getElem?_set_ne (by decide)]; exact K160_fs
  have K51_F_1 : F_1[51]? = some (.int 0) := by rw [eF_1]; exact List.getElem?_set_self (by rw [L_fs]; decide)
  have L_F_1 : F_1.length = 163 := by rw [eF_1, List.length_set]; exact L_fs
  have hP : va_P (dC, dI) cls [(q, .inr (15, F_1))] H := hP
  have hD : va_D A [(q, .inr (15, F_1))] := hD
  refine lv_aload_n hx hb dX15_isDown_5 rfl (lv_at hl 0 rfl) ?_
  refine va_get (D := (dC, dI)) (ci := 15) (v := .int 0) (C := RX15) (T := TX15) (N := 163) hx hb ht uX15 hown hK hP 0 rfl rfl 54 (by decide) (ht _ k_11_2) (fun _ h9 => h9) K54_F_1 dX15_isDown_6 ?_
  exact W.zret (v := 0) hx hb hr rfl (fun t ht9 hW => ⟨⟨0, (F_1), rfl, ⟨rfl, L_F_1, K18_F_1, K51_F_1, K53_F_1, K54_F_1, K128_F_1, K129_F_1, K130_F_1, K131_F_1, K154_F_1, K155_F_1, K156_F_1, K160_F_1⟩, by rw [ht9]; exact hP.sub [0] rfl, va_K.moved hW.alike (hK.sub [] rfl), hD.sub [0] (by decide) rfl⟩, hS.F ht9⟩) hS.2.2 dX15_isDown_9
set_option maxHeartbeats 4000000 in
set_option maxRecDepth 100000 in
theorem r_word (l : Launch) (dC : Nat → ClassId) (dI : Nat → Nat → Nat) (sz : Nat) (q : Nat) (fs : List Value) (wa : Nat) (md : Nat) (ww1 : Nat) (ww2 : Nat) (ww3 : Nat) (cA : ClassId) (fa : Nat → Int32) (cM : ClassId) (fm : Nat → Int32) (d1 : ClassId) (g1 : Nat → Int32) (d2 : ClassId) (g2 : Nat → Int32) (d3 : ClassId) (g3 : Nat → Int32) (p0 : Int32) (L_fs : fs.length = 163) (K18_fs : fs[18]? = some (.ref md)) (K53_fs : fs[53]? = some (.int 0)) (K54_fs : fs[54]? = some (.int 0)) (K128_fs : fs[128]? = some (.int 0)) (K129_fs : fs[129]? = some (.ref ww1)) (K130_fs : fs[130]? = some (.ref ww2)) (K131_fs : fs[131]? = some (.ref ww3)) (K154_fs : fs[154]? = some (.int 0)) (K155_fs : fs[155]? = some (.ref wa)) (K156_fs : fs[156]? = some (.int 0)) (K160_fs : fs[160]? = some (.int 0)) : Met l yX15_word (Cond.code yX15_word cX15_word 2 (some .int) :: tb) ({ frames := 3, cells := 0, slots := 0, locals := 69 }) (pcw [.ref q, .int p0] (dC, dI) [(q, .inr (15, fs)), (wa, .inl (cA, 24204, .inl fa)), (md, .inl (cM, 4000, .inl fm)), (ww1, .inl (d1, 20, .inl g1)), (ww2, .inl (d2, 20, .inl g2)), (ww3, .inl (d3, 20, .inl g3))] [(cA, .int), (cM, .int), (d1, .int), (d2, .int), (d3, .boolean)] sz) (va_Qi (fun (r : Int32) => (fun (_ : Unit) => r = 1)) (bw (dC, dI) (va_A [(q, .inr (15, fs)), (wa, .inl (cA, 24204, .inl fa)), (md, .inl (cM, 4000, .inl fm)), (ww1, .inl (d1, 20, .inl g1)), (ww2, .inl (d2, 20, .inl g2)), (ww3, .inl (d3, 20, .inl g3))] sz) (fun (_ : Unit) => []) (fun (_ : Unit) => [])) (va_A [(q, .inr (15, fs)), (wa, .inl (cA, 24204, .inl fa)), (md, .inl (cM, 4000, .inl fm)), (ww1, .inl (d1, 20, .inl g1)), (ww2, .inl (d2, 20, .inl g2)), (ww3, .inl (d3, 20, .inl g3))] sz)) 0 0 (va_A [(q, .inr (15, fs)), (wa, .inl (cA, 24204, .inl fa)), (md, .inl (cM, 4000, .inl fm)), (ww1, .inl (d1, 20, .inl g1)), (ww2, .inl (d2, 20, .inl g2)), (ww3, .inl (d3, 20, .inl g3))] sz) := by
  refine Met.ofW (cc := cX15_word) (maxL := 2) (ret := (some .int)) (by decide) rfl ?_
  intro p e s m args below meth c s₁ B hml hv
  obtain ⟨rfl, hsz, hP, hK, hD0⟩ := hv
  have hx := B.exec
  have hb := B.bytes
  have hr := B.returns
  have hts := atoms_spec (ws := Cond.code yX15_word cX15_word 2 (some .int) :: tb) B.pre
  have ht : ∀ w ∈ tb, w.before _ s = true := fun w h => hts w (List.mem_cons_of_mem _ h)
  have hown : s.vm.findClass RX15 = some m.cls := findClass_of_methodNamed B.named
  have hlocks := B.notSynchronized
  subst hsz
  have hD := hD0.self (sz := s.heap.size)
  generalize hAe : va_A [(q, .inr (15, fs)), (wa, .inl (cA, 24204, .inl fa)), (md, .inl (cM, 4000, .inl fm)), (ww1, .inl (d1, 20, .inl g1)), (ww2, .inl (d2, 20, .inl g2)), (ww3, .inl (d3, 20, .inl g3))] s.heap.size = A at hD ⊢
  have hA : ∀ q : Nat, s.heap.size ≤ q → A q := fun q h => by rw [← hAe]; exact Or.inr h
  have hS : va_S A s.heap s.heap [] := va_S.rf
  have hl := lv_entry ([.ref q, .int p0]) (n := 2) (Nat.le_of_ble_eq_true rfl)
  rw [lg_entry_eq]
  generalize (lg_sl ([.ref q, .int p0]) ++ List.replicate (2 - (lg_sl ([.ref q, .int p0])).length) Slot.unset).toArray = ls at hl ⊢
  have hl : lv_has ls 2 [(0, .ref q), (1, .int p0)] := hl
  have hP : va_P (dC, dI) cls [(q, .inr (15, fs)), (wa, .inl (cA, 24204, .inl fa)), (md, .inl (cM, 4000, .inl fm)), (ww1, .inl (d1, 20, .inl g1)), (ww2, .inl (d2, 20, .inl g2)), (ww3, .inl (d3, 20, .inl g3))] s.heap := hP
  refine lv_aload_n hx hb dX15_word_0 rfl (lv_at hl 0 rfl) ?_
  refine ca_i (wr := [(wa, .inl (cA, 24204, .inl fa)), (md, .inl (cM, 4000, .inl fm)), (ww1, .inl (d1, 20, .inl g1)), (ww2, .inl (d2, 20, .inl g2)), (ww3, .inl (d3, 20, .inl g3))]) (va_runV (As := []) (rest := []) ⟨hx, hb, hml, hown, ht⟩ (r_isDown_word l dC dI s.heap.size q fs wa md ww1 ww2 ww3 L_fs K18_fs K53_fs K54_fs K128_fs K129_fs K130_fs K131_fs K154_fs K155_fs K156_fs K160_fs ) (cwV 0 ht (gdV k_12_228 k_12_225 k_12_227 ks_112 k_1_17) rfl rfl rfl (by decide +kernel) ⟨Nat.le_of_ble_eq_true rfl, Nat.le_of_ble_eq_true rfl⟩) ⟨pcw_blind, va_recv hK hP (ci := 15) (q0 := 0) rfl rfl, pcw_at hP hD hK [0] [] (by decide) rfl rfl rfl⟩ rfl rfl hl.1 rfl (lv_room (Nat.le_of_ble_eq_true rfl)) dX15_word_1 ⟨Nat.le_of_ble_eq_true rfl, Nat.le_of_ble_eq_true rfl⟩) hP hD hK hS hA [0] [1, 2, 3, 4, 5] rfl rfl (by decide) (by decide) (fun r_1 u H locs w_2 hK hP hD hS => ?_)
  obtain ⟨F_3, rfl⟩ : ∃ z, z = u := ⟨_, rfl⟩
  have hK : va_K (dC, dI) cls [(cA, .int), (cM, .int), (d1, .int), (d2, .int), (d3, .boolean)] s := hK
  have hP : va_P (dC, dI) cls [(wa, .inl (cA, 24204, .inl fa)), (md, .inl (cM, 4000, .inl fm)), (ww1, .inl (d1, 20, .inl g1)), (ww2, .inl (d2, 20, .inl g2)), (ww3, .inl (d3, 20, .inl g3)), (q, .inr (15, F_3))] H := hP
  have hD : va_D A [(wa, .inl (cA, 24204, .inl fa)), (md, .inl (cM, 4000, .inl fm)), (ww1, .inl (d1, 20, .inl g1)), (ww2, .inl (d2, 20, .inl g2)), (ww3, .inl (d3, 20, .inl g3)), (q, .inr (15, F_3))] := hD
  obtain ⟨w_2, K_4, K_5, K_6, K_7, K_8, K_9, K_10, K_11, K_12, K_13, K_14, K_15, K_16⟩ := w_2
  obtain rfl : r_1 = 0 := w_2
  refine lv_if_eq (tgt := 10) hx hb dX15_word_4 (by decide) (fun _ => ?_) (fun c0 => absurd c0 (by decide))
  refine lv_aload_n hx hb dX15_word_10 rfl (lv_at hl 0 rfl) ?_
  refine ca_v (wr := [(wa, .inl (cA, 24204, .inl fa)), (md, .inl (cM, 4000, .inl fm)), (ww1, .inl (d1, 20, .inl g1)), (ww2, .inl (d2, 20, .inl g2)), (ww3, .inl (d3, 20, .inl g3))]) (va_runV (As := []) (rest := []) ⟨hx, hb, hml, hown, ht⟩ (r_takeTape_word l dC dI H.size q F_3 wa md ww1 ww2 ww3 K_4 K_5 K_7 K_9 K_10 K_11 K_12 K_13 K_14 K_15 K_16 ) (cwV 0 ht (gdV k_12_237 k_12_234 k_12_236 ks_113 k_1_17) rfl rfl rfl (by decide +kernel) ⟨Nat.le_of_ble_eq_true rfl, Nat.le_of_ble_eq_true rfl⟩) ⟨pcw_blind, va_recv hK hP (ci := 15) (q0 := 5) rfl rfl, pcw_at hP hD hK [5] [] (by decide) rfl rfl rfl⟩ rfl rfl hl.1 rfl (lv_room (Nat.le_of_ble_eq_true rfl)) dX15_word_11 ⟨Nat.le_of_ble_eq_true rfl, Nat.le_of_ble_eq_true rfl⟩) hP hD hK hS hA [5] [0, 1, 2, 3, 4] rfl rfl (by decide) (by decide) (fun u H locs w_18 hK hP hD hS => ?_)
  obtain ⟨F_19, rfl⟩ : ∃ z, z = u := ⟨_, rfl⟩
  have hK : va_K (dC, dI) cls [(cA, .int), (cM, .int), (d1, .int), (d2, .int), (d3, .boolean)] s := hK
  have hP : va_P (dC, dI) cls [(wa, .inl (cA, 24204, .inl fa)), (md, .inl (cM, 4000, .inl fm)), (ww1, .inl (d1, 20, .inl g1)), (ww2, .inl (d2, 20, .inl g2)), (ww3, .inl (d3, 20, .inl g3)), (q, .inr (15, F_19))] H := hP
  have hD : va_D A [(wa, .inl (cA, 24204, .inl fa)), (md, .inl (cM, 4000, .inl fm)), (ww1, .inl (d1, 20, .inl g1)), (ww2, .inl (d2, 20, .inl g2)), (ww3, .inl (d3, 20, .inl g3)), (q, .inr (15, F_19))] := hD
  obtain ⟨w_18, K_20, K_21, K_22, K_23, K_24, K_25, K_26, K_27, K_28, K_29, K_30, K_31, K_32⟩ := w_18
  refine lv_aload_n hx hb dX15_word_14 rfl (lv_at hl 0 rfl) ?_
  refine lv_iconst (v := 0) hx hb dX15_word_15 (by decide) ?_
  refine lv_iload_n hx hb dX15_word_16 rfl (lv_at hl 1 rfl) ?_
  refine lv_iconst (v := 1) hx hb dX15_word_17 (by decide) ?_
  refine ca_i (wr := []) (va_runV (As := [.int 0, .int p0, .int 1]) (rest := []) ⟨hx, hb, hml, hown, ht⟩ (r_word_ l dC dI H.size q F_19 wa cA fa md cM fm ww1 ww2 ww3 d1 g1 d2 g2 d3 g3 p0 K_20 K_21 K_22 K_25 K_26 K_27 K_28 K_29 K_30 K_31 K_32 ) (cwV 3 ht (gdV k_15_212 k_15_209 k_15_211 ks_231 k_1_17) rfl rfl rfl (by decide +kernel) ⟨Nat.le_of_ble_eq_true rfl, Nat.le_of_ble_eq_true rfl⟩) ⟨pcw_blind, va_recv hK hP (ci := 15) (q0 := 5) rfl rfl, pcw_at hP hD hK [5, 0, 1, 2, 3, 4] [0, 1, 2, 3, 4] (by decide) rfl rfl rfl⟩ rfl rfl hl.1 rfl (lv_room (Nat.le_of_ble_eq_true rfl)) dX15_word_18 ⟨Nat.le_of_ble_eq_true rfl, Nat.le_of_ble_eq_true rfl⟩) hP hD hK hS hA [5, 0, 1, 2, 3, 4] [] rfl rfl (by decide) (by decide) (fun r_33 u H locs w_34 hK hP hD hS => ?_)
  have hK : va_K (dC, dI) cls [(cA, .int), (cM, .int), (d1, .int), (d2, .int), (d3, .boolean)] s := hK
  have hP : va_P (dC, dI) cls [] H := hP
  have hD : va_D A [] := hD
  obtain rfl : r_33 = 1 := w_34
  exact W.iret (v := 1) hx hb hr (fun t ht9 hW => ⟨⟨1, (), rfl, rfl, by rw [ht9]; exact hP.sub [] rfl, va_K.moved hW.alike (hK.sub [] rfl), hD.sub [] (by decide) rfl⟩, hS.F ht9⟩) hS.2.2 dX15_word_21
