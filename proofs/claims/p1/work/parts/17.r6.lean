theorem dX15_byteAt_0 : decode cX15_byteAt 0 = .ok (.iload_n 1, 1) := by decide +kernel
theorem dX15_byteAt_1 : decode cX15_byteAt 1 = .ok (.aload_n 0, 1) := by decide +kernel
theorem dX15_byteAt_2 : decode cX15_byteAt 2 = .ok (.getfield 418, 3) := by decide +kernel
theorem dX15_byteAt_5 : decode cX15_byteAt 5 = .ok (.if_icmp .ge 12, 3) := by decide +kernel
theorem dX15_byteAt_17 : decode cX15_byteAt 17 = .ok (.iconst (-1), 1) := by decide +kernel
theorem dX15_byteAt_18 : decode cX15_byteAt 18 = .ok (.ireturn, 1) := by decide +kernel
theorem dX15_next_0 : decode cX15_next 0 = .ok (.aload_n 0, 1) := by decide +kernel
theorem dX15_next_1 : decode cX15_next 1 = .ok (.aload_n 0, 1) := by decide +kernel
theorem k_10_214 : Jvm.Cond.fieldLink "FinderHouseModel" (424 : Nat) "FinderHouseModel" "at" "I" ∈ tb := tb10 214 (by decide +kernel) (by decide +kernel)
theorem dX15_next_2 : decode cX15_next 2 = .ok (.getfield 424, 3) := by decide +kernel
theorem k_13_10 : Jvm.Cond.code ({ cls := "FinderHouseModel", name := "byteAt", desc := "(I)I" } : Jvm.MethodName) prog_14_method_28_code (2 : Nat) (Option.some Jvm.ClassFile.FieldType.int) ∈ tb := tb13 10 (by decide +kernel) (by decide +kernel)
theorem k_13_7 : Jvm.Cond.methodLink "FinderHouseModel" (427 : Nat) ({ cls := "FinderHouseModel", name := "byteAt", desc := "(I)I" } : Jvm.MethodName) ∈ tb := tb13 7 (by decide +kernel) (by decide +kernel)
theorem k_13_9 : Jvm.Cond.instanceMethod ({ cls := "FinderHouseModel", name := "byteAt", desc := "(I)I" } : Jvm.MethodName) ∈ tb := tb13 9 (by decide +kernel) (by decide +kernel)
theorem ks_116 : Jvm.Cond.selects "FinderHouseModel" ({ cls := "FinderHouseModel", name := "byteAt", desc := "(I)I" } : Jvm.MethodName) ({ cls := "FinderHouseModel", name := "byteAt", desc := "(I)I" } : Jvm.MethodName) ∈ tb := tbp 116 (by decide +kernel) (by decide +kernel)
theorem dX15_next_5 : decode cX15_next 5 = .ok (.invokevirtual 427, 3) := by decide +kernel
theorem dX15_next_8 : decode cX15_next 8 = .ok (.bipush 32, 2) := by decide +kernel
theorem dX15_next_10 : decode cX15_next 10 = .ok (.if_icmp .eq 16, 3) := by decide +kernel
theorem dX15_next_13 : decode cX15_next 13 = .ok (.aload_n 0, 1) := by decide +kernel
theorem dX15_next_14 : decode cX15_next 14 = .ok (.aload_n 0, 1) := by decide +kernel
theorem dX15_next_15 : decode cX15_next 15 = .ok (.getfield 424, 3) := by decide +kernel
theorem dX15_next_18 : decode cX15_next 18 = .ok (.invokevirtual 427, 3) := by decide +kernel
theorem dX15_next_21 : decode cX15_next 21 = .ok (.bipush 10, 2) := by decide +kernel
theorem dX15_next_23 : decode cX15_next 23 = .ok (.if_icmp .ne 16, 3) := by decide +kernel
theorem dX15_next_39 : decode cX15_next 39 = .ok (.aload_n 0, 1) := by decide +kernel
theorem dX15_next_40 : decode cX15_next 40 = .ok (.aload_n 0, 1) := by decide +kernel
theorem dX15_next_41 : decode cX15_next 41 = .ok (.getfield 424, 3) := by decide +kernel
theorem k_10_217 : Jvm.Cond.fieldLink "FinderHouseModel" (433 : Nat) "FinderHouseModel" "tokenAt" "I" ∈ tb := tb10 217 (by decide +kernel) (by decide +kernel)
theorem dX15_next_44 : decode cX15_next 44 = .ok (.putfield 433, 3) := by decide +kernel
theorem dX15_next_47 : decode cX15_next 47 = .ok (.aload_n 0, 1) := by decide +kernel
theorem dX15_next_48 : decode cX15_next 48 = .ok (.aload_n 0, 1) := by decide +kernel
theorem dX15_next_49 : decode cX15_next 49 = .ok (.getfield 424, 3) := by decide +kernel
theorem dX15_next_52 : decode cX15_next 52 = .ok (.invokevirtual 427, 3) := by decide +kernel
theorem dX15_next_55 : decode cX15_next 55 = .ok (.istore_n 1, 1) := by decide +kernel
theorem dX15_next_56 : decode cX15_next 56 = .ok (.iload_n 1, 1) := by decide +kernel
theorem dX15_next_57 : decode cX15_next 57 = .ok (.iconst (-1), 1) := by decide +kernel
theorem dX15_next_58 : decode cX15_next 58 = .ok (.if_icmp .ne 11, 3) := by decide +kernel
theorem dX15_next_61 : decode cX15_next 61 = .ok (.aload_n 0, 1) := by decide +kernel
theorem dX15_next_62 : decode cX15_next 62 = .ok (.iconst 0, 1) := by decide +kernel
theorem k_10_215 : Jvm.Cond.fieldLink "FinderHouseModel" (436 : Nat) "FinderHouseModel" "token" "I" ∈ tb := tb10 215 (by decide +kernel) (by decide +kernel)
theorem dX15_next_63 : decode cX15_next 63 = .ok (.putfield 436, 3) := by decide +kernel
theorem dX15_next_66 : decode cX15_next 66 = .ok (.goto 330, 3) := by decide +kernel
theorem dX15_next_396 : decode cX15_next 396 = .ok (.return_, 1) := by decide +kernel
theorem dX15_begin_0 : decode cX15_begin 0 = .ok (.aload_n 0, 1) := by decide +kernel
theorem dX15_begin_1 : decode cX15_begin 1 = .ok (.iconst 0, 1) := by decide +kernel
theorem dX15_begin_2 : decode cX15_begin 2 = .ok (.putfield 424, 3) := by decide +kernel
theorem dX15_begin_5 : decode cX15_begin 5 = .ok (.aload_n 0, 1) := by decide +kernel
theorem dX15_begin_6 : decode cX15_begin 6 = .ok (.iconst 0, 1) := by decide +kernel
theorem k_10_218 : Jvm.Cond.fieldLink "FinderHouseModel" (451 : Nat) "FinderHouseModel" "worst" "I" ∈ tb := tb10 218 (by decide +kernel) (by decide +kernel)
theorem dX15_begin_7 : decode cX15_begin 7 = .ok (.putfield 451, 3) := by decide +kernel
theorem dX15_begin_10 : decode cX15_begin 10 = .ok (.aload_n 0, 1) := by decide +kernel
theorem k_13_2 : Jvm.Cond.constant "FinderHouseModel" (456 : Nat) (2147483647 : Int32) ∈ tb := tb13 2 (by decide +kernel) (by decide +kernel)
theorem dX15_begin_11 : decode cX15_begin 11 = .ok (.ldc_w 456, 3) := by decide +kernel
theorem k_10_219 : Jvm.Cond.fieldLink "FinderHouseModel" (457 : Nat) "FinderHouseModel" "worstAt" "I" ∈ tb := tb10 219 (by decide +kernel) (by decide +kernel)
theorem dX15_begin_14 : decode cX15_begin 14 = .ok (.putfield 457, 3) := by decide +kernel
theorem dX15_begin_17 : decode cX15_begin 17 = .ok (.aload_n 0, 1) := by decide +kernel
theorem k_13_6 : Jvm.Cond.code ({ cls := "FinderHouseModel", name := "next", desc := "()V" } : Jvm.MethodName) prog_14_method_32_code (4 : Nat) (Option.none : Option Jvm.ClassFile.FieldType) ∈ tb := tb13 6 (by decide +kernel) (by decide +kernel)
theorem k_13_3 : Jvm.Cond.methodLink "FinderHouseModel" (460 : Nat) ({ cls := "FinderHouseModel", name := "next", desc := "()V" } : Jvm.MethodName) ∈ tb := tb13 3 (by decide +kernel) (by decide +kernel)
theorem k_13_5 : Jvm.Cond.instanceMethod ({ cls := "FinderHouseModel", name := "next", desc := "()V" } : Jvm.MethodName) ∈ tb := tb13 5 (by decide +kernel) (by decide +kernel)
theorem ks_115 : Jvm.Cond.selects "FinderHouseModel" ({ cls := "FinderHouseModel", name := "next", desc := "()V" } : Jvm.MethodName) ({ cls := "FinderHouseModel", name := "next", desc := "()V" } : Jvm.MethodName) ∈ tb := tbp 115 (by decide +kernel) (by decide +kernel)
theorem dX15_begin_18 : decode cX15_begin 18 = .ok (.invokevirtual 460, 3) := by decide +kernel
theorem dX15_begin_21 : decode cX15_begin 21 = .ok (.return_, 1) := by decide +kernel
theorem dX15_fail_0 : decode cX15_fail 0 = .ok (.aload_n 0, 1) := by decide +kernel
theorem k_10_211 : Jvm.Cond.fieldLink "FinderHouseModel" (92 : Nat) "FinderHouseModel" "bad" "LFinderHouseModel$Bad;" ∈ tb := tb10 211 (by decide +kernel) (by decide +kernel)
theorem dX15_fail_1 : decode cX15_fail 1 = .ok (.getfield 92, 3) := by decide +kernel
theorem dX15_fail_4 : decode cX15_fail 4 = .ok (.iload_n 1, 1) := by decide +kernel
theorem k_10_16 : Jvm.Cond.fieldLink "FinderHouseModel" (413 : Nat) "FinderHouseModel$Bad" "fault" "I" ∈ tb := tb10 16 (by decide +kernel) (by decide +kernel)
theorem dX15_fail_5 : decode cX15_fail 5 = .ok (.putfield 413, 3) := by decide +kernel
theorem dX15_fail_8 : decode cX15_fail 8 = .ok (.aload_n 0, 1) := by decide +kernel
theorem dX15_fail_9 : decode cX15_fail 9 = .ok (.getfield 92, 3) := by decide +kernel
theorem dX15_fail_12 : decode cX15_fail 12 = .ok (.iload_n 2, 1) := by decide +kernel
theorem k_10_17 : Jvm.Cond.fieldLink "FinderHouseModel" (416 : Nat) "FinderHouseModel$Bad" "place" "I" ∈ tb := tb10 17 (by decide +kernel) (by decide +kernel)
theorem dX15_fail_13 : decode cX15_fail 13 = .ok (.putfield 416, 3) := by decide +kernel
theorem dX15_fail_16 : decode cX15_fail 16 = .ok (.aload_n 0, 1) := by decide +kernel
theorem dX15_fail_17 : decode cX15_fail 17 = .ok (.getfield 92, 3) := by decide +kernel
theorem dX15_fail_20 : decode cX15_fail 20 = .ok (.areturn, 1) := by decide +kernel
theorem dX15_isName_0 : decode cX15_isName 0 = .ok (.aload_n 0, 1) := by decide +kernel
theorem dX15_isName_1 : decode cX15_isName 1 = .ok (.getfield 436, 3) := by decide +kernel
theorem dX15_isName_4 : decode cX15_isName 4 = .ok (.iconst 1, 1) := by decide +kernel
theorem dX15_isName_5 : decode cX15_isName 5 = .ok (.if_icmp .ne 16, 3) := by decide +kernel
theorem dX15_isName_21 : decode cX15_isName 21 = .ok (.iconst 0, 1) := by decide +kernel
theorem dX15_isName_22 : decode cX15_isName 22 = .ok (.ireturn, 1) := by decide +kernel
theorem dX15_isSign_0 : decode cX15_isSign 0 = .ok (.aload_n 0, 1) := by decide +kernel
theorem dX15_isSign_1 : decode cX15_isSign 1 = .ok (.getfield 436, 3) := by decide +kernel
theorem dX15_isSign_4 : decode cX15_isSign 4 = .ok (.iconst 4, 1) := by decide +kernel
theorem dX15_isSign_5 : decode cX15_isSign 5 = .ok (.if_icmp .ne 17, 3) := by decide +kernel
theorem dX15_isSign_22 : decode cX15_isSign 22 = .ok (.iconst 0, 1) := by decide +kernel
theorem dX15_isSign_23 : decode cX15_isSign 23 = .ok (.ireturn, 1) := by decide +kernel
theorem dX15_passName_0 : decode cX15_passName 0 = .ok (.aload_n 0, 1) := by decide +kernel
theorem dX15_passName_1 : decode cX15_passName 1 = .ok (.lload_n 1, 1) := by decide +kernel
theorem k_13_40 : Jvm.Cond.code ({ cls := "FinderHouseModel", name := "isName", desc := "(J)Z" } : Jvm.MethodName) prog_14_method_37_code (3 : Nat) (Option.some Jvm.ClassFile.FieldType.boolean) ∈ tb := tb13 40 (by decide +kernel) (by decide +kernel)
theorem k_13_37 : Jvm.Cond.methodLink "FinderHouseModel" (466 : Nat) ({ cls := "FinderHouseModel", name := "isName", desc := "(J)Z" } : Jvm.MethodName) ∈ tb := tb13 37 (by decide +kernel) (by decide +kernel)
theorem k_13_39 : Jvm.Cond.instanceMethod ({ cls := "FinderHouseModel", name := "isName", desc := "(J)Z" } : Jvm.MethodName) ∈ tb := tb13 39 (by decide +kernel) (by decide +kernel)
theorem ks_121 : Jvm.Cond.selects "FinderHouseModel" ({ cls := "FinderHouseModel", name := "isName", desc := "(J)Z" } : Jvm.MethodName) ({ cls := "FinderHouseModel", name := "isName", desc := "(J)Z" } : Jvm.MethodName) ∈ tb := tbp 121 (by decide +kernel) (by decide +kernel)
theorem dX15_passName_2 : decode cX15_passName 2 = .ok (.invokevirtual 466, 3) := by decide +kernel
theorem dX15_passName_5 : decode cX15_passName 5 = .ok (.ifCond .ne 13, 3) := by decide +kernel
theorem dX15_passName_8 : decode cX15_passName 8 = .ok (.aload_n 0, 1) := by decide +kernel
theorem dX15_passName_9 : decode cX15_passName 9 = .ok (.iconst 1, 1) := by decide +kernel
theorem dX15_passName_10 : decode cX15_passName 10 = .ok (.aload_n 0, 1) := by decide +kernel
theorem dX15_passName_11 : decode cX15_passName 11 = .ok (.getfield 433, 3) := by decide +kernel
theorem k_13_21 : Jvm.Cond.code ({ cls := "FinderHouseModel", name := "fail", desc := "(II)LFinderHouseModel$Bad;" } : Jvm.MethodName) prog_14_method_27_code (3 : Nat) (Option.some (Jvm.ClassFile.FieldType.object "FinderHouseModel$Bad")) ∈ tb := tb13 21 (by decide +kernel) (by decide +kernel)
theorem k_13_18 : Jvm.Cond.methodLink "FinderHouseModel" (442 : Nat) ({ cls := "FinderHouseModel", name := "fail", desc := "(II)LFinderHouseModel$Bad;" } : Jvm.MethodName) ∈ tb := tb13 18 (by decide +kernel) (by decide +kernel)
theorem k_13_20 : Jvm.Cond.instanceMethod ({ cls := "FinderHouseModel", name := "fail", desc := "(II)LFinderHouseModel$Bad;" } : Jvm.MethodName) ∈ tb := tb13 20 (by decide +kernel) (by decide +kernel)
theorem ks_118 : Jvm.Cond.selects "FinderHouseModel" ({ cls := "FinderHouseModel", name := "fail", desc := "(II)LFinderHouseModel$Bad;" } : Jvm.MethodName) ({ cls := "FinderHouseModel", name := "fail", desc := "(II)LFinderHouseModel$Bad;" } : Jvm.MethodName) ∈ tb := tbp 118 (by decide +kernel) (by decide +kernel)
theorem dX15_passName_14 : decode cX15_passName 14 = .ok (.invokevirtual 442, 3) := by decide +kernel
theorem dX15_passName_17 : decode cX15_passName 17 = .ok (.athrow, 1) := by decide +kernel
theorem dX15_takeName_0 : decode cX15_takeName 0 = .ok (.aload_n 0, 1) := by decide +kernel
theorem dX15_takeName_1 : decode cX15_takeName 1 = .ok (.getfield 436, 3) := by decide +kernel
theorem dX15_takeName_4 : decode cX15_takeName 4 = .ok (.iconst 1, 1) := by decide +kernel
theorem dX15_takeName_5 : decode cX15_takeName 5 = .ok (.if_icmp .eq 13, 3) := by decide +kernel
theorem dX15_takeName_8 : decode cX15_takeName 8 = .ok (.aload_n 0, 1) := by decide +kernel
theorem dX15_takeName_9 : decode cX15_takeName 9 = .ok (.iconst 1, 1) := by decide +kernel
theorem dX15_takeName_10 : decode cX15_takeName 10 = .ok (.aload_n 0, 1) := by decide +kernel
theorem dX15_takeName_11 : decode cX15_takeName 11 = .ok (.getfield 433, 3) := by decide +kernel
theorem dX15_takeName_14 : decode cX15_takeName 14 = .ok (.invokevirtual 442, 3) := by decide +kernel
theorem dX15_takeName_17 : decode cX15_takeName 17 = .ok (.athrow, 1) := by decide +kernel
theorem dX15_isValue_0 : decode cX15_isValue 0 = .ok (.aload_n 0, 1) := by decide +kernel
theorem dX15_isValue_1 : decode cX15_isValue 1 = .ok (.getfield 436, 3) := by decide +kernel
theorem dX15_isValue_4 : decode cX15_isValue 4 = .ok (.iconst 2, 1) := by decide +kernel
theorem dX15_isValue_5 : decode cX15_isValue 5 = .ok (.if_icmp .eq 31, 3) := by decide +kernel
theorem dX15_isValue_8 : decode cX15_isValue 8 = .ok (.aload_n 0, 1) := by decide +kernel
theorem dX15_isValue_9 : decode cX15_isValue 9 = .ok (.getfield 436, 3) := by decide +kernel
theorem dX15_isValue_12 : decode cX15_isValue 12 = .ok (.iconst 3, 1) := by decide +kernel
theorem dX15_isValue_13 : decode cX15_isValue 13 = .ok (.if_icmp .eq 23, 3) := by decide +kernel
theorem dX15_isValue_16 : decode cX15_isValue 16 = .ok (.aload_n 0, 1) := by decide +kernel
theorem k_13_78 : Jvm.Cond.fieldLink "FinderHouseModel" (381 : Nat) "FinderHouseModel" "TRUE" "J" ∈ tb := tb13 78 (by decide +kernel) (by decide +kernel)
theorem dX15_isValue_17 : decode cX15_isValue 17 = .ok (.getstatic 381, 3) := by decide +kernel
theorem dX15_isValue_20 : decode cX15_isValue 20 = .ok (.invokevirtual 466, 3) := by decide +kernel
theorem dX15_isValue_23 : decode cX15_isValue 23 = .ok (.ifCond .ne 13, 3) := by decide +kernel
theorem dX15_isValue_26 : decode cX15_isValue 26 = .ok (.aload_n 0, 1) := by decide +kernel
theorem k_13_80 : Jvm.Cond.fieldLink "FinderHouseModel" (385 : Nat) "FinderHouseModel" "FALSE" "J" ∈ tb := tb13 80 (by decide +kernel) (by decide +kernel)
theorem dX15_isValue_27 : decode cX15_isValue 27 = .ok (.getstatic 385, 3) := by decide +kernel
theorem dX15_isValue_30 : decode cX15_isValue 30 = .ok (.invokevirtual 466, 3) := by decide +kernel
theorem dX15_isValue_33 : decode cX15_isValue 33 = .ok (.ifCond .eq 7, 3) := by decide +kernel
theorem dX15_isValue_40 : decode cX15_isValue 40 = .ok (.iconst 0, 1) := by decide +kernel
theorem dX15_isValue_41 : decode cX15_isValue 41 = .ok (.ireturn, 1) := by decide +kernel
theorem dX15_takeTerm_0 : decode cX15_takeTerm 0 = .ok (.iload_n 1, 1) := by decide +kernel
theorem dX15_takeTerm_1 : decode cX15_takeTerm 1 = .ok (.bipush 12, 2) := by decide +kernel
theorem dX15_takeTerm_3 : decode cX15_takeTerm 3 = .ok (.if_icmp .le 13, 3) := by decide +kernel
theorem dX15_takeTerm_16 : decode cX15_takeTerm 16 = .ok (.aload_n 0, 1) := by decide +kernel
theorem k_13_77 : Jvm.Cond.code ({ cls := "FinderHouseModel", name := "isValue", desc := "()Z" } : Jvm.MethodName) prog_14_method_45_code (1 : Nat) (Option.some Jvm.ClassFile.FieldType.boolean) ∈ tb := tb13 77 (by decide +kernel) (by decide +kernel)
theorem k_13_74 : Jvm.Cond.methodLink "FinderHouseModel" (483 : Nat) ({ cls := "FinderHouseModel", name := "isValue", desc := "()Z" } : Jvm.MethodName) ∈ tb := tb13 74 (by decide +kernel) (by decide +kernel)
theorem k_13_76 : Jvm.Cond.instanceMethod ({ cls := "FinderHouseModel", name := "isValue", desc := "()Z" } : Jvm.MethodName) ∈ tb := tb13 76 (by decide +kernel) (by decide +kernel)
theorem ks_129 : Jvm.Cond.selects "FinderHouseModel" ({ cls := "FinderHouseModel", name := "isValue", desc := "()Z" } : Jvm.MethodName) ({ cls := "FinderHouseModel", name := "isValue", desc := "()Z" } : Jvm.MethodName) ∈ tb := tbp 129 (by decide +kernel) (by decide +kernel)
theorem dX15_takeTerm_17 : decode cX15_takeTerm 17 = .ok (.invokevirtual 483, 3) := by decide +kernel
theorem dX15_takeTerm_20 : decode cX15_takeTerm 20 = .ok (.ifCond .eq 8, 3) := by decide +kernel
theorem dX15_takeTerm_28 : decode cX15_takeTerm 28 = .ok (.aload_n 0, 1) := by decide +kernel
theorem dX15_takeTerm_29 : decode cX15_takeTerm 29 = .ok (.getfield 433, 3) := by decide +kernel
theorem dX15_takeTerm_32 : decode cX15_takeTerm 32 = .ok (.istore_n 3, 1) := by decide +kernel
theorem dX15_takeTerm_33 : decode cX15_takeTerm 33 = .ok (.iload_n 2, 1) := by decide +kernel
theorem dX15_takeTerm_34 : decode cX15_takeTerm 34 = .ok (.ifCond .eq 37, 3) := by decide +kernel
theorem dX15_takeTerm_71 : decode cX15_takeTerm 71 = .ok (.aload_n 0, 1) := by decide +kernel
theorem k_13_93 : Jvm.Cond.code ({ cls := "FinderHouseModel", name := "takeName", desc := "()J" } : Jvm.MethodName) prog_14_method_41_code (3 : Nat) (Option.some Jvm.ClassFile.FieldType.long) ∈ tb := tb13 93 (by decide +kernel) (by decide +kernel)
theorem k_13_90 : Jvm.Cond.methodLink "FinderHouseModel" (489 : Nat) ({ cls := "FinderHouseModel", name := "takeName", desc := "()J" } : Jvm.MethodName) ∈ tb := tb13 90 (by decide +kernel) (by decide +kernel)
theorem k_13_92 : Jvm.Cond.instanceMethod ({ cls := "FinderHouseModel", name := "takeName", desc := "()J" } : Jvm.MethodName) ∈ tb := tb13 92 (by decide +kernel) (by decide +kernel)
theorem ks_132 : Jvm.Cond.selects "FinderHouseModel" ({ cls := "FinderHouseModel", name := "takeName", desc := "()J" } : Jvm.MethodName) ({ cls := "FinderHouseModel", name := "takeName", desc := "()J" } : Jvm.MethodName) ∈ tb := tbp 132 (by decide +kernel) (by decide +kernel)
theorem dX15_takeTerm_72 : decode cX15_takeTerm 72 = .ok (.invokevirtual 489, 3) := by decide +kernel
theorem dX15_takeTerm_37 : decode cX15_takeTerm 37 = .ok (.aload_n 0, 1) := by decide +kernel
theorem dX15_takeTerm_38 : decode cX15_takeTerm 38 = .ok (.bipush 63, 2) := by decide +kernel
theorem k_13_63 : Jvm.Cond.code ({ cls := "FinderHouseModel", name := "isSign", desc := "(I)Z" } : Jvm.MethodName) prog_14_method_36_code (2 : Nat) (Option.some Jvm.ClassFile.FieldType.boolean) ∈ tb := tb13 63 (by decide +kernel) (by decide +kernel)
theorem k_13_60 : Jvm.Cond.methodLink "FinderHouseModel" (463 : Nat) ({ cls := "FinderHouseModel", name := "isSign", desc := "(I)Z" } : Jvm.MethodName) ∈ tb := tb13 60 (by decide +kernel) (by decide +kernel)
theorem k_13_62 : Jvm.Cond.instanceMethod ({ cls := "FinderHouseModel", name := "isSign", desc := "(I)Z" } : Jvm.MethodName) ∈ tb := tb13 62 (by decide +kernel) (by decide +kernel)
theorem ks_126 : Jvm.Cond.selects "FinderHouseModel" ({ cls := "FinderHouseModel", name := "isSign", desc := "(I)Z" } : Jvm.MethodName) ({ cls := "FinderHouseModel", name := "isSign", desc := "(I)Z" } : Jvm.MethodName) ∈ tb := tbp 126 (by decide +kernel) (by decide +kernel)
theorem dX15_takeTerm_40 : decode cX15_takeTerm 40 = .ok (.invokevirtual 463, 3) := by decide +kernel
theorem dX15_takeTerm_43 : decode cX15_takeTerm 43 = .ok (.ifCond .eq 28, 3) := by decide +kernel
theorem dX15_readTerm_0 : decode cX15_readTerm 0 = .ok (.aload_n 0, 1) := by decide +kernel
theorem k_13_1 : Jvm.Cond.code ({ cls := "FinderHouseModel", name := "begin", desc := "()V" } : Jvm.MethodName) prog_14_method_33_code (1 : Nat) (Option.none : Option Jvm.ClassFile.FieldType) ∈ tb := tb13 1 (by decide +kernel) (by decide +kernel)
theorem k_12_238 : Jvm.Cond.methodLink "FinderHouseModel" (809 : Nat) ({ cls := "FinderHouseModel", name := "begin", desc := "()V" } : Jvm.MethodName) ∈ tb := tb12 238 (by decide +kernel) (by decide +kernel)
theorem k_13_0 : Jvm.Cond.instanceMethod ({ cls := "FinderHouseModel", name := "begin", desc := "()V" } : Jvm.MethodName) ∈ tb := tb13 0 (by decide +kernel) (by decide +kernel)
theorem ks_114 : Jvm.Cond.selects "FinderHouseModel" ({ cls := "FinderHouseModel", name := "begin", desc := "()V" } : Jvm.MethodName) ({ cls := "FinderHouseModel", name := "begin", desc := "()V" } : Jvm.MethodName) ∈ tb := tbp 114 (by decide +kernel) (by decide +kernel)
theorem dX15_readTerm_1 : decode cX15_readTerm 1 = .ok (.invokevirtual 809, 3) := by decide +kernel
theorem dX15_readTerm_4 : decode cX15_readTerm 4 = .ok (.aload_n 0, 1) := by decide +kernel
theorem dX15_readTerm_5 : decode cX15_readTerm 5 = .ok (.sipush 4400, 3) := by decide +kernel
theorem k_10_205 : Jvm.Cond.fieldLink "FinderHouseModel" (349 : Nat) "FinderHouseModel" "top" "I" ∈ tb := tb10 205 (by decide +kernel) (by decide +kernel)
theorem dX15_readTerm_8 : decode cX15_readTerm 8 = .ok (.putfield 349, 3) := by decide +kernel
theorem dX15_readTerm_11 : decode cX15_readTerm 11 = .ok (.aload_n 0, 1) := by decide +kernel
theorem dX15_readTerm_12 : decode cX15_readTerm 12 = .ok (.iconst 0, 1) := by decide +kernel
theorem k_10_223 : Jvm.Cond.fieldLink "FinderHouseModel" (506 : Nat) "FinderHouseModel" "holes" "I" ∈ tb := tb10 223 (by decide +kernel) (by decide +kernel)
theorem dX15_readTerm_13 : decode cX15_readTerm 13 = .ok (.putfield 506, 3) := by decide +kernel
theorem dX15_readTerm_16 : decode cX15_readTerm 16 = .ok (.aload_n 0, 1) := by decide +kernel
theorem dX15_readTerm_17 : decode cX15_readTerm 17 = .ok (.iconst 0, 1) := by decide +kernel
theorem dX15_readTerm_18 : decode cX15_readTerm 18 = .ok (.iload_n 1, 1) := by decide +kernel
theorem k_13_141 : Jvm.Cond.code ({ cls := "FinderHouseModel", name := "takeTerm", desc := "(IZ)I" } : Jvm.MethodName) prog_14_method_47_code (7 : Nat) (Option.some Jvm.ClassFile.FieldType.int) ∈ tb := tb13 141 (by decide +kernel) (by decide +kernel)
theorem k_13_138 : Jvm.Cond.methodLink "FinderHouseModel" (493 : Nat) ({ cls := "FinderHouseModel", name := "takeTerm", desc := "(IZ)I" } : Jvm.MethodName) ∈ tb := tb13 138 (by decide +kernel) (by decide +kernel)
theorem k_13_140 : Jvm.Cond.instanceMethod ({ cls := "FinderHouseModel", name := "takeTerm", desc := "(IZ)I" } : Jvm.MethodName) ∈ tb := tb13 140 (by decide +kernel) (by decide +kernel)
theorem ks_139 : Jvm.Cond.selects "FinderHouseModel" ({ cls := "FinderHouseModel", name := "takeTerm", desc := "(IZ)I" } : Jvm.MethodName) ({ cls := "FinderHouseModel", name := "takeTerm", desc := "(IZ)I" } : Jvm.MethodName) ∈ tb := tbp 139 (by decide +kernel) (by decide +kernel)
theorem dX15_readTerm_19 : decode cX15_readTerm 19 = .ok (.invokevirtual 493, 3) := by decide +kernel
theorem dX15_faulty_0 : decode cX15_faulty 0 = .ok (.aload_n 0, 1) := by decide +kernel
theorem dX15_faulty_1 : decode cX15_faulty 1 = .ok (.aload_n 1, 1) := by decide +kernel
theorem dX15_faulty_2 : decode cX15_faulty 2 = .ok (.getfield 416, 3) := by decide +kernel
theorem dX15_faulty_5 : decode cX15_faulty 5 = .ok (.putfield 145, 3) := by decide +kernel
theorem dX15_faulty_8 : decode cX15_faulty 8 = .ok (.bipush (-10), 2) := by decide +kernel
theorem dX15_faulty_10 : decode cX15_faulty 10 = .ok (.aload_n 1, 1) := by decide +kernel
theorem dX15_faulty_11 : decode cX15_faulty 11 = .ok (.getfield 413, 3) := by decide +kernel
theorem dX15_faulty_14 : decode cX15_faulty 14 = .ok (.isub, 1) := by decide +kernel
theorem dX15_faulty_15 : decode cX15_faulty 15 = .ok (.ireturn, 1) := by decide +kernel
theorem cell_of {s : State} {H : Heap} {D : va_G} {cl : List vw_C} {a q0 ci : Nat} {q : vw_C} {fs : List Value} {ws : va_W} {tys : List (ClassId × FieldType)} (hK : va_K D cl tys s) (hP : va_P D cl ws H) (hc : cl[ci]? = some q) (he : ws[q0]? = some (a, .inr (ci, fs))) : ∃ cell : Cell, H[a]? = some cell ∧ cell.vm = .none ∧ s.vm.findClass q.1 = some cell.cls := by
  obtain ⟨q', h1, cell, g1, g2, g3, -⟩ := hP q0 _ he
  exact ⟨cell, g1, g3, by rw [g2]; exact (hK.1 ci q hc).2.1⟩
theorem ca_r {p : Program} {l : Launch} {e : Env} {R : Room} {s : State} {m : MethodId} {args : Array Value} {below : List Frame} {meth : Method} {c : Code} {H : Heap} {locs : List Loc} {cells slots : Nat} {Q : State → Prop} {pc : Nat} {ls : Array Slot} {rest st0 : List Value} {a : Array Value} {A0 : Nat → Prop} {H0 : Heap} {mc ms : Nat} {D : va_G} {ws wc wr : va_W} {tys : List (ClassId × FieldType)} {bd : Nat} {S : Type} {post : S → Prop} {w1 : S → va_W} {t1 : S → List (ClassId × FieldType)} (hr : va_Run p l e R s m args below meth c H locs cells slots mc ms (F0 m pc ls st0) rest (va_Qr post (fun u a t => a = bd ∧ bw D (va_A wc H.size) w1 t1 u t) (va_A wc H.size) a) (va_A wc H.size)) (hP : va_P D cls ws H) (hD : va_D A0 ws) (hK : va_K D cls tys s) (hS : va_S A0 H0 H locs) (hA : ∀ q, H0.size ≤ q → A0 q) (isC isR : List Nat) (hC : isC.map (fun i => ws[i]?) = wc.map some) (hR : isR.map (fun i => ws[i]?) = wr.map some) (hn : va_nd isR = true) (hdis : ∀ i ∈ isR, i ∉ isC)
    (kk : ∀ (u : S) (H1 : Heap) (locs1 : List Loc), post u → va_K D cls (tys ++ t1 u) s → va_P D cls (wr ++ w1 u) H1 → va_D A0 (wr ++ w1 u) → va_S A0 H0 H1 locs1 → W p l e R s m args below meth c H1 locs1 (cells + mc) (slots + ms) Q (F0 m (pc + 3) ls (.ref bd :: rest))) : W p l e R s m args below meth c H locs cells slots Q (F0 m pc ls st0) := by
  have hF := va_free (wc := wc) hD hS hA isC hC
  refine va_callr hr hS (fun q _ h => hF q h) hF (fun u a t H1 locs1 ht hvm hw hB hz1 hk1 hS1 => ?_)
  obtain ⟨rfl, hP1, hK1, hD1⟩ := hB
  rw [ht] at hP1
  obtain ⟨hP2, hD2⟩ := va_join (wr := wr) (w1 := w1 u) hP hD isC isR hC hR hn hdis hk1 hF hP1 hD1
  exact kk u H1 locs1 hw (hK.app (va_K.moved hvm.symm hK1)) hP2 hD2 hS1
set_option maxHeartbeats 4000000 in
set_option maxRecDepth 100000 in
theorem r_byteAt (l : Launch) (dC : Nat → ClassId) (dI : Nat → Nat → Nat) (sz : Nat) (q : Nat) (fs : List Value) (L_fs : fs.length = 163) (K25_fs : fs[25]? = some (.int 0)) : Met l yX15_byteAt (Cond.code yX15_byteAt cX15_byteAt 2 (some .int) :: tb) ({ frames := 0, cells := 0, slots := 0, locals := 0 }) (pcw [.ref q, .int 0] (dC, dI) [(q, .inr (15, fs))] [] sz) (va_Qi (fun (r : Int32) => (fun (_ : Unit) => r = -1)) (bw (dC, dI) (va_A [(q, .inr (15, fs))] sz) (fun (_ : Unit) => [(q, .inr (15, fs))]) (fun (_ : Unit) => [])) (va_A [(q, .inr (15, fs))] sz)) 0 0 (va_A [(q, .inr (15, fs))] sz) := by
  refine Met.ofW (cc := cX15_byteAt) (maxL := 2) (ret := (some .int)) (by decide) rfl ?_
  intro p e s m args below meth c s₁ B hml hv
  obtain ⟨rfl, hsz, hP, hK, hD0⟩ := hv
  have hx := B.exec
  have hb := B.bytes
  have hr := B.returns
  have hts := atoms_spec (ws := Cond.code yX15_byteAt cX15_byteAt 2 (some .int) :: tb) B.pre
  have ht : ∀ w ∈ tb, w.before _ s = true := fun w h => hts w (List.mem_cons_of_mem _ h)
  have hown : s.vm.findClass RX15 = some m.cls := findClass_of_methodNamed B.named
  have hlocks := B.notSynchronized
  subst hsz
  have hD := hD0.self (sz := s.heap.size)
  generalize hAe : va_A [(q, .inr (15, fs))] s.heap.size = A at hD ⊢
  have hA : ∀ q : Nat, s.heap.size ≤ q → A q := fun q h => by rw [← hAe]; exact Or.inr h
  have hS : va_S A s.heap s.heap [] := va_S.rf
  have hl := lv_entry ([.ref q, .int 0]) (n := 2) (Nat.le_of_ble_eq_true rfl)
  rw [lg_entry_eq]
  generalize (lg_sl ([.ref q, .int 0]) ++ List.replicate (2 - (lg_sl ([.ref q, .int 0])).length) Slot.unset).toArray = ls at hl ⊢
  have hl : lv_has ls 2 [(0, .ref q), (1, .int 0)] := hl
  have hP : va_P (dC, dI) cls [(q, .inr (15, fs))] s.heap := hP
  refine lv_iload_n hx hb dX15_byteAt_0 rfl (lv_at hl 1 rfl) ?_
  refine lv_aload_n hx hb dX15_byteAt_1 rfl (lv_at hl 0 rfl) ?_
  refine va_get (D := (dC, dI)) (ci := 15) (v := .int 0) (C := RX15) (T := TX15) (N := 163) hx hb ht uX15 hown hK hP 0 rfl rfl 25 (by decide) (ht _ k_10_213) (fun _ h9 => h9) K25_fs dX15_byteAt_2 ?_
  refine lv_icmp_ge (tgt := 17) hx hb dX15_byteAt_5 (by decide) (fun _ => ?_) (fun c0 => absurd c0 (by decide))
  refine lv_iconst (v := (-1)) hx hb dX15_byteAt_17 (by decide) ?_
  exact W.iret (v := (-1)) hx hb hr (fun t ht9 hW => ⟨⟨(-1), (), rfl, rfl, by rw [ht9]; exact hP.sub [0] rfl, va_K.moved hW.alike (hK.sub [] rfl), hD.sub [0] (by decide) rfl⟩, hS.F ht9⟩) hS.2.2 dX15_byteAt_18
set_option maxHeartbeats 4000000 in
set_option maxRecDepth 100000 in
theorem r_next (l : Launch) (dC : Nat → ClassId) (dI : Nat → Nat → Nat) (sz : Nat) (q : Nat) (fs : List Value) (bd : Nat) (L_fs : fs.length = 163) (K23_fs : fs[23]? = some (.ref bd)) (K25_fs : fs[25]? = some (.int 0)) (K26_fs : fs[26]? = some (.int 0)) : Met l yX15_next (Cond.code yX15_next cX15_next 4 none :: tb) ({ frames := 1, cells := 0, slots := 0, locals := 21 }) (pcw [.ref q] (dC, dI) [(q, .inr (15, fs))] [] sz) (va_Qv (fun (fs1 : List Value) => (True) ∧ (fs1.length = 163) ∧ (fs1[23]? = some (.ref bd)) ∧ (fs1[27]? = some (.int 0)) ∧ (fs1[29]? = some (.int 0))) (bw (dC, dI) (va_A [(q, .inr (15, fs))] sz) (fun (fs1 : List Value) => [(q, .inr (15, fs1))]) (fun (fs1 : List Value) => [])) (va_A [(q, .inr (15, fs))] sz)) 0 0 (va_A [(q, .inr (15, fs))] sz) := by
  refine Met.ofW (cc := cX15_next) (maxL := 4) (ret := none) (by decide) rfl ?_
  intro p e s m args below meth c s₁ B hml hv
  obtain ⟨rfl, hsz, hP, hK, hD0⟩ := hv
  have hx := B.exec
  have hb := B.bytes
  have hr := B.returns
  have hts := atoms_spec (ws := Cond.code yX15_next cX15_next 4 none :: tb) B.pre
  have ht : ∀ w ∈ tb, w.before _ s = true := fun w h => hts w (List.mem_cons_of_mem _ h)
  have hown : s.vm.findClass RX15 = some m.cls := findClass_of_methodNamed B.named
  have hlocks := B.notSynchronized
  subst hsz
  have hD := hD0.self (sz := s.heap.size)
  generalize hAe : va_A [(q, .inr (15, fs))] s.heap.size = A at hD ⊢
  have hA : ∀ q : Nat, s.heap.size ≤ q → A q := fun q h => by rw [← hAe]; exact Or.inr h
  have hS : va_S A s.heap s.heap [] := va_S.rf
  have hl := lv_entry ([.ref q]) (n := 4) (Nat.le_of_ble_eq_true rfl)
  rw [lg_entry_eq]
  generalize (lg_sl ([.ref q]) ++ List.replicate (4 - (lg_sl ([.ref q])).length) Slot.unset).toArray = ls at hl ⊢
  have hl : lv_has ls 4 [(0, .ref q)] := hl
  have hP : va_P (dC, dI) cls [(q, .inr (15, fs))] s.heap := hP
  refine lv_aload_n hx hb dX15_next_0 rfl (lv_at hl 0 rfl) ?_
  refine lv_aload_n hx hb dX15_next_1 rfl (lv_at hl 0 rfl) ?_
  refine va_get (D := (dC, dI)) (ci := 15) (v := .int 0) (C := RX15) (T := TX15) (N := 163) hx hb ht uX15 hown hK hP 0 rfl rfl 26 (by decide) (ht _ k_10_214) (fun _ h9 => h9) K26_fs dX15_next_2 ?_
  refine ca_i (wr := []) (va_runV (As := [.int 0]) (rest := []) ⟨hx, hb, hml, hown, ht⟩ (r_byteAt l dC dI s.heap.size q fs L_fs K25_fs ) (cwV 1 ht (gdV k_13_10 k_13_7 k_13_9 ks_116 k_1_17) rfl rfl rfl (by decide +kernel) ⟨Nat.le_of_ble_eq_true rfl, Nat.le_of_ble_eq_true rfl⟩) ⟨pcw_blind, va_recv hK hP (ci := 15) (q0 := 0) rfl rfl, pcw_at hP hD hK [0] [] (by decide) rfl rfl rfl⟩ rfl rfl hl.1 rfl (lv_room (Nat.le_of_ble_eq_true rfl)) dX15_next_5 ⟨Nat.le_of_ble_eq_true rfl, Nat.le_of_ble_eq_true rfl⟩) hP hD hK hS hA [0] [] rfl rfl (by decide) (by decide) (fun r_1 u H locs w_2 hK hP hD hS => ?_)
  have hK : va_K (dC, dI) cls [] s := hK
  have hP : va_P (dC, dI) cls [(q, .inr (15, fs))] H := hP
  have hD : va_D A [(q, .inr (15, fs))] := hD
  obtain rfl : r_1 = (-1) := w_2
  refine lv_bipush (v := 32) hx hb dX15_next_8 (by decide) ?_
  refine lv_icmp_eq (tgt := 26) hx hb dX15_next_10 (by decide) (fun c0 => absurd c0 (by decide)) (fun _ => ?_)
  refine lv_aload_n hx hb dX15_next_13 rfl (lv_at hl 0 rfl) ?_
  refine lv_aload_n hx hb dX15_next_14 rfl (lv_at hl 0 rfl) ?_
  refine va_get (D := (dC, dI)) (ci := 15) (v := .int 0) (C := RX15) (T := TX15) (N := 163) hx hb ht uX15 hown hK hP 0 rfl rfl 26 (by decide) (ht _ k_10_214) (fun _ h9 => h9) K26_fs dX15_next_15 ?_
  refine ca_i (wr := []) (va_runV (As := [.int 0]) (rest := []) ⟨hx, hb, hml, hown, ht⟩ (r_byteAt l dC dI H.size q fs L_fs K25_fs ) (cwV 1 ht (gdV k_13_10 k_13_7 k_13_9 ks_116 k_1_17) rfl rfl rfl (by decide +kernel) ⟨Nat.le_of_ble_eq_true rfl, Nat.le_of_ble_eq_true rfl⟩) ⟨pcw_blind, va_recv hK hP (ci := 15) (q0 := 0) rfl rfl, pcw_at hP hD hK [0] [] (by decide) rfl rfl rfl⟩ rfl rfl hl.1 rfl (lv_room (Nat.le_of_ble_eq_true rfl)) dX15_next_18 ⟨Nat.le_of_ble_eq_true rfl, Nat.le_of_ble_eq_true rfl⟩) hP hD hK hS hA [0] [] rfl rfl (by decide) (by decide) (fun r_3 u H locs w_4 hK hP hD hS => ?_)
  have hK : va_K (dC, dI) cls [] s := hK
  have hP : va_P (dC, dI) cls [(q, .inr (15, fs))] H := hP
  have hD : va_D A [(q, .inr (15, fs))] := hD
  obtain rfl : r_3 = (-1) := w_4
  refine lv_bipush (v := 10) hx hb dX15_next_21 (by decide) ?_
  refine lv_icmp_ne (tgt := 39) hx hb dX15_next_23 (by decide) (fun _ => ?_) (fun c0 => absurd c0 (by decide))
  refine lv_aload_n hx hb dX15_next_39 rfl (lv_at hl 0 rfl) ?_
  refine lv_aload_n hx hb dX15_next_40 rfl (lv_at hl 0 rfl) ?_
  refine va_get (D := (dC, dI)) (ci := 15) (v := .int 0) (C := RX15) (T := TX15) (N := 163) hx hb ht uX15 hown hK hP 0 rfl rfl 26 (by decide) (ht _ k_10_214) (fun _ h9 => h9) K26_fs dX15_next_41 ?_
  refine va_put (D := (dC, dI)) (ci := 15) (v := .int 0) (ty := .int) (C := RX15) (T := TX15) (N := 163) hx hb ht uX15 tyX15 tkX15 nmX15 hown hK hP hD hS 0 rfl rfl 29 (by decide) (ht _ k_10_217) (fun _ h9 => h9) rfl (by decide +kernel) rfl rfl (by rw [L_fs]; decide) dX15_next_44 (fun H locs hP hD hS => ?_)
  obtain ⟨F_5, eF_5⟩ : ∃ g : List Value, g = fs.set 29 (.int 0) := ⟨_, rfl⟩
  rw [← eF_5] at hP hD
  have K23_F_5 : F_5[23]? = some (.ref bd) := by rw [eF_5, List.getElem?_set_ne (by decide)]; exact K23_fs
  have K25_F_5 : F_5[25]? = some (.int 0) := by rw [eF_5, List.getElem?_set_ne (by decide)]; exact K25_fs
  have K26_F_5 : F_5[26]? = some (.int 0) := by rw [eF_5, List.getElem?_set_ne (by decide)]; exact K26_fs
  have K29_F_5 : F_5[29]? = some (.int 0) := by rw [eF_5]; exact List.getElem?_set_self (by rw [L_fs]; decide)
  have L_F_5 : F_5.length = 163 := by rw [eF_5, List.length_set]; exact L_fs
  have hP : va_P (dC, dI) cls [(q, .inr (15, F_5))] H := hP
  have hD : va_D A [(q, .inr (15, F_5))] := hD
  refine lv_aload_n hx hb dX15_next_47 rfl (lv_at hl 0 rfl) ?_
  refine lv_aload_n hx hb dX15_next_48 rfl (lv_at hl 0 rfl) ?_
  refine va_get (D := (dC, dI)) (ci := 15) (v := .int 0) (C := RX15) (T := TX15) (N := 163) hx hb ht uX15 hown hK hP 0 rfl rfl 26 (by decide) (ht _ k_10_214) (fun _ h9 => h9) K26_F_5 dX15_next_49 ?_
  refine ca_i (wr := []) (va_runV (As := [.int 0]) (rest := []) ⟨hx, hb, hml, hown, ht⟩ (r_byteAt l dC dI H.size q F_5 L_F_5 K25_F_5 ) (cwV 1 ht (gdV k_13_10 k_13_7 k_13_9 ks_116 k_1_17) rfl rfl rfl (by decide +kernel) ⟨Nat.le_of_ble_eq_true rfl, Nat.le_of_ble_eq_true rfl⟩) ⟨pcw_blind, va_recv hK hP (ci := 15) (q0 := 0) rfl rfl, pcw_at hP hD hK [0] [] (by decide) rfl rfl rfl⟩ rfl rfl hl.1 rfl (lv_room (Nat.le_of_ble_eq_true rfl)) dX15_next_52 ⟨Nat.le_of_ble_eq_true rfl, Nat.le_of_ble_eq_true rfl⟩) hP hD hK hS hA [0] [] rfl rfl (by decide) (by decide) (fun r_6 u H locs w_7 hK hP hD hS => ?_)
  have hK : va_K (dC, dI) cls [] s := hK
  have hP : va_P (dC, dI) cls [(q, .inr (15, F_5))] H := hP
  have hD : va_D A [(q, .inr (15, F_5))] := hD
  obtain rfl : r_6 = (-1) := w_7
  refine lv_istore_n (lv' := [(1, .int (-1)), (0, .ref q)]) hx hb dX15_next_55 rfl hl (by decide) rfl (fun ls hl => ?_)
  refine lv_iload_n hx hb dX15_next_56 rfl (lv_at hl 0 rfl) ?_
  refine lv_iconst (v := (-1)) hx hb dX15_next_57 (by decide) ?_
  refine lv_icmp_ne (tgt := 69) hx hb dX15_next_58 (by decide) (fun c0 => absurd c0 (by decide)) (fun _ => ?_)
  refine lv_aload_n hx hb dX15_next_61 rfl (lv_at hl 1 rfl) ?_
  refine lv_iconst (v := 0) hx hb dX15_next_62 (by decide) ?_
  refine va_put (D := (dC, dI)) (ci := 15) (v := .int 0) (ty := .int) (C := RX15) (T := TX15) (N := 163) hx hb ht uX15 tyX15 tkX15 nmX15 hown hK hP hD hS 0 rfl rfl 27 (by decide) (ht _ k_10_215) (fun _ h9 => h9) rfl (by decide +kernel) rfl rfl (by rw [L_F_5]; decide) dX15_next_63 (fun H locs hP hD hS => ?_)
  obtain ⟨F_8, eF_8⟩ : ∃ g : List Value, g = F_5.set 27 (.int 0) := ⟨_, rfl⟩
  rw [← eF_8] at hP hD
  have K23_F_8 : F_8[23]? = some (.ref bd) := by rw [eF_8, List.getElem?_set_ne (by decide)]; exact K23_F_5
  have K25_F_8 : F_8[25]? = some (.int 0) := by rw [eF_8, List.getElem?_set_ne (by decide)]; exact K25_F_5
  have K26_F_8 : F_8[26]? = some (.int 0) := by rw [eF_8, List.getElem?_set_ne (by decide)]; exact K26_F_5
  have K29_F_8 : F_8[29]? = some (.int 0) := by rw [eF_8, List.getElem?_set_ne (by decide)]; exact K29_F_5
  have K27_F_8 : F_8[27]? = some (.int 0) := by rw [eF_8]; exact List.getElem?_set_self (by rw [L_F_5]; decide)
  have L_F_8 : F_8.length = 163 := by rw [eF_8, List.length_set]; exact L_F_5
  have hP : va_P (dC, dI) cls [(q, .inr (15, F_8))] H := hP
  have hD : va_D A [(q, .inr (15, F_8))] := hD
  refine lv_goto (tgt := 396) hx hb dX15_next_66 (by decide) ?_
  exact W.vret hx hb hr (fun t ht9 hW => ⟨⟨(F_8), rfl, ⟨trivial, L_F_8, K23_F_8, K27_F_8, K29_F_8⟩, by rw [ht9]; exact hP.sub [0] rfl, va_K.moved hW.alike (hK.sub [] rfl), hD.sub [0] (by decide) rfl⟩, hS.F ht9⟩) hS.2.2 dX15_next_396
set_option maxHeartbeats 4000000 in
set_option maxRecDepth 100000 in
theorem r_begin (l : Launch) (dC : Nat → ClassId) (dI : Nat → Nat → Nat) (sz : Nat) (q : Nat) (fs : List Value) (bd : Nat) (L_fs : fs.length = 163) (K23_fs : fs[23]? = some (.ref bd)) (K25_fs : fs[25]? = some (.int 0)) : Met l yX15_begin (Cond.code yX15_begin cX15_begin 1 none :: tb) ({ frames := 2, cells := 0, slots := 0, locals := 44 }) (pcw [.ref q] (dC, dI) [(q, .inr (15, fs))] [] sz) (va_Qv (fun (fs1 : List Value) => (True) ∧ (fs1.length = 163) ∧ (fs1[23]? = some (.ref bd)) ∧ (fs1[27]? = some (.int 0)) ∧ (fs1[29]? = some (.int 0))) (bw (dC, dI) (va_A [(q, .inr (15, fs))] sz) (fun (fs1 : List Value) => [(q, .inr (15, fs1))]) (fun (fs1 : List Value) => [])) (va_A [(q, .inr (15, fs))] sz)) 0 0 (va_A [(q, .inr (15, fs))] sz) := by
  refine Met.ofW (cc := cX15_begin) (maxL := 1) (ret := none) (by decide) rfl ?_
  intro p e s m args below meth c s₁ B hml hv
  obtain ⟨rfl, hsz, hP, hK, hD0⟩ := hv
  have hx := B.exec
  have hb := B.bytes
  have hr := B.returns
  have hts := atoms_spec (ws := Cond.code yX15_begin cX15_begin 1 none :: tb) B.pre
  have ht : ∀ w ∈ tb, w.before _ s = true := fun w h => hts w (List.mem_cons_of_mem _ h)
  have hown : s.vm.findClass RX15 = some m.cls := findClass_of_methodNamed B.named
  have hlocks := B.notSynchronized
  subst hsz
  have hD := hD0.self (sz := s.heap.size)
  generalize hAe : va_A [(q, .inr (15, fs))] s.heap.size = A at hD ⊢
  have hA : ∀ q : Nat, s.heap.size ≤ q → A q := fun q h => by rw [← hAe]; exact Or.inr h
  have hS : va_S A s.heap s.heap [] := va_S.rf
  have hl := lv_entry ([.ref q]) (n := 1) (Nat.le_of_ble_eq_true rfl)
  rw [lg_entry_eq]
  generalize (lg_sl ([.ref q]) ++ List.replicate (1 - (lg_sl ([.ref q])).length) Slot.unset).toArray = ls at hl ⊢
  have hl : lv_has ls 1 [(0, .ref q)] := hl
  have hP : va_P (dC, dI) cls [(q, .inr (15, fs))] s.heap := hP
  refine lv_aload_n hx hb dX15_begin_0 rfl (lv_at hl 0 rfl) ?_
  refine lv_iconst (v := 0) hx hb dX15_begin_1 (by decide) ?_
  refine va_put (D := (dC, dI)) (ci := 15) (v := .int 0) (ty := .int) (C := RX15) (T := TX15) (N := 163) hx hb ht uX15 tyX15 tkX15 nmX15 hown hK hP hD hS 0 rfl rfl 26 (by decide) (ht _ k_10_214) (fun _ h9 => h9) rfl (by decide +kernel) rfl rfl (by rw [L_fs]; decide) dX15_begin_2 (fun H locs hP hD hS => ?_)
  obtain ⟨F_1, eF_1⟩ : ∃ g : List Value, g = fs.set 26 (.int 0) := ⟨_, rfl⟩
  rw [← eF_1] at hP hD
  have K23_F_1 : F_1[23]? = some (.ref bd) := by rw [eF_1, List.getElem?_set_ne (by decide)]; exact K23_fs
  have K25_F_1 : F_1[25]? = some (.int 0) := by rw [eF_1, List.getElem?_set_ne (by decide)]; exact K25_fs
  have K26_F_1 : F_1[26]? = some (.int 0) := by rw [eF_1]; exact List.getElem?_set_self (by rw [L_fs]; decide)
  have L_F_1 : F_1.length = 163 := by rw [eF_1, List.length_set]; exact L_fs
  have hP : va_P (dC, dI) cls [(q, .inr (15, F_1))] H := hP
  have hD : va_D A [(q, .inr (15, F_1))] := hD
  refine lv_aload_n hx hb dX15_begin_5 rfl (lv_at hl 0 rfl) ?_
  refine lv_iconst (v := 0) hx hb dX15_begin_6 (by decide) ?_
  refine va_put (D := (dC, dI)) (ci := 15) (v := .int 0) (ty := .int) (C := RX15) (T := TX15) (N := 163) hx hb ht uX15 tyX15 tkX15 nmX15 hown hK hP hD hS 0 rfl rfl 30 (by decide) (ht _ k_10_218) (fun _ h9 => h9) rfl (by decide +kernel) rfl rfl (by rw [L_F_1]; decide) dX15_begin_7 (fun H locs hP hD hS => ?_)
  obtain ⟨F_2, eF_2⟩ : ∃ g : List Value, g = F_1.set 30 (.int 0) := ⟨_, rfl⟩
  rw [← eF_2] at hP hD
  have K23_F_2 : F_2[23]? = some (.ref bd) := by rw [eF_2, List.getElem?_set_ne (by decide)]; exact K23_F_1
  have K25_F_2 : F_2[25]? = some (.int 0) := by rw [eF_2, List.getElem?_set_ne (by decide)]; exact K25_F_1
  have K26_F_2 : F_2[26]? = some (.int 0) := by rw [eF_2, List.getElem?_set_ne (by decide)]; exact K26_F_1
  have K30_F_2 : F_2[30]? = some (.int 0) := by rw [eF_2]; exact List.getElem?_set_self (by rw [L_F_1]; decide)
  have L_F_2 : F_2.length = 163 := by rw [eF_2, List.length_set]; exact L_F_1
  have hP : va_P (dC, dI) cls [(q, .inr (15, F_2))] H := hP
  have hD : va_D A [(q, .inr (15, F_2))] := hD
  refine lv_aload_n hx hb dX15_begin_10 rfl (lv_at hl 0 rfl) ?_
  refine lv_ldcw (v := 2147483647) hx hb hown (ht _ k_13_2) dX15_begin_11 ?_
  refine va_put (D := (dC, dI)) (ci := 15) (v := .int 2147483647) (ty := .int) (C := RX15) (T := TX15) (N := 163) hx hb ht uX15 tyX15 tkX15 nmX15 hown hK hP hD hS 0 rfl rfl 31 (by decide) (ht _ k_10_219) (fun _ h9 => h9) rfl (by decide +kernel) rfl rfl (by rw [L_F_2]; decide) dX15_begin_14 (fun H locs hP hD hS => ?_)
  obtain ⟨F_3, eF_3⟩ : ∃ g : List Value, g = F_2.set 31 (.int 2147483647) := ⟨_, rfl⟩
  rw [← eF_3] at hP hD
  have K23_F_3 : F_3[23]? = some (.ref bd) := by rw [eF_3, List.getElem?_set_ne (by decide)]; exact K23_F_2
  have K25_F_3 : F_3[25]? = some (.int 0) := by rw [eF_3, List.getElem?_set_ne (by decide)]; exact K25_F_2
  have K26_F_3 : F_3[26]? = some (.int 0) := by rw [eF_3, List.getElem?_set_ne (by decide)]; exact K26_F_2
  have K30_F_3 : F_3[30]? = some (.int 0) := by rw [eF_3, List.getElem?_set_ne (by decide)]; exact K30_F_2
  have K31_F_3 : F_3[31]? = some (.int 2147483647) := by rw [eF_3]; exact List.getElem?_set_self (by rw [L_F_2]; decide)
  have L_F_3 : F_3.length = 163 := by rw [eF_3, List.length_set]; exact L_F_2
  have hP : va_P (dC, dI) cls [(q, .inr (15, F_3))] H := hP
  have hD : va_D A [(q, .inr (15, F_3))] := hD
  refine lv_aload_n hx hb dX15_begin_17 rfl (lv_at hl 0 rfl) ?_
  refine ca_v (wr := []) (va_runV (As := []) (rest := []) ⟨hx, hb, hml, hown, ht⟩ (r_next l dC dI H.size q F_3 bd L_F_3 K23_F_3 K25_F_3 K26_F_3 ) (cwV 0 ht (gdV k_13_6 k_13_3 k_13_5 ks_115 k_1_17) rfl rfl rfl (by decide +kernel) ⟨Nat.le_of_ble_eq_true rfl, Nat.le_of_ble_eq_true rfl⟩) ⟨pcw_blind, va_recv hK hP (ci := 15) (q0 := 0) rfl rfl, pcw_at hP hD hK [0] [] (by decide) rfl rfl rfl⟩ rfl rfl hl.1 rfl (lv_room (Nat.le_of_ble_eq_true rfl)) dX15_begin_18 ⟨Nat.le_of_ble_eq_true rfl, Nat.le_of_ble_eq_true rfl⟩) hP hD hK hS hA [0] [] rfl rfl (by decide) (by decide) (fun u H locs w_5 hK hP hD hS => ?_)
  obtain ⟨F_6, rfl⟩ : ∃ z, z = u := ⟨_, rfl⟩
  have hK : va_K (dC, dI) cls [] s := hK
  have hP : va_P (dC, dI) cls [(q, .inr (15, F_6))] H := hP
  have hD : va_D A [(q, .inr (15, F_6))] := hD
  obtain ⟨w_5, K_7, K_8, K_9, K_10⟩ := w_5
  exact W.vret hx hb hr (fun t ht9 hW => ⟨⟨(F_6), rfl, ⟨trivial, K_7, K_8, K_9, K_10⟩, by rw [ht9]; exact hP.sub [0] rfl, va_K.moved hW.alike (hK.sub [] rfl), hD.sub [0] (by decide) rfl⟩, hS.F ht9⟩) hS.2.2 dX15_begin_21
set_option maxHeartbeats 4000000 in
set_option maxRecDepth 100000 in
theorem r_fail (l : Launch) (dC : Nat → ClassId) (dI : Nat → Nat → Nat) (sz : Nat) (q : Nat) (fs : List Value) (bd : Nat) (gb : List Value) (L_fs : fs.length = 163) (K23_fs : fs[23]? = some (.ref bd)) (L_gb : gb.length = 8) : Met l yX15_fail (Cond.code yX15_fail cX15_fail 3 (some (.object "FinderHouseModel$Bad")) :: tb) ({ frames := 0, cells := 0, slots := 0, locals := 0 }) (pcw [.ref q, .int 1, .int 0] (dC, dI) [(q, .inr (15, fs)), (bd, .inr (13, gb))] [] sz) (va_Qr (fun (gb1 : List Value) => (True) ∧ (gb1.length = 8) ∧ (gb1[6]? = some (.int 1)) ∧ (gb1[7]? = some (.int 0))) (fun u a t => a = bd ∧ bw (dC, dI) (va_A [(q, .inr (15, fs)), (bd, .inr (13, gb))] sz) (fun (gb1 : List Value) => [(q, .inr (15, fs)), (bd, .inr (13, gb1))]) (fun (gb1 : List Value) => []) u t) (va_A [(q, .inr (15, fs)), (bd, .inr (13, gb))] sz)) 0 0 (va_A [(q, .inr (15, fs)), (bd, .inr (13, gb))] sz) := by
  refine Met.ofW (cc := cX15_fail) (maxL := 3) (ret := (some (.object "FinderHouseModel$Bad"))) (by decide) rfl ?_
  intro p e s m args below meth c s₁ B hml hv
  obtain ⟨rfl, hsz, hP, hK, hD0⟩ := hv
  have hx := B.exec
  have hb := B.bytes
  have hr := B.returns
  have hts := atoms_spec (ws := Cond.code yX15_fail cX15_fail 3 (some (.object "FinderHouseModel$Bad")) :: tb) B.pre
  have ht : ∀ w ∈ tb, w.before _ s = true := fun w h => hts w (List.mem_cons_of_mem _ h)
  have hown : s.vm.findClass RX15 = some m.cls := findClass_of_methodNamed B.named
  have hlocks := B.notSynchronized
  subst hsz
  have hD := hD0.self (sz := s.heap.size)
  generalize hAe : va_A [(q, .inr (15, fs)), (bd, .inr (13, gb))] s.heap.size = A at hD ⊢
  have hA : ∀ q : Nat, s.heap.size ≤ q → A q := fun q h => by rw [← hAe]; exact Or.inr h
  have hS : va_S A s.heap s.heap [] := va_S.rf
  have hl := lv_entry ([.ref q, .int 1, .int 0]) (n := 3) (Nat.le_of_ble_eq_true rfl)
  rw [lg_entry_eq]
  generalize (lg_sl ([.ref q, .int 1, .int 0]) ++ List.replicate (3 - (lg_sl ([.ref q, .int 1, .int 0])).length) Slot.unset).toArray = ls at hl ⊢
  have hl : lv_has ls 3 [(0, .ref q), (1, .int 1), (2, .int 0)] := hl
  have hP : va_P (dC, dI) cls [(q, .inr (15, fs)), (bd, .inr (13, gb))] s.heap := hP
  refine lv_aload_n hx hb dX15_fail_0 rfl (lv_at hl 0 rfl) ?_
  refine va_get (D := (dC, dI)) (ci := 15) (v := .ref bd) (C := RX15) (T := TX15) (N := 163) hx hb ht uX15 hown hK hP 0 rfl rfl 23 (by decide) (ht _ k_10_211) (fun _ h9 => h9) K23_fs dX15_fail_1 ?_
  refine lv_iload_n hx hb dX15_fail_4 rfl (lv_at hl 1 rfl) ?_
  refine va_put (D := (dC, dI)) (ci := 13) (v := .int 1) (ty := .int) (C := RX13) (T := TX13) (N := 8) hx hb ht uX13 tyX13 tkX13 nmX13 hown hK hP hD hS 1 rfl rfl 6 (by decide) (ht _ k_10_16) (fun _ h9 => h9) rfl (by decide +kernel) rfl rfl (by rw [L_gb]; decide) dX15_fail_5 (fun H locs hP hD hS => ?_)
  obtain ⟨F_1, eF_1⟩ : ∃ g : List Value, g = gb.set 6 (.int 1) := ⟨_, rfl⟩
  rw [← eF_1] at hP hD
  have K6_F_1 : F_1[6]? = some (.int 1) := by rw [eF_1]; exact List.getElem?_set_self (by rw [L_gb]; decide)
  have L_F_1 : F_1.length = 8 := by rw [eF_1, List.length_set]; exact L_gb
  have hP : va_P (dC, dI) cls [(q, .inr (15, fs)), (bd, .inr (13, F_1))] H := hP
  have hD : va_D A [(q, .inr (15, fs)), (bd, .inr (13, F_1))] := hD
  refine lv_aload_n hx hb dX15_fail_8 rfl (lv_at hl 0 rfl) ?_
  refine va_get (D := (dC, dI)) (ci := 15) (v := .ref bd) (C := RX15) (T := TX15) (N := 163) hx hb ht uX15 hown hK hP 0 rfl rfl 23 (by decide) (ht _ k_10_211) (fun _ h9 => h9) K23_fs dX15_fail_9 ?_
  refine lv_iload_n hx hb dX15_fail_12 rfl (lv_at hl 2 rfl) ?_
  refine va_put (D := (dC, dI)) (ci := 13) (v := .int 0) (ty := .int) (C := RX13) (T := TX13) (N := 8) hx hb ht uX13 tyX13 tkX13 nmX13 hown hK hP hD hS 1 rfl rfl 7 (by decide) (ht _ k_10_17) (fun _ h9 => h9) rfl (by decide +kernel) rfl rfl (by rw [L_F_1]; decide) dX15_fail_13 (fun H locs hP hD hS => ?_)
  obtain ⟨F_2, eF_2⟩ : ∃ g : List Value, g = F_1.set 7 (.int 0) := ⟨_, rfl⟩
  rw [← eF_2] at hP hD
  have K6_F_2 : F_2[6]? = some (.int 1) := by rw [eF_2, List.getElem?_set_ne (by decide)]; exact K6_F_1
  have K7_F_2 : F_2[7]? = some (.int 0) := by rw [eF_2]; exact List.getElem?_set_self (by rw [L_F_1]; decide)
  have L_F_2 : F_2.length = 8 := by rw [eF_2, List.length_set]; exact L_F_1
  have hP : va_P (dC, dI) cls [(q, .inr (15, fs)), (bd, .inr (13, F_2))] H := hP
  have hD : va_D A [(q, .inr (15, fs)), (bd, .inr (13, F_2))] := hD
  refine lv_aload_n hx hb dX15_fail_16 rfl (lv_at hl 0 rfl) ?_
  refine va_get (D := (dC, dI)) (ci := 15) (v := .ref bd) (C := RX15) (T := TX15) (N := 163) hx hb ht uX15 hown hK hP 0 rfl rfl 23 (by decide) (ht _ k_10_211) (fun _ h9 => h9) K23_fs dX15_fail_17 ?_
  exact W.aret (v := .ref bd) hx hb hr (Or.inl ⟨_, rfl⟩) (Or.inr ⟨_, rfl⟩) (fun t ht9 hW => ⟨⟨(F_2), bd, rfl, ⟨trivial, L_F_2, K6_F_2, K7_F_2⟩, rfl, by rw [ht9]; exact hP.sub [0, 1] rfl, va_K.moved hW.alike (hK.sub [] rfl), hD.sub [0, 1] (by decide) rfl⟩, hS.F ht9⟩) hS.2.2 dX15_fail_20
set_option maxHeartbeats 4000000 in
set_option maxRecDepth 100000 in
theorem r_isName (l : Launch) (dC : Nat → ClassId) (dI : Nat → Nat → Nat) (sz : Nat) (q : Nat) (fs : List Value) (p0 : Int64) (L_fs : fs.length = 163) (K27_fs : fs[27]? = some (.int 0)) : Met l yX15_isName (Cond.code yX15_isName cX15_isName 3 (some .boolean) :: tb) ({ frames := 0, cells := 0, slots := 0, locals := 0 }) (pcw [.ref q, .long p0] (dC, dI) [(q, .inr (15, fs))] [] sz) (va_Qi (fun (r : Int32) => (fun (_ : Unit) => r = 0)) (bw (dC, dI) (va_A [(q, .inr (15, fs))] sz) (fun (_ : Unit) => [(q, .inr (15, fs))]) (fun (_ : Unit) => [])) (va_A [(q, .inr (15, fs))] sz)) 0 0 (va_A [(q, .inr (15, fs))] sz) := by
  refine Met.ofW (cc := cX15_isName) (maxL := 3) (ret := (some .boolean)) (by decide) rfl ?_
  intro p e s m args below meth c s₁ B hml hv
  obtain ⟨rfl, hsz, hP, hK, hD0⟩ := hv
  have hx := B.exec
  have hb := B.bytes
  have hr := B.returns
  have hts := atoms_spec (ws := Cond.code yX15_isName cX15_isName 3 (some .boolean) :: tb) B.pre
  have ht : ∀ w ∈ tb, w.before _ s = true := fun w h => hts w (List.mem_cons_of_mem _ h)
  have hown : s.vm.findClass RX15 = some m.cls := findClass_of_methodNamed B.named
  have hlocks := B.notSynchronized
  subst hsz
  have hD := hD0.self (sz := s.heap.size)
  generalize hAe : va_A [(q, .inr (15, fs))] s.heap.size = A at hD ⊢
  have hA : ∀ q : Nat, s.heap.size ≤ q → A q := fun q h => by rw [← hAe]; exact Or.inr h
  have hS : va_S A s.heap s.heap [] := va_S.rf
  have hl := lv_entry ([.ref q, .long p0]) (n := 3) (Nat.le_of_ble_eq_true rfl)
  rw [lg_entry_eq]
  generalize (lg_sl ([.ref q, .long p0]) ++ List.replicate (3 - (lg_sl ([.ref q, .long p0])).length) Slot.unset).toArray = ls at hl ⊢
  have hl : lv_has ls 3 [(0, .ref q), (1, .long p0)] := hl
  have hP : va_P (dC, dI) cls [(q, .inr (15, fs))] s.heap := hP
  refine lv_aload_n hx hb dX15_isName_0 rfl (lv_at hl 0 rfl) ?_
  refine va_get (D := (dC, dI)) (ci := 15) (v := .int 0) (C := RX15) (T := TX15) (N := 163) hx hb ht uX15 hown hK hP 0 rfl rfl 27 (by decide) (ht _ k_10_215) (fun _ h9 => h9) K27_fs dX15_isName_1 ?_
  refine lv_iconst (v := 1) hx hb dX15_isName_4 (by decide) ?_
  refine lv_icmp_ne (tgt := 21) hx hb dX15_isName_5 (by decide) (fun _ => ?_) (fun c0 => absurd c0 (by decide))
  refine lv_iconst (v := 0) hx hb dX15_isName_21 (by decide) ?_
  exact W.zret (v := 0) hx hb hr rfl (fun t ht9 hW => ⟨⟨0, (), rfl, rfl, by rw [ht9]; exact hP.sub [0] rfl, va_K.moved hW.alike (hK.sub [] rfl), hD.sub [0] (by decide) rfl⟩, hS.F ht9⟩) hS.2.2 dX15_isName_22
set_option maxHeartbeats 4000000 in
set_option maxRecDepth 100000 in
theorem r_isSign (l : Launch) (dC : Nat → ClassId) (dI : Nat → Nat → Nat) (sz : Nat) (q : Nat) (fs : List Value) (p0 : Int32) (L_fs : fs.length = 163) (K27_fs : fs[27]? = some (.int 0)) : Met l yX15_isSign (Cond.code yX15_isSign cX15_isSign 2 (some .boolean) :: tb) ({ frames := 0, cells := 0, slots := 0, locals := 0 }) (pcw [.ref q, .int p0] (dC, dI) [(q, .inr (15, fs))] [] sz) (va_Qi (fun (r : Int32) => (fun (_ : Unit) => r = 0)) (bw (dC, dI) (va_A [(q, .inr (15, fs))] sz) (fun (_ : Unit) => [(q, .inr (15, fs))]) (fun (_ : Unit) => [])) (va_A [(q, .inr (15, fs))] sz)) 0 0 (va_A [(q, .inr (15, fs))] sz) := by
  refine Met.ofW (cc := cX15_isSign) (maxL := 2) (ret := (some .boolean)) (by decide) rfl ?_
  intro p e s m args below meth c s₁ B hml hv
  obtain ⟨rfl, hsz, hP, hK, hD0⟩ := hv
  have hx := B.exec
  have hb := B.bytes
  have hr := B.returns
  have hts := atoms_spec (ws := Cond.code yX15_isSign cX15_isSign 2 (some .boolean) :: tb) B.pre
  have ht : ∀ w ∈ tb, w.before _ s = true := fun w h => hts w (List.mem_cons_of_mem _ h)
  have hown : s.vm.findClass RX15 = some m.cls := findClass_of_methodNamed B.named
  have hlocks := B.notSynchronized
  subst hsz
  have hD := hD0.self (sz := s.heap.size)
  generalize hAe : va_A [(q, .inr (15, fs))] s.heap.size = A at hD ⊢
  have hA : ∀ q : Nat, s.heap.size ≤ q → A q := fun q h => by rw [← hAe]; exact Or.inr h
  have hS : va_S A s.heap s.heap [] := va_S.rf
  have hl := lv_entry ([.ref q, .int p0]) (n := 2) (Nat.le_of_ble_eq_true rfl)
  rw [lg_entry_eq]
  generalize (lg_sl ([.ref q, .int p0]) ++ List.replicate (2 - (lg_sl ([.ref q, .int p0])).length) Slot.unset).toArray = ls at hl ⊢
  have hl : lv_has ls 2 [(0, .ref q), (1, .int p0)] := hl
  have hP : va_P (dC, dI) cls [(q, .inr (15, fs))] s.heap := hP
  refine lv_aload_n hx hb dX15_isSign_0 rfl (lv_at hl 0 rfl) ?_
  refine va_get (D := (dC, dI)) (ci := 15) (v := .int 0) (C := RX15) (T := TX15) (N := 163) hx hb ht uX15 hown hK hP 0 rfl rfl 27 (by decide) (ht _ k_10_215) (fun _ h9 => h9) K27_fs dX15_isSign_1 ?_
  refine lv_iconst (v := 4) hx hb dX15_isSign_4 (by decide) ?_
  refine lv_icmp_ne (tgt := 22) hx hb dX15_isSign_5 (by decide) (fun _ => ?_) (fun c0 => absurd c0 (by decide))
  refine lv_iconst (v := 0) hx hb dX15_isSign_22 (by decide) ?_
  exact W.zret (v := 0) hx hb hr rfl (fun t ht9 hW => ⟨⟨0, (), rfl, rfl, by rw [ht9]; exact hP.sub [0] rfl, va_K.moved hW.alike (hK.sub [] rfl), hD.sub [0] (by decide) rfl⟩, hS.F ht9⟩) hS.2.2 dX15_isSign_23
set_option maxHeartbeats 4000000 in
set_option maxRecDepth 100000 in
theorem r_passName (l : Launch) (dC : Nat → ClassId) (dI : Nat → Nat → Nat) (sz : Nat) (q : Nat) (fs : List Value) (bd : Nat) (gb : List Value) (p0 : Int64) (L_fs : fs.length = 163) (K23_fs : fs[23]? = some (.ref bd)) (K27_fs : fs[27]? = some (.int 0)) (K29_fs : fs[29]? = some (.int 0)) (L_gb : gb.length = 8) : ux_Met l yX15_passName (Cond.code yX15_passName cX15_passName 3 none :: tb) ({ frames := 1, cells := 0, slots := 0, locals := 22 }) (pcw [.ref q, .long p0] (dC, dI) [(q, .inr (15, fs)), (bd, .inr (13, gb))] [] sz) (va_Qv (fun (_ : Unit) => False) (bw (dC, dI) (va_A [(q, .inr (15, fs)), (bd, .inr (13, gb))] sz) (fun (_ : Unit) => []) (fun (_ : Unit) => [])) (va_A [(q, .inr (15, fs)), (bd, .inr (13, gb))] sz)) (ux_X (fun (gb1 : List Value) => gb1.length = 8 ∧ gb1[6]? = some (.int 1) ∧ gb1[7]? = some (.int 0) ∧ True) (fun q9 E9 u9 t9 => q9 = bd ∧ E9 = "FinderHouseModel$Bad" ∧ bw (dC, dI) (va_A [(q, .inr (15, fs)), (bd, .inr (13, gb))] sz) (fun (gb1 : List Value) => [(q, .inr (15, fs)), (bd, .inr (13, gb1))]) (fun (gb1 : List Value) => []) u9 t9) (va_A [(q, .inr (15, fs)), (bd, .inr (13, gb))] sz)) 0 0 (va_A [(q, .inr (15, fs)), (bd, .inr (13, gb))] sz) := by
  refine ux_ofW (cc := cX15_passName) (maxL := 3) (ret := none) (by decide) rfl ?_
  intro p e s m args below meth c s₁ B hml htab hv
  obtain ⟨rfl, hsz, hP, hK, hD0⟩ := hv
  have hx := B.exec
  have hb := B.bytes
  have hr := B.returns
  have hts := atoms_spec (ws := Cond.code yX15_passName cX15_passName 3 none :: tb) B.pre
  have ht : ∀ w ∈ tb, w.before _ s = true := fun w h => hts w (List.mem_cons_of_mem _ h)
  have hown : s.vm.findClass RX15 = some m.cls := findClass_of_methodNamed B.named
  have hlocks := B.notSynchronized
  subst hsz
  have hD := hD0.self (sz := s.heap.size)
  generalize hAe : va_A [(q, .inr (15, fs)), (bd, .inr (13, gb))] s.heap.size = A at hD ⊢
  have hA : ∀ q : Nat, s.heap.size ≤ q → A q := fun q h => by rw [← hAe]; exact Or.inr h
  have hS : va_S A s.heap s.heap [] := va_S.rf
  have hl := lv_entry ([.ref q, .long p0]) (n := 3) (Nat.le_of_ble_eq_true rfl)
  rw [lg_entry_eq]
  generalize (lg_sl ([.ref q, .long p0]) ++ List.replicate (3 - (lg_sl ([.ref q, .long p0])).length) Slot.unset).toArray = ls at hl ⊢
  have hl : lv_has ls 3 [(0, .ref q), (1, .long p0)] := hl
  have hP : va_P (dC, dI) cls [(q, .inr (15, fs)), (bd, .inr (13, gb))] s.heap := hP
  refine lv_aload_n hx hb dX15_passName_0 rfl (lv_at hl 0 rfl) ?_
  refine lv_lload_n hx hb dX15_passName_1 rfl (lv_at hl 1 rfl) ?_
  refine ca_i (wr := [(bd, .inr (13, gb))]) (va_runV (As := [.long p0]) (rest := []) ⟨hx, hb, hml, hown, ht⟩ (r_isName l dC dI s.heap.size q fs p0 L_fs K27_fs ) (cwV 1 ht (gdV k_13_40 k_13_37 k_13_39 ks_121 k_1_17) rfl rfl rfl (by decide +kernel) ⟨Nat.le_of_ble_eq_true rfl, Nat.le_of_ble_eq_true rfl⟩) ⟨pcw_blind, va_recv hK hP (ci := 15) (q0 := 0) rfl rfl, pcw_at hP hD hK [0] [] (by decide) rfl rfl rfl⟩ rfl rfl hl.1 rfl (lv_room (Nat.le_of_ble_eq_true rfl)) dX15_passName_2 ⟨Nat.le_of_ble_eq_true rfl, Nat.le_of_ble_eq_true rfl⟩) hP hD hK hS hA [0] [1] rfl rfl (by decide) (by decide) (fun r_1 u H locs w_2 hK hP hD hS => ?_)
  have hK : va_K (dC, dI) cls [] s := hK
  have hP : va_P (dC, dI) cls [(bd, .inr (13, gb)), (q, .inr (15, fs))] H := hP
  have hD : va_D A [(bd, .inr (13, gb)), (q, .inr (15, fs))] := hD
  obtain rfl : r_1 = 0 := w_2
  refine lv_if_ne (tgt := 18) hx hb dX15_passName_5 (by decide) (fun c0 => absurd c0 (by decide)) (fun _ => ?_)
  refine lv_aload_n hx hb dX15_passName_8 rfl (lv_at hl 0 rfl) ?_
  refine lv_iconst (v := 1) hx hb dX15_passName_9 (by decide) ?_
  refine lv_aload_n hx hb dX15_passName_10 rfl (lv_at hl 0 rfl) ?_
  refine va_get (D := (dC, dI)) (ci := 15) (v := .int 0) (C := RX15) (T := TX15) (N := 163) hx hb ht uX15 hown hK hP 1 rfl rfl 29 (by decide) (ht _ k_10_217) (fun _ h9 => h9) K29_fs dX15_passName_11 ?_
  refine ca_r (wr := []) (va_runV (As := [.int 1, .int 0]) (rest := []) ⟨hx, hb, hml, hown, ht⟩ (r_fail l dC dI H.size q fs bd gb L_fs K23_fs L_gb ) (cwV 2 ht (gdV k_13_21 k_13_18 k_13_20 ks_118 k_1_17) rfl rfl rfl (by decide +kernel) ⟨Nat.le_of_ble_eq_true rfl, Nat.le_of_ble_eq_true rfl⟩) ⟨pcw_blind, va_recv hK hP (ci := 15) (q0 := 1) rfl rfl, pcw_at hP hD hK [1, 0] [] (by decide) rfl rfl rfl⟩ rfl rfl hl.1 rfl (lv_room (Nat.le_of_ble_eq_true rfl)) dX15_passName_14 ⟨Nat.le_of_ble_eq_true rfl, Nat.le_of_ble_eq_true rfl⟩) hP hD hK hS hA [1, 0] [] rfl rfl (by decide) (by decide) (fun u H locs w_4 hK hP hD hS => ?_)
  obtain ⟨F_5, rfl⟩ : ∃ z, z = u := ⟨_, rfl⟩
  have hK : va_K (dC, dI) cls [] s := hK
  have hP : va_P (dC, dI) cls [(q, .inr (15, fs)), (bd, .inr (13, F_5))] H := hP
  have hD : va_D A [(q, .inr (15, fs)), (bd, .inr (13, F_5))] := hD
  obtain ⟨w_4, K_6, K_7, K_8⟩ := w_4
  refine ux_athrow hx hb dX15_passName_17 ?_
  obtain ⟨ce, hce, hcv, hcl⟩ := cell_of hK hP (q0 := 1) (ci := 13) (q := (RX13, TX13, 8)) rfl rfl
  exact ux_out (E := "FinderHouseModel$Bad") (fun x hx9 => (htab x hx9).elim) hlocks hce hcv hcl (fun t ht9 hvm9 => ⟨(F_5), ⟨K_6, K_7, K_8, trivial⟩, ⟨rfl, rfl, by rw [ht9]; exact hP.sub [0, 1] rfl, va_K.moved hvm9 (hK.sub [] rfl), hD.sub [0, 1] (by decide) rfl⟩, hS.F ht9⟩) hS.2.2 (Nat.le_of_ble_eq_true rfl) (Nat.le_of_ble_eq_true rfl)
set_option maxHeartbeats 4000000 in
set_option maxRecDepth 100000 in
theorem r_takeName (l : Launch) (dC : Nat → ClassId) (dI : Nat → Nat → Nat) (sz : Nat) (q : Nat) (fs : List Value) (bd : Nat) (gb : List Value) (L_fs : fs.length = 163) (K23_fs : fs[23]? = some (.ref bd)) (K27_fs : fs[27]? = some (.int 0)) (K29_fs : fs[29]? = some (.int 0)) (L_gb : gb.length = 8) : ux_Met l yX15_takeName (Cond.code yX15_takeName cX15_takeName 3 (some .long) :: tb) ({ frames := 1, cells := 0, slots := 0, locals := 22 }) (pcw [.ref q] (dC, dI) [(q, .inr (15, fs)), (bd, .inr (13, gb))] [] sz) (va_Ql (fun (r : Int64) => (fun (_ : Unit) => False)) (bw (dC, dI) (va_A [(q, .inr (15, fs)), (bd, .inr (13, gb))] sz) (fun (_ : Unit) => []) (fun (_ : Unit) => [])) (va_A [(q, .inr (15, fs)), (bd, .inr (13, gb))] sz)) (ux_X (fun (gb1 : List Value) => gb1.length = 8 ∧ gb1[6]? = some (.int 1) ∧ gb1[7]? = some (.int 0) ∧ True) (fun q9 E9 u9 t9 => q9 = bd ∧ E9 = "FinderHouseModel$Bad" ∧ bw (dC, dI) (va_A [(q, .inr (15, fs)), (bd, .inr (13, gb))] sz) (fun (gb1 : List Value) => [(q, .inr (15, fs)), (bd, .inr (13, gb1))]) (fun (gb1 : List Value) => []) u9 t9) (va_A [(q, .inr (15, fs)), (bd, .inr (13, gb))] sz)) 0 0 (va_A [(q, .inr (15, fs)), (bd, .inr (13, gb))] sz) := by
  refine ux_ofW (cc := cX15_takeName) (maxL := 3) (ret := (some .long)) (by decide) rfl ?_
  intro p e s m args below meth c s₁ B hml htab hv
  obtain ⟨rfl, hsz, hP, hK, hD0⟩ := hv
  have hx := B.exec
  have hb := B.bytes
  have hr := B.returns
  have hts := atoms_spec (ws := Cond.code yX15_takeName cX15_takeName 3 (some .long) :: tb) B.pre
  have ht : ∀ w ∈ tb, w.before _ s = true := fun w h => hts w (List.mem_cons_of_mem _ h)
  have hown : s.vm.findClass RX15 = some m.cls := findClass_of_methodNamed B.named
  have hlocks := B.notSynchronized
  subst hsz
  have hD := hD0.self (sz := s.heap.size)
  generalize hAe : va_A [(q, .inr (15, fs)), (bd, .inr (13, gb))] s.heap.size = A at hD ⊢
  have hA : ∀ q : Nat, s.heap.size ≤ q → A q := fun q h => by rw [← hAe]; exact Or.inr h
  have hS : va_S A s.heap s.heap [] := va_S.rf
  have hl := lv_entry ([.ref q]) (n := 3) (Nat.le_of_ble_eq_true rfl)
  rw [lg_entry_eq]
  generalize (lg_sl ([.ref q]) ++ List.replicate (3 - (lg_sl ([.ref q])).length) Slot.unset).toArray = ls at hl ⊢
  have hl : lv_has ls 3 [(0, .ref q)] := hl
  have hP : va_P (dC, dI) cls [(q, .inr (15, fs)), (bd, .inr (13, gb))] s.heap := hP
  refine lv_aload_n hx hb dX15_takeName_0 rfl (lv_at hl 0 rfl) ?_
  refine va_get (D := (dC, dI)) (ci := 15) (v := .int 0) (C := RX15) (T := TX15) (N := 163) hx hb ht uX15 hown hK hP 0 rfl rfl 27 (by decide) (ht _ k_10_215) (fun _ h9 => h9) K27_fs dX15_takeName_1 ?_
  refine lv_iconst (v := 1) hx hb dX15_takeName_4 (by decide) ?_
  refine lv_icmp_eq (tgt := 18) hx hb dX15_takeName_5 (by decide) (fun c0 => absurd c0 (by decide)) (fun _ => ?_)
  refine lv_aload_n hx hb dX15_takeName_8 rfl (lv_at hl 0 rfl) ?_
  refine lv_iconst (v := 1) hx hb dX15_takeName_9 (by decide) ?_
  refine lv_aload_n hx hb dX15_takeName_10 rfl (lv_at hl 0 rfl) ?_
  refine va_get (D := (dC, dI)) (ci := 15) (v := .int 0) (C := RX15) (T := TX15) (N := 163) hx hb ht uX15 hown hK hP 0 rfl rfl 29 (by decide) (ht _ k_10_217) (fun _ h9 => h9) K29_fs dX15_takeName_11 ?_
  refine ca_r (wr := []) (va_runV (As := [.int 1, .int 0]) (rest := []) ⟨hx, hb, hml, hown, ht⟩ (r_fail l dC dI s.heap.size q fs bd gb L_fs K23_fs L_gb ) (cwV 2 ht (gdV k_13_21 k_13_18 k_13_20 ks_118 k_1_17) rfl rfl rfl (by decide +kernel) ⟨Nat.le_of_ble_eq_true rfl, Nat.le_of_ble_eq_true rfl⟩) ⟨pcw_blind, va_recv hK hP (ci := 15) (q0 := 0) rfl rfl, pcw_at hP hD hK [0, 1] [] (by decide) rfl rfl rfl⟩ rfl rfl hl.1 rfl (lv_room (Nat.le_of_ble_eq_true rfl)) dX15_takeName_14 ⟨Nat.le_of_ble_eq_true rfl, Nat.le_of_ble_eq_true rfl⟩) hP hD hK hS hA [0, 1] [] rfl rfl (by decide) (by decide) (fun u H locs w_2 hK hP hD hS => ?_)
  obtain ⟨F_3, rfl⟩ : ∃ z, z = u := ⟨_, rfl⟩
  have hK : va_K (dC, dI) cls [] s := hK
  have hP : va_P (dC, dI) cls [(q, .inr (15, fs)), (bd, .inr (13, F_3))] H := hP
  have hD : va_D A [(q, .inr (15, fs)), (bd, .inr (13, F_3))] := hD
  obtain ⟨w_2, K_4, K_5, K_6⟩ := w_2
  refine ux_athrow hx hb dX15_takeName_17 ?_
  obtain ⟨ce, hce, hcv, hcl⟩ := cell_of hK hP (q0 := 1) (ci := 13) (q := (RX13, TX13, 8)) rfl rfl
  exact ux_out (E := "FinderHouseModel$Bad") (fun x hx9 => (htab x hx9).elim) hlocks hce hcv hcl (fun t ht9 hvm9 => ⟨(F_3), ⟨K_4, K_5, K_6, trivial⟩, ⟨rfl, rfl, by rw [ht9]; exact hP.sub [0, 1] rfl, va_K.moved hvm9 (hK.sub [] rfl), hD.sub [0, 1] (by decide) rfl⟩, hS.F ht9⟩) hS.2.2 (Nat.le_of_ble_eq_true rfl) (Nat.le_of_ble_eq_true rfl)
set_option maxHeartbeats 4000000 in
set_option maxRecDepth 100000 in
theorem r_isValue (l : Launch) (dC : Nat → ClassId) (dI : Nat → Nat → Nat) (sz : Nat) (q : Nat) (fs : List Value) (vTRUE : Int64) (vFALSE : Int64) (L_fs : fs.length = 163) (K27_fs : fs[27]? = some (.int 0)) : Met l yX15_isValue (Cond.code yX15_isValue cX15_isValue 1 (some .boolean) :: tb) ({ frames := 1, cells := 0, slots := 0, locals := 22 }) (pcx [.inl ("FinderHouseModel", "TRUE", "J", .long vTRUE), .inl ("FinderHouseModel", "FALSE", "J", .long vFALSE)] [.ref q] (dC, dI) [(q, .inr (15, fs))] [] sz) (va_Qi (fun (r : Int32) => (fun (_ : Unit) => r = 0)) (bw (dC, dI) (va_A [(q, .inr (15, fs))] sz) (fun (_ : Unit) => [(q, .inr (15, fs))]) (fun (_ : Unit) => [])) (va_A [(q, .inr (15, fs))] sz)) 0 0 (va_A [(q, .inr (15, fs))] sz) := by
  refine Met.ofW (cc := cX15_isValue) (maxL := 1) (ret := (some .boolean)) (by decide) rfl ?_
  intro p e s m args below meth c s₁ B hml hv
  obtain ⟨rfl, hsz, hP, hK, hD0, hE⟩ := hv
  have hx := B.exec
  have hb := B.bytes
  have hr := B.returns
  have hts := atoms_spec (ws := Cond.code yX15_isValue cX15_isValue 1 (some .boolean) :: tb) B.pre
  have ht : ∀ w ∈ tb, w.before _ s = true := fun w h => hts w (List.mem_cons_of_mem _ h)
  have hown : s.vm.findClass RX15 = some m.cls := findClass_of_methodNamed B.named
  have hlocks := B.notSynchronized
  subst hsz
  have hD := hD0.self (sz := s.heap.size)
  generalize hAe : va_A [(q, .inr (15, fs))] s.heap.size = A at hD hE ⊢
  have hA : ∀ q : Nat, s.heap.size ≤ q → A q := fun q h => by rw [← hAe]; exact Or.inr h
  have hS : va_S A s.heap s.heap [] := va_S.rf
  have hl := lv_entry ([.ref q]) (n := 1) (Nat.le_of_ble_eq_true rfl)
  rw [lg_entry_eq]
  generalize (lg_sl ([.ref q]) ++ List.replicate (1 - (lg_sl ([.ref q])).length) Slot.unset).toArray = ls at hl ⊢
  have hl : lv_has ls 1 [(0, .ref q)] := hl
  have hP : va_P (dC, dI) cls [(q, .inr (15, fs))] s.heap := hP
  refine lv_aload_n hx hb dX15_isValue_0 rfl (lv_at hl 0 rfl) ?_
  refine va_get (D := (dC, dI)) (ci := 15) (v := .int 0) (C := RX15) (T := TX15) (N := 163) hx hb ht uX15 hown hK hP 0 rfl rfl 27 (by decide) (ht _ k_10_215) (fun _ h9 => h9) K27_fs dX15_isValue_1 ?_
  refine lv_iconst (v := 2) hx hb dX15_isValue_4 (by decide) ?_
  refine lv_icmp_eq (tgt := 36) hx hb dX15_isValue_5 (by decide) (fun c0 => absurd c0 (by decide)) (fun _ => ?_)
  refine lv_aload_n hx hb dX15_isValue_8 rfl (lv_at hl 0 rfl) ?_
  refine va_get (D := (dC, dI)) (ci := 15) (v := .int 0) (C := RX15) (T := TX15) (N := 163) hx hb ht uX15 hown hK hP 0 rfl rfl 27 (by decide) (ht _ k_10_215) (fun _ h9 => h9) K27_fs dX15_isValue_9 ?_
  refine lv_iconst (v := 3) hx hb dX15_isValue_12 (by decide) ?_
  refine lv_icmp_eq (tgt := 36) hx hb dX15_isValue_13 (by decide) (fun c0 => absurd c0 (by decide)) (fun _ => ?_)
  refine lv_aload_n hx hb dX15_isValue_16 rfl (lv_at hl 0 rfl) ?_
  refine va_gets (v := .long vTRUE) hx hb (xf_z hE 0 rfl) hS hown (ht _ k_13_78) (fun _ h9 => h9) dX15_isValue_17 ?_
  refine ca_i (wr := []) (va_runV (As := [.long vTRUE]) (rest := []) ⟨hx, hb, hml, hown, ht⟩ (r_isName l dC dI s.heap.size q fs vTRUE L_fs K27_fs ) (cwV 1 ht (gdV k_13_40 k_13_37 k_13_39 ks_121 k_1_17) rfl rfl rfl (by decide +kernel) ⟨Nat.le_of_ble_eq_true rfl, Nat.le_of_ble_eq_true rfl⟩) ⟨pcw_blind, va_recv hK hP (ci := 15) (q0 := 0) rfl rfl, pcw_at hP hD hK [0] [] (by decide) rfl rfl rfl⟩ rfl rfl hl.1 rfl (lv_room (Nat.le_of_ble_eq_true rfl)) dX15_isValue_20 ⟨Nat.le_of_ble_eq_true rfl, Nat.le_of_ble_eq_true rfl⟩) hP hD hK hS hA [0] [] rfl rfl (by decide) (by decide) (fun r_1 u H locs w_2 hK hP hD hS => ?_)
  have hK : va_K (dC, dI) cls [] s := hK
  have hP : va_P (dC, dI) cls [(q, .inr (15, fs))] H := hP
  have hD : va_D A [(q, .inr (15, fs))] := hD
  obtain rfl : r_1 = 0 := w_2
  refine lv_if_ne (tgt := 36) hx hb dX15_isValue_23 (by decide) (fun c0 => absurd c0 (by decide)) (fun _ => ?_)
  refine lv_aload_n hx hb dX15_isValue_26 rfl (lv_at hl 0 rfl) ?_
  refine va_gets (v := .long vFALSE) hx hb (xf_z hE 1 rfl) hS hown (ht _ k_13_80) (fun _ h9 => h9) dX15_isValue_27 ?_
  refine ca_i (wr := []) (va_runV (As := [.long vFALSE]) (rest := []) ⟨hx, hb, hml, hown, ht⟩ (r_isName l dC dI H.size q fs vFALSE L_fs K27_fs ) (cwV 1 ht (gdV k_13_40 k_13_37 k_13_39 ks_121 k_1_17) rfl rfl rfl (by decide +kernel) ⟨Nat.le_of_ble_eq_true rfl, Nat.le_of_ble_eq_true rfl⟩) ⟨pcw_blind, va_recv hK hP (ci := 15) (q0 := 0) rfl rfl, pcw_at hP hD hK [0] [] (by decide) rfl rfl rfl⟩ rfl rfl hl.1 rfl (lv_room (Nat.le_of_ble_eq_true rfl)) dX15_isValue_30 ⟨Nat.le_of_ble_eq_true rfl, Nat.le_of_ble_eq_true rfl⟩) hP hD hK hS hA [0] [] rfl rfl (by decide) (by decide) (fun r_3 u H locs w_4 hK hP hD hS => ?_)
  have hK : va_K (dC, dI) cls [] s := hK
  have hP : va_P (dC, dI) cls [(q, .inr (15, fs))] H := hP
  have hD : va_D A [(q, .inr (15, fs))] := hD
  obtain rfl : r_3 = 0 := w_4
  refine lv_if_eq (tgt := 40) hx hb dX15_isValue_33 (by decide) (fun _ => ?_) (fun c0 => absurd c0 (by decide))
  refine lv_iconst (v := 0) hx hb dX15_isValue_40 (by decide) ?_
  exact W.zret (v := 0) hx hb hr rfl (fun t ht9 hW => ⟨⟨0, (), rfl, rfl, by rw [ht9]; exact hP.sub [0] rfl, va_K.moved hW.alike (hK.sub [] rfl), hD.sub [0] (by decide) rfl⟩, hS.F ht9⟩) hS.2.2 dX15_isValue_41
set_option maxHeartbeats 4000000 in
set_option maxRecDepth 100000 in
theorem r_takeTerm_0 (l : Launch) (dC : Nat → ClassId) (dI : Nat → Nat → Nat) (sz : Nat) (q : Nat) (fs : List Value) (bd : Nat) (gb : List Value) (vTRUE : Int64) (vFALSE : Int64) (L_fs : fs.length = 163) (K23_fs : fs[23]? = some (.ref bd)) (K27_fs : fs[27]? = some (.int 0)) (K29_fs : fs[29]? = some (.int 0)) (L_gb : gb.length = 8) : ux_Met l yX15_takeTerm (Cond.code yX15_takeTerm cX15_takeTerm 7 (some .int) :: tb) ({ frames := 2, cells := 0, slots := 0, locals := 44 }) (pcx [.inl ("FinderHouseModel", "TRUE", "J", .long vTRUE), .inl ("FinderHouseModel", "FALSE", "J", .long vFALSE)] [.ref q, .int 0, .int 0] (dC, dI) [(q, .inr (15, fs)), (bd, .inr (13, gb))] [] sz) (va_Qi (fun (r : Int32) => (fun (_ : Unit) => False)) (bw (dC, dI) (va_A [(q, .inr (15, fs)), (bd, .inr (13, gb))] sz) (fun (_ : Unit) => []) (fun (_ : Unit) => [])) (va_A [(q, .inr (15, fs)), (bd, .inr (13, gb))] sz)) (ux_X (fun (gb1 : List Value) => gb1.length = 8 ∧ gb1[6]? = some (.int 1) ∧ gb1[7]? = some (.int 0) ∧ True) (fun q9 E9 u9 t9 => q9 = bd ∧ E9 = "FinderHouseModel$Bad" ∧ bw (dC, dI) (va_A [(q, .inr (15, fs)), (bd, .inr (13, gb))] sz) (fun (gb1 : List Value) => [(q, .inr (15, fs)), (bd, .inr (13, gb1))]) (fun (gb1 : List Value) => []) u9 t9) (va_A [(q, .inr (15, fs)), (bd, .inr (13, gb))] sz)) 0 0 (va_A [(q, .inr (15, fs)), (bd, .inr (13, gb))] sz) := by
  refine ux_ofW (cc := cX15_takeTerm) (maxL := 7) (ret := (some .int)) (by decide) rfl ?_
  intro p e s m args below meth c s₁ B hml htab hv
  obtain ⟨rfl, hsz, hP, hK, hD0, hE⟩ := hv
  have hx := B.exec
  have hb := B.bytes
  have hr := B.returns
  have hts := atoms_spec (ws := Cond.code yX15_takeTerm cX15_takeTerm 7 (some .int) :: tb) B.pre
  have ht : ∀ w ∈ tb, w.before _ s = true := fun w h => hts w (List.mem_cons_of_mem _ h)
  have hown : s.vm.findClass RX15 = some m.cls := findClass_of_methodNamed B.named
  have hlocks := B.notSynchronized
  subst hsz
  have hD := hD0.self (sz := s.heap.size)
  generalize hAe : va_A [(q, .inr (15, fs)), (bd, .inr (13, gb))] s.heap.size = A at hD hE ⊢
  have hA : ∀ q : Nat, s.heap.size ≤ q → A q := fun q h => by rw [← hAe]; exact Or.inr h
  have hS : va_S A s.heap s.heap [] := va_S.rf
  have hl := lv_entry ([.ref q, .int 0, .int 0]) (n := 7) (Nat.le_of_ble_eq_true rfl)
  rw [lg_entry_eq]
  generalize (lg_sl ([.ref q, .int 0, .int 0]) ++ List.replicate (7 - (lg_sl ([.ref q, .int 0, .int 0])).length) Slot.unset).toArray = ls at hl ⊢
  have hl : lv_has ls 7 [(0, .ref q), (1, .int 0), (2, .int 0)] := hl
  have hP : va_P (dC, dI) cls [(q, .inr (15, fs)), (bd, .inr (13, gb))] s.heap := hP
  refine lv_iload_n hx hb dX15_takeTerm_0 rfl (lv_at hl 1 rfl) ?_
  refine lv_bipush (v := 12) hx hb dX15_takeTerm_1 (by decide) ?_
  refine lv_icmp_le (tgt := 16) hx hb dX15_takeTerm_3 (by decide) (fun _ => ?_) (fun c0 => absurd c0 (by decide))
  refine lv_aload_n hx hb dX15_takeTerm_16 rfl (lv_at hl 0 rfl) ?_
  refine ca_i (wr := [(bd, .inr (13, gb))]) (va_runV (As := []) (rest := []) ⟨hx, hb, hml, hown, ht⟩ (r_isValue l dC dI s.heap.size q fs vTRUE vFALSE L_fs K27_fs ) (cwV 0 ht (gdV k_13_77 k_13_74 k_13_76 ks_129 k_1_17) rfl rfl rfl (by decide +kernel) ⟨Nat.le_of_ble_eq_true rfl, Nat.le_of_ble_eq_true rfl⟩) ⟨pcx_blind, va_recv hK hP (ci := 15) (q0 := 0) rfl rfl, pcx_at hP hD hK hS hA hE [0] [] [0, 1] (by decide) rfl rfl rfl rfl⟩ rfl rfl hl.1 rfl (lv_room (Nat.le_of_ble_eq_true rfl)) dX15_takeTerm_17 ⟨Nat.le_of_ble_eq_true rfl, Nat.le_of_ble_eq_true rfl⟩) hP hD hK hS hA [0] [1] rfl rfl (by decide) (by decide) (fun r_1 u H locs w_2 hK hP hD hS => ?_)
  have hK : va_K (dC, dI) cls [] s := hK
  have hP : va_P (dC, dI) cls [(bd, .inr (13, gb)), (q, .inr (15, fs))] H := hP
  have hD : va_D A [(bd, .inr (13, gb)), (q, .inr (15, fs))] := hD
  obtain rfl : r_1 = 0 := w_2
  refine lv_if_eq (tgt := 28) hx hb dX15_takeTerm_20 (by decide) (fun _ => ?_) (fun c0 => absurd c0 (by decide))
  refine lv_aload_n hx hb dX15_takeTerm_28 rfl (lv_at hl 0 rfl) ?_
  refine va_get (D := (dC, dI)) (ci := 15) (v := .int 0) (C := RX15) (T := TX15) (N := 163) hx hb ht uX15 hown hK hP 1 rfl rfl 29 (by decide) (ht _ k_10_217) (fun _ h9 => h9) K29_fs dX15_takeTerm_29 ?_
  refine lv_istore_n (lv' := [(3, .int 0), (0, .ref q), (1, .int 0), (2, .int 0)]) hx hb dX15_takeTerm_32 rfl hl (by decide) rfl (fun ls hl => ?_)
  refine lv_iload_n hx hb dX15_takeTerm_33 rfl (lv_at hl 3 rfl) ?_
  refine lv_if_eq (tgt := 71) hx hb dX15_takeTerm_34 (by decide) (fun _ => ?_) (fun c0 => absurd c0 (by decide))
  refine lv_aload_n hx hb dX15_takeTerm_71 rfl (lv_at hl 1 rfl) ?_
  have hFc := va_free (wc := [(q, .inr (15, fs)), (bd, .inr (13, gb))]) hD hS hA [1, 0] rfl
  refine ux_calll (ux_runV (As := []) (rest := []) ⟨hx, hb, hml, hown, ht⟩ (r_takeName l dC dI H.size q fs bd gb L_fs K23_fs K27_fs K29_fs L_gb ) (cwV 0 ht (gdV k_13_93 k_13_90 k_13_92 ks_132 k_1_17) rfl rfl rfl (by decide +kernel) ⟨Nat.le_of_ble_eq_true rfl, Nat.le_of_ble_eq_true rfl⟩) ⟨pcw_blind, va_recv hK hP (ci := 15) (q0 := 1) rfl rfl, pcw_at hP hD hK [1, 0] [] (by decide) rfl rfl rfl⟩ rfl rfl hl.1 rfl (lv_room (Nat.le_of_ble_eq_true rfl)) dX15_takeTerm_72 ⟨Nat.le_of_ble_eq_true rfl, Nat.le_of_ble_eq_true rfl⟩) hS (fun q _ h => hFc q h) hFc (fun q _ h => hFc q h) (fun E9 ce t_3 u t H locs ht9 hvm hpx hB9 hz9 hk9 hS hce hcv hcl => ?_) (fun r u t H locs ht9 hvm hw _ _ _ _ => hw.elim)
  obtain ⟨F_4, rfl⟩ : ∃ z, z = u := ⟨_, rfl⟩
  obtain ⟨hq9, rfl, hP1, hK1, hD1⟩ := hB9
  rw [ht9] at hP1
  rw [hq9] at hce ⊢
  obtain ⟨hP, hD⟩ := va_join (wr := []) (w1 := [(q, .inr (15, fs)), (bd, .inr (13, F_4))]) hP hD [1, 0] [] rfl rfl (by decide) (by decide) hk9 hFc hP1 hD1
  obtain ⟨K_5, K_6, K_7, -⟩ := hpx
  have hP : va_P (dC, dI) cls [(q, .inr (15, fs)), (bd, .inr (13, F_4))] H := hP
  have hD : va_D A [(q, .inr (15, fs)), (bd, .inr (13, F_4))] := hD
  exact ux_out (E := "FinderHouseModel$Bad") (fun x hx9 => (htab x hx9).elim) hlocks hce hcv hcl (fun t ht9 hvm9 => ⟨(F_4), ⟨K_5, K_6, K_7, trivial⟩, ⟨rfl, rfl, by rw [ht9]; exact hP.sub [0, 1] rfl, va_K.moved hvm9 (hK.sub [] rfl), hD.sub [0, 1] (by decide) rfl⟩, hS.F ht9⟩) hS.2.2 (Nat.le_of_ble_eq_true rfl) (Nat.le_of_ble_eq_true rfl)
set_option maxHeartbeats 4000000 in
set_option maxRecDepth 100000 in
theorem r_takeTerm_1 (l : Launch) (dC : Nat → ClassId) (dI : Nat → Nat → Nat) (sz : Nat) (q : Nat) (fs : List Value) (bd : Nat) (gb : List Value) (vTRUE : Int64) (vFALSE : Int64) (L_fs : fs.length = 163) (K23_fs : fs[23]? = some (.ref bd)) (K27_fs : fs[27]? = some (.int 0)) (K29_fs : fs[29]? = some (.int 0)) (L_gb : gb.length = 8) : ux_Met l yX15_takeTerm (Cond.code yX15_takeTerm cX15_takeTerm 7 (some .int) :: tb) ({ frames := 2, cells := 0, slots := 0, locals := 44 }) (pcx [.inl ("FinderHouseModel", "TRUE", "J", .long vTRUE), .inl ("FinderHouseModel", "FALSE", "J", .long vFALSE)] [.ref q, .int 0, .int 1] (dC, dI) [(q, .inr (15, fs)), (bd, .inr (13, gb))] [] sz) (va_Qi (fun (r : Int32) => (fun (_ : Unit) => False)) (bw (dC, dI) (va_A [(q, .inr (15, fs)), (bd, .inr (13, gb))] sz) (fun (_ : Unit) => []) (fun (_ : Unit) => [])) (va_A [(q, .inr (15, fs)), (bd, .inr (13, gb))] sz)) (ux_X (fun (gb1 : List Value) => gb1.length = 8 ∧ gb1[6]? = some (.int 1) ∧ gb1[7]? = some (.int 0) ∧ True) (fun q9 E9 u9 t9 => q9 = bd ∧ E9 = "FinderHouseModel$Bad" ∧ bw (dC, dI) (va_A [(q, .inr (15, fs)), (bd, .inr (13, gb))] sz) (fun (gb1 : List Value) => [(q, .inr (15, fs)), (bd, .inr (13, gb1))]) (fun (gb1 : List Value) => []) u9 t9) (va_A [(q, .inr (15, fs)), (bd, .inr (13, gb))] sz)) 0 0 (va_A [(q, .inr (15, fs)), (bd, .inr (13, gb))] sz) := by
  refine ux_ofW (cc := cX15_takeTerm) (maxL := 7) (ret := (some .int)) (by decide) rfl ?_
  intro p e s m args below meth c s₁ B hml htab hv
  obtain ⟨rfl, hsz, hP, hK, hD0, hE⟩ := hv
  have hx := B.exec
  have hb := B.bytes
  have hr := B.returns
  have hts := atoms_spec (ws := Cond.code yX15_takeTerm cX15_takeTerm 7 (some .int) :: tb) B.pre
  have ht : ∀ w ∈ tb, w.before _ s = true := fun w h => hts w (List.mem_cons_of_mem _ h)
  have hown : s.vm.findClass RX15 = some m.cls := findClass_of_methodNamed B.named
  have hlocks := B.notSynchronized
  subst hsz
  have hD := hD0.self (sz := s.heap.size)
  generalize hAe : va_A [(q, .inr (15, fs)), (bd, .inr (13, gb))] s.heap.size = A at hD hE ⊢
  have hA : ∀ q : Nat, s.heap.size ≤ q → A q := fun q h => by rw [← hAe]; exact Or.inr h
  have hS : va_S A s.heap s.heap [] := va_S.rf
  have hl := lv_entry ([.ref q, .int 0, .int 1]) (n := 7) (Nat.le_of_ble_eq_true rfl)
  rw [lg_entry_eq]
  generalize (lg_sl ([.ref q, .int 0, .int 1]) ++ List.replicate (7 - (lg_sl ([.ref q, .int 0, .int 1])).length) Slot.unset).toArray = ls at hl ⊢
  have hl : lv_has ls 7 [(0, .ref q), (1, .int 0), (2, .int 1)] := hl
  have hP : va_P (dC, dI) cls [(q, .inr (15, fs)), (bd, .inr (13, gb))] s.heap := hP
  refine lv_iload_n hx hb dX15_takeTerm_0 rfl (lv_at hl 1 rfl) ?_
  refine lv_bipush (v := 12) hx hb dX15_takeTerm_1 (by decide) ?_
  refine lv_icmp_le (tgt := 16) hx hb dX15_takeTerm_3 (by decide) (fun _ => ?_) (fun c0 => absurd c0 (by decide))
  refine lv_aload_n hx hb dX15_takeTerm_16 rfl (lv_at hl 0 rfl) ?_
  refine ca_i (wr := [(bd, .inr (13, gb))]) (va_runV (As := []) (rest := []) ⟨hx, hb, hml, hown, ht⟩ (r_isValue l dC dI s.heap.size q fs vTRUE vFALSE L_fs K27_fs ) (cwV 0 ht (gdV k_13_77 k_13_74 k_13_76 ks_129 k_1_17) rfl rfl rfl (by decide +kernel) ⟨Nat.le_of_ble_eq_true rfl, Nat.le_of_ble_eq_true rfl⟩) ⟨pcx_blind, va_recv hK hP (ci := 15) (q0 := 0) rfl rfl, pcx_at hP hD hK hS hA hE [0] [] [0, 1] (by decide) rfl rfl rfl rfl⟩ rfl rfl hl.1 rfl (lv_room (Nat.le_of_ble_eq_true rfl)) dX15_takeTerm_17 ⟨Nat.le_of_ble_eq_true rfl, Nat.le_of_ble_eq_true rfl⟩) hP hD hK hS hA [0] [1] rfl rfl (by decide) (by decide) (fun r_1 u H locs w_2 hK hP hD hS => ?_)
  have hK : va_K (dC, dI) cls [] s := hK
  have hP : va_P (dC, dI) cls [(bd, .inr (13, gb)), (q, .inr (15, fs))] H := hP
  have hD : va_D A [(bd, .inr (13, gb)), (q, .inr (15, fs))] := hD
  obtain rfl : r_1 = 0 := w_2
  refine lv_if_eq (tgt := 28) hx hb dX15_takeTerm_20 (by decide) (fun _ => ?_) (fun c0 => absurd c0 (by decide))
  refine lv_aload_n hx hb dX15_takeTerm_28 rfl (lv_at hl 0 rfl) ?_
  refine va_get (D := (dC, dI)) (ci := 15) (v := .int 0) (C := RX15) (T := TX15) (N := 163) hx hb ht uX15 hown hK hP 1 rfl rfl 29 (by decide) (ht _ k_10_217) (fun _ h9 => h9) K29_fs dX15_takeTerm_29 ?_
  refine lv_istore_n (lv' := [(3, .int 0), (0, .ref q), (1, .int 0), (2, .int 1)]) hx hb dX15_takeTerm_32 rfl hl (by decide) rfl (fun ls hl => ?_)
  refine lv_iload_n hx hb dX15_takeTerm_33 rfl (lv_at hl 3 rfl) ?_
  refine lv_if_eq (tgt := 71) hx hb dX15_takeTerm_34 (by decide) (fun c0 => absurd c0 (by decide)) (fun _ => ?_)
  refine lv_aload_n hx hb dX15_takeTerm_37 rfl (lv_at hl 1 rfl) ?_
  refine lv_bipush (v := 63) hx hb dX15_takeTerm_38 (by decide) ?_
  refine ca_i (wr := [(bd, .inr (13, gb))]) (va_runV (As := [.int 63]) (rest := []) ⟨hx, hb, hml, hown, ht⟩ (r_isSign l dC dI H.size q fs 63 L_fs K27_fs ) (cwV 1 ht (gdV k_13_63 k_13_60 k_13_62 ks_126 k_1_17) rfl rfl rfl (by decide +kernel) ⟨Nat.le_of_ble_eq_true rfl, Nat.le_of_ble_eq_true rfl⟩) ⟨pcw_blind, va_recv hK hP (ci := 15) (q0 := 1) rfl rfl, pcw_at hP hD hK [1] [] (by decide) rfl rfl rfl⟩ rfl rfl hl.1 rfl (lv_room (Nat.le_of_ble_eq_true rfl)) dX15_takeTerm_40 ⟨Nat.le_of_ble_eq_true rfl, Nat.le_of_ble_eq_true rfl⟩) hP hD hK hS hA [1] [0] rfl rfl (by decide) (by decide) (fun r_3 u H locs w_4 hK hP hD hS => ?_)
  have hK : va_K (dC, dI) cls [] s := hK
  have hP : va_P (dC, dI) cls [(bd, .inr (13, gb)), (q, .inr (15, fs))] H := hP
  have hD : va_D A [(bd, .inr (13, gb)), (q, .inr (15, fs))] := hD
  obtain rfl : r_3 = 0 := w_4
  refine lv_if_eq (tgt := 71) hx hb dX15_takeTerm_43 (by decide) (fun _ => ?_) (fun c0 => absurd c0 (by decide))
  refine lv_aload_n hx hb dX15_takeTerm_71 rfl (lv_at hl 1 rfl) ?_
  have hFc := va_free (wc := [(q, .inr (15, fs)), (bd, .inr (13, gb))]) hD hS hA [1, 0] rfl
  refine ux_calll (ux_runV (As := []) (rest := []) ⟨hx, hb, hml, hown, ht⟩ (r_takeName l dC dI H.size q fs bd gb L_fs K23_fs K27_fs K29_fs L_gb ) (cwV 0 ht (gdV k_13_93 k_13_90 k_13_92 ks_132 k_1_17) rfl rfl rfl (by decide +kernel) ⟨Nat.le_of_ble_eq_true rfl, Nat.le_of_ble_eq_true rfl⟩) ⟨pcw_blind, va_recv hK hP (ci := 15) (q0 := 1) rfl rfl, pcw_at hP hD hK [1, 0] [] (by decide) rfl rfl rfl⟩ rfl rfl hl.1 rfl (lv_room (Nat.le_of_ble_eq_true rfl)) dX15_takeTerm_72 ⟨Nat.le_of_ble_eq_true rfl, Nat.le_of_ble_eq_true rfl⟩) hS (fun q _ h => hFc q h) hFc (fun q _ h => hFc q h) (fun E9 ce t_5 u t H locs ht9 hvm hpx hB9 hz9 hk9 hS hce hcv hcl => ?_) (fun r u t H locs ht9 hvm hw _ _ _ _ => hw.elim)
  obtain ⟨F_6, rfl⟩ : ∃ z, z = u := ⟨_, rfl⟩
  obtain ⟨hq9, rfl, hP1, hK1, hD1⟩ := hB9
  rw [ht9] at hP1
  rw [hq9] at hce ⊢
  obtain ⟨hP, hD⟩ := va_join (wr := []) (w1 := [(q, .inr (15, fs)), (bd, .inr (13, F_6))]) hP hD [1, 0] [] rfl rfl (by decide) (by decide) hk9 hFc hP1 hD1
  obtain ⟨K_7, K_8, K_9, -⟩ := hpx
  have hP : va_P (dC, dI) cls [(q, .inr (15, fs)), (bd, .inr (13, F_6))] H := hP
  have hD : va_D A [(q, .inr (15, fs)), (bd, .inr (13, F_6))] := hD
  exact ux_out (E := "FinderHouseModel$Bad") (fun x hx9 => (htab x hx9).elim) hlocks hce hcv hcl (fun t ht9 hvm9 => ⟨(F_6), ⟨K_7, K_8, K_9, trivial⟩, ⟨rfl, rfl, by rw [ht9]; exact hP.sub [0, 1] rfl, va_K.moved hvm9 (hK.sub [] rfl), hD.sub [0, 1] (by decide) rfl⟩, hS.F ht9⟩) hS.2.2 (Nat.le_of_ble_eq_true rfl) (Nat.le_of_ble_eq_true rfl)
set_option maxHeartbeats 4000000 in
set_option maxRecDepth 100000 in
theorem r_readTerm_01 (l : Launch) (dC : Nat → ClassId) (dI : Nat → Nat → Nat) (sz : Nat) (q : Nat) (fs : List Value) (bd : Nat) (gb : List Value) (vTRUE : Int64) (vFALSE : Int64) (L_fs : fs.length = 163) (K23_fs : fs[23]? = some (.ref bd)) (K25_fs : fs[25]? = some (.int 0)) (L_gb : gb.length = 8) : ux_Met l yX15_readTerm (Cond.code yX15_readTerm cX15_readTerm 4 (some .int) :: tb) ({ frames := 3, cells := 0, slots := 0, locals := 70 }) (pcx [.inl ("FinderHouseModel", "TRUE", "J", .long vTRUE), .inl ("FinderHouseModel", "FALSE", "J", .long vFALSE)] [.ref q, .int 0, .int 1] (dC, dI) [(q, .inr (15, fs)), (bd, .inr (13, gb))] [] sz) (va_Qi (fun (r : Int32) => (fun (_ : Unit) => False)) (bw (dC, dI) (va_A [(q, .inr (15, fs)), (bd, .inr (13, gb))] sz) (fun (_ : Unit) => []) (fun (_ : Unit) => [])) (va_A [(q, .inr (15, fs)), (bd, .inr (13, gb))] sz)) (ux_X (fun (u : (List Value) × (List Value)) => match u with | (fs1, gb1) => fs1.length = 163 ∧ gb1.length = 8 ∧ gb1[6]? = some (.int 1) ∧ gb1[7]? = some (.int 0) ∧ True) (fun q9 E9 u9 t9 => q9 = bd ∧ E9 = "FinderHouseModel$Bad" ∧ bw (dC, dI) (va_A [(q, .inr (15, fs)), (bd, .inr (13, gb))] sz) (fun (u : (List Value) × (List Value)) => match u with | (fs1, gb1) => [(q, .inr (15, fs1)), (bd, .inr (13, gb1))]) (fun (u : (List Value) × (List Value)) => match u with | (fs1, gb1) => []) u9 t9) (va_A [(q, .inr (15, fs)), (bd, .inr (13, gb))] sz)) 0 0 (va_A [(q, .inr (15, fs)), (bd, .inr (13, gb))] sz) := by
  refine ux_ofW (cc := cX15_readTerm) (maxL := 4) (ret := (some .int)) (by decide) rfl ?_
  intro p e s m args below meth c s₁ B hml htab hv
  obtain ⟨rfl, hsz, hP, hK, hD0, hE⟩ := hv
  have hx := B.exec
  have hb := B.bytes
  have hr := B.returns
  have hts := atoms_spec (ws := Cond.code yX15_readTerm cX15_readTerm 4 (some .int) :: tb) B.pre
  have ht : ∀ w ∈ tb, w.before _ s = true := fun w h => hts w (List.mem_cons_of_mem _ h)
  have hown : s.vm.findClass RX15 = some m.cls := findClass_of_methodNamed B.named
  have hlocks := B.notSynchronized
  subst hsz
  have hD := hD0.self (sz := s.heap.size)
  generalize hAe : va_A [(q, .inr (15, fs)), (bd, .inr (13, gb))] s.heap.size = A at hD hE ⊢
  have hA : ∀ q : Nat, s.heap.size ≤ q → A q := fun q h => by rw [← hAe]; exact Or.inr h
  have hS : va_S A s.heap s.heap [] := va_S.rf
  have hl := lv_entry ([.ref q, .int 0, .int 1]) (n := 4) (Nat.le_of_ble_eq_true rfl)
  rw [lg_entry_eq]
  generalize (lg_sl ([.ref q, .int 0, .int 1]) ++ List.replicate (4 - (lg_sl ([.ref q, .int 0, .int 1])).length) Slot.unset).toArray = ls at hl ⊢
  have hl : lv_has ls 4 [(0, .ref q), (1, .int 0), (2, .int 1)] := hl
  have hP : va_P (dC, dI) cls [(q, .inr (15, fs)), (bd, .inr (13, gb))] s.heap := hP
  refine lv_aload_n hx hb dX15_readTerm_0 rfl (lv_at hl 0 rfl) ?_
  refine ca_v (wr := [(bd, .inr (13, gb))]) (va_runV (As := []) (rest := []) ⟨hx, hb, hml, hown, ht⟩ (r_begin l dC dI s.heap.size q fs bd L_fs K23_fs K25_fs ) (cwV 0 ht (gdV k_13_1 k_12_238 k_13_0 ks_114 k_1_17) rfl rfl rfl (by decide +kernel) ⟨Nat.le_of_ble_eq_true rfl, Nat.le_of_ble_eq_true rfl⟩) ⟨pcw_blind, va_recv hK hP (ci := 15) (q0 := 0) rfl rfl, pcw_at hP hD hK [0] [] (by decide) rfl rfl rfl⟩ rfl rfl hl.1 rfl (lv_room (Nat.le_of_ble_eq_true rfl)) dX15_readTerm_1 ⟨Nat.le_of_ble_eq_true rfl, Nat.le_of_ble_eq_true rfl⟩) hP hD hK hS hA [0] [1] rfl rfl (by decide) (by decide) (fun u H locs w_2 hK hP hD hS => ?_)
  obtain ⟨F_3, rfl⟩ : ∃ z, z = u := ⟨_, rfl⟩
  have hK : va_K (dC, dI) cls [] s := hK
  have hP : va_P (dC, dI) cls [(bd, .inr (13, gb)), (q, .inr (15, F_3))] H := hP
  have hD : va_D A [(bd, .inr (13, gb)), (q, .inr (15, F_3))] := hD
  obtain ⟨w_2, K_4, K_5, K_6, K_7⟩ := w_2
  refine lv_aload_n hx hb dX15_readTerm_4 rfl (lv_at hl 0 rfl) ?_
  refine lv_sipush (v := 4400) hx hb dX15_readTerm_5 (by decide) ?_
  refine va_put (D := (dC, dI)) (ci := 15) (v := .int 4400) (ty := .int) (C := RX15) (T := TX15) (N := 163) hx hb ht uX15 tyX15 tkX15 nmX15 hown hK hP hD hS 1 rfl rfl 17 (by decide) (ht _ k_10_205) (fun _ h9 => h9) rfl (by decide +kernel) rfl rfl (by rw [K_4]; decide) dX15_readTerm_8 (fun H locs hP hD hS => ?_)
  obtain ⟨F_8, eF_8⟩ : ∃ g : List Value, g = F_3.set 17 (.int 4400) := ⟨_, rfl⟩
  rw [← eF_8] at hP hD
  have K23_F_8 : F_8[23]? = some (.ref bd) := by rw [eF_8, List.getElem?_set_ne (by decide)]; exact K_5
  have K27_F_8 : F_8[27]? = some (.int 0) := by rw [eF_8, List.getElem?_set_ne (by decide)]; exact K_6
  have K29_F_8 : F_8[29]? = some (.int 0) := by rw [eF_8, List.getElem?_set_ne (by decide)]; exact K_7
  have K17_F_8 : F_8[17]? = some (.int 4400) := by rw [eF_8]; exact List.getElem?_set_self (by rw [K_4]; decide)
  have L_F_8 : F_8.length = 163 := by rw [eF_8, List.length_set]; exact K_4
  have hP : va_P (dC, dI) cls [(bd, .inr (13, gb)), (q, .inr (15, F_8))] H := hP
  have hD : va_D A [(bd, .inr (13, gb)), (q, .inr (15, F_8))] := hD
  refine lv_aload_n hx hb dX15_readTerm_11 rfl (lv_at hl 0 rfl) ?_
  refine lv_iconst (v := 0) hx hb dX15_readTerm_12 (by decide) ?_
  refine va_put (D := (dC, dI)) (ci := 15) (v := .int 0) (ty := .int) (C := RX15) (T := TX15) (N := 163) hx hb ht uX15 tyX15 tkX15 nmX15 hown hK hP hD hS 1 rfl rfl 35 (by decide) (ht _ k_10_223) (fun _ h9 => h9) rfl (by decide +kernel) rfl rfl (by rw [L_F_8]; decide) dX15_readTerm_13 (fun H locs hP hD hS => ?_)
  obtain ⟨F_9, eF_9⟩ : ∃ g : List Value, g = F_8.set 35 (.int 0) := ⟨_, rfl⟩
  rw [← eF_9] at hP hD
  have K17_F_9 : F_9[17]? = some (.int 4400) := by rw [eF_9, List.getElem?_set_ne (by decide)]; exact K17_F_8
  have K23_F_9 : F_9[23]? = some (.ref bd) := by rw [eF_9, List.getElem?_set_ne (by decide)]; exact K23_F_8
  have K27_F_9 : F_9[27]? = some (.int 0) := by rw [eF_9, List.getElem?_set_ne (by decide)]; exact K27_F_8
  have K29_F_9 : F_9[29]? = some (.int 0) := by rw [eF_9, List.getElem?_set_ne (by decide)]; exact K29_F_8
  have K35_F_9 : F_9[35]? = some (.int 0) := by rw [eF_9]; exact List.getElem?_set_self (by rw [L_F_8]; decide)
  have L_F_9 : F_9.length = 163 := by rw [eF_9, List.length_set]; exact L_F_8
  have hP : va_P (dC, dI) cls [(bd, .inr (13, gb)), (q, .inr (15, F_9))] H := hP
  have hD : va_D A [(bd, .inr (13, gb)), (q, .inr (15, F_9))] := hD
  refine lv_aload_n hx hb dX15_readTerm_16 rfl (lv_at hl 0 rfl) ?_
  refine lv_iconst (v := 0) hx hb dX15_readTerm_17 (by decide) ?_
  refine lv_iload_n hx hb dX15_readTerm_18 rfl (lv_at hl 1 rfl) ?_
  have hFc := va_free (wc := [(q, .inr (15, F_9)), (bd, .inr (13, gb))]) hD hS hA [1, 0] rfl
  refine ux_calli (ux_runV (As := [.int 0, .int 0]) (rest := []) ⟨hx, hb, hml, hown, ht⟩ (r_takeTerm_0 l dC dI H.size q F_9 bd gb vTRUE vFALSE L_F_9 K23_F_9 K27_F_9 K29_F_9 L_gb ) (cwV 2 ht (gdV k_13_141 k_13_138 k_13_140 ks_139 k_1_17) rfl rfl rfl (by decide +kernel) ⟨Nat.le_of_ble_eq_true rfl, Nat.le_of_ble_eq_true rfl⟩) ⟨pcx_blind, va_recv hK hP (ci := 15) (q0 := 1) rfl rfl, pcx_at hP hD hK hS hA hE [1, 0] [] [0, 1] (by decide) rfl rfl rfl rfl⟩ rfl rfl hl.1 rfl (lv_room (Nat.le_of_ble_eq_true rfl)) dX15_readTerm_19 ⟨Nat.le_of_ble_eq_true rfl, Nat.le_of_ble_eq_true rfl⟩) hS (fun q _ h => hFc q h) hFc (fun q _ h => hFc q h) (fun E9 ce t_10 u t H locs ht9 hvm hpx hB9 hz9 hk9 hS hce hcv hcl => ?_) (fun r u t H locs ht9 hvm hw _ _ _ _ => hw.elim)
  obtain ⟨F_11, rfl⟩ : ∃ z, z = u := ⟨_, rfl⟩
  obtain ⟨hq9, rfl, hP1, hK1, hD1⟩ := hB9
  rw [ht9] at hP1
  rw [hq9] at hce ⊢
  obtain ⟨hP, hD⟩ := va_join (wr := []) (w1 := [(q, .inr (15, F_9)), (bd, .inr (13, F_11))]) hP hD [1, 0] [] rfl rfl (by decide) (by decide) hk9 hFc hP1 hD1
  obtain ⟨K_12, K_13, K_14, -⟩ := hpx
  have hP : va_P (dC, dI) cls [(q, .inr (15, F_9)), (bd, .inr (13, F_11))] H := hP
  have hD : va_D A [(q, .inr (15, F_9)), (bd, .inr (13, F_11))] := hD
  exact ux_out (E := "FinderHouseModel$Bad") (fun x hx9 => (htab x hx9).elim) hlocks hce hcv hcl (fun t ht9 hvm9 => ⟨(F_9, F_11), ⟨L_F_9, K_12, K_13, K_14, trivial⟩, ⟨rfl, rfl, by rw [ht9]; exact hP.sub [0, 1] rfl, va_K.moved hvm9 (hK.sub [] rfl), hD.sub [0, 1] (by decide) rfl⟩, hS.F ht9⟩) hS.2.2 (Nat.le_of_ble_eq_true rfl) (Nat.le_of_ble_eq_true rfl)
set_option maxHeartbeats 4000000 in
set_option maxRecDepth 100000 in
theorem r_readTerm_11 (l : Launch) (dC : Nat → ClassId) (dI : Nat → Nat → Nat) (sz : Nat) (q : Nat) (fs : List Value) (bd : Nat) (gb : List Value) (vTRUE : Int64) (vFALSE : Int64) (L_fs : fs.length = 163) (K23_fs : fs[23]? = some (.ref bd)) (K25_fs : fs[25]? = some (.int 0)) (L_gb : gb.length = 8) : ux_Met l yX15_readTerm (Cond.code yX15_readTerm cX15_readTerm 4 (some .int) :: tb) ({ frames := 3, cells := 0, slots := 0, locals := 70 }) (pcx [.inl ("FinderHouseModel", "TRUE", "J", .long vTRUE), .inl ("FinderHouseModel", "FALSE", "J", .long vFALSE)] [.ref q, .int 1, .int 1] (dC, dI) [(q, .inr (15, fs)), (bd, .inr (13, gb))] [] sz) (va_Qi (fun (r : Int32) => (fun (_ : Unit) => False)) (bw (dC, dI) (va_A [(q, .inr (15, fs)), (bd, .inr (13, gb))] sz) (fun (_ : Unit) => []) (fun (_ : Unit) => [])) (va_A [(q, .inr (15, fs)), (bd, .inr (13, gb))] sz)) (ux_X (fun (u : (List Value) × (List Value)) => match u with | (fs1, gb1) => fs1.length = 163 ∧ gb1.length = 8 ∧ gb1[6]? = some (.int 1) ∧ gb1[7]? = some (.int 0) ∧ True) (fun q9 E9 u9 t9 => q9 = bd ∧ E9 = "FinderHouseModel$Bad" ∧ bw (dC, dI) (va_A [(q, .inr (15, fs)), (bd, .inr (13, gb))] sz) (fun (u : (List Value) × (List Value)) => match u with | (fs1, gb1) => [(q, .inr (15, fs1)), (bd, .inr (13, gb1))]) (fun (u : (List Value) × (List Value)) => match u with | (fs1, gb1) => []) u9 t9) (va_A [(q, .inr (15, fs)), (bd, .inr (13, gb))] sz)) 0 0 (va_A [(q, .inr (15, fs)), (bd, .inr (13, gb))] sz) := by
  refine ux_ofW (cc := cX15_readTerm) (maxL := 4) (ret := (some .int)) (by decide) rfl ?_
  intro p e s m args below meth c s₁ B hml htab hv
  obtain ⟨rfl, hsz, hP, hK, hD0, hE⟩ := hv
  have hx := B.exec
  have hb := B.bytes
  have hr := B.returns
  have hts := atoms_spec (ws := Cond.code yX15_readTerm cX15_readTerm 4 (some .int) :: tb) B.pre
  have ht : ∀ w ∈ tb, w.before _ s = true := fun w h => hts w (List.mem_cons_of_mem _ h)
  have hown : s.vm.findClass RX15 = some m.cls := findClass_of_methodNamed B.named
  have hlocks := B.notSynchronized
  subst hsz
  have hD := hD0.self (sz := s.heap.size)
  generalize hAe : va_A [(q, .inr (15, fs)), (bd, .inr (13, gb))] s.heap.size = A at hD hE ⊢
  have hA : ∀ q : Nat, s.heap.size ≤ q → A q := fun q h => by rw [← hAe]; exact Or.inr h
  have hS : va_S A s.heap s.heap [] := va_S.rf
  have hl := lv_entry ([.ref q, .int 1, .int 1]) (n := 4) (Nat.le_of_ble_eq_true rfl)
  rw [lg_entry_eq]
  generalize (lg_sl ([.ref q, .int 1, .int 1]) ++ List.replicate (4 - (lg_sl ([.ref q, .int 1, .int 1])).length) Slot.unset).toArray = ls at hl ⊢
  have hl : lv_has ls 4 [(0, .ref q), (1, .int 1), (2, .int 1)] := hl
  have hP : va_P (dC, dI) cls [(q, .inr (15, fs)), (bd, .inr (13, gb))] s.heap := hP
  refine lv_aload_n hx hb dX15_readTerm_0 rfl (lv_at hl 0 rfl) ?_
  refine ca_v (wr := [(bd, .inr (13, gb))]) (va_runV (As := []) (rest := []) ⟨hx, hb, hml, hown, ht⟩ (r_begin l dC dI s.heap.size q fs bd L_fs K23_fs K25_fs ) (cwV 0 ht (gdV k_13_1 k_12_238 k_13_0 ks_114 k_1_17) rfl rfl rfl (by decide +kernel) ⟨Nat.le_of_ble_eq_true rfl, Nat.le_of_ble_eq_true rfl⟩) ⟨pcw_blind, va_recv hK hP (ci := 15) (q0 := 0) rfl rfl, pcw_at hP hD hK [0] [] (by decide) rfl rfl rfl⟩ rfl rfl hl.1 rfl (lv_room (Nat.le_of_ble_eq_true rfl)) dX15_readTerm_1 ⟨Nat.le_of_ble_eq_true rfl, Nat.le_of_ble_eq_true rfl⟩) hP hD hK hS hA [0] [1] rfl rfl (by decide) (by decide) (fun u H locs w_2 hK hP hD hS => ?_)
  obtain ⟨F_3, rfl⟩ : ∃ z, z = u := ⟨_, rfl⟩
  have hK : va_K (dC, dI) cls [] s := hK
  have hP : va_P (dC, dI) cls [(bd, .inr (13, gb)), (q, .inr (15, F_3))] H := hP
  have hD : va_D A [(bd, .inr (13, gb)), (q, .inr (15, F_3))] := hD
  obtain ⟨w_2, K_4, K_5, K_6, K_7⟩ := w_2
  refine lv_aload_n hx hb dX15_readTerm_4 rfl (lv_at hl 0 rfl) ?_
  refine lv_sipush (v := 4400) hx hb dX15_readTerm_5 (by decide) ?_
  refine va_put (D := (dC, dI)) (ci := 15) (v := .int 4400) (ty := .int) (C := RX15) (T := TX15) (N := 163) hx hb ht uX15 tyX15 tkX15 nmX15 hown hK hP hD hS 1 rfl rfl 17 (by decide) (ht _ k_10_205) (fun _ h9 => h9) rfl (by decide +kernel) rfl rfl (by rw [K_4]; decide) dX15_readTerm_8 (fun H locs hP hD hS => ?_)
  obtain ⟨F_8, eF_8⟩ : ∃ g : List Value, g = F_3.set 17 (.int 4400) := ⟨_, rfl⟩
  rw [← eF_8] at hP hD
  have K23_F_8 : F_8[23]? = some (.ref bd) := by rw [eF_8, List.getElem?_set_ne (by decide)]; exact K_5
  have K27_F_8 : F_8[27]? = some (.int 0) := by rw [eF_8, List.getElem?_set_ne (by decide)]; exact K_6
  have K29_F_8 : F_8[29]? = some (.int 0) := by rw [eF_8, List.getElem?_set_ne (by decide)]; exact K_7
  have K17_F_8 : F_8[17]? = some (.int 4400) := by rw [eF_8]; exact List.getElem?_set_self (by rw [K_4]; decide)
  have L_F_8 : F_8.length = 163 := by rw [eF_8, List.length_set]; exact K_4
  have hP : va_P (dC, dI) cls [(bd, .inr (13, gb)), (q, .inr (15, F_8))] H := hP
  have hD : va_D A [(bd, .inr (13, gb)), (q, .inr (15, F_8))] := hD
  refine lv_aload_n hx hb dX15_readTerm_11 rfl (lv_at hl 0 rfl) ?_
  refine lv_iconst (v := 0) hx hb dX15_readTerm_12 (by decide) ?_
  refine va_put (D := (dC, dI)) (ci := 15) (v := .int 0) (ty := .int) (C := RX15) (T := TX15) (N := 163) hx hb ht uX15 tyX15 tkX15 nmX15 hown hK hP hD hS 1 rfl rfl 35 (by decide) (ht _ k_10_223) (fun _ h9 => h9) rfl (by decide +kernel) rfl rfl (by rw [L_F_8]; decide) dX15_readTerm_13 (fun H locs hP hD hS => ?_)
  obtain ⟨F_9, eF_9⟩ : ∃ g : List Value, g = F_8.set 35 (.int 0) := ⟨_, rfl⟩
  rw [← eF_9] at hP hD
  have K17_F_9 : F_9[17]? = some (.int 4400) := by rw [eF_9, List.getElem?_set_ne (by decide)]; exact K17_F_8
  have K23_F_9 : F_9[23]? = some (.ref bd) := by rw [eF_9, List.getElem?_set_ne (by decide)]; exact K23_F_8
  have K27_F_9 : F_9[27]? = some (.int 0) := by rw [eF_9, List.getElem?_set_ne (by decide)]; exact K27_F_8
  have K29_F_9 : F_9[29]? = some (.int 0) := by rw [eF_9, List.getElem?_set_ne (by decide)]; exact K29_F_8
  have K35_F_9 : F_9[35]? = some (.int 0) := by rw [eF_9]; exact List.getElem?_set_self (by rw [L_F_8]; decide)
  have L_F_9 : F_9.length = 163 := by rw [eF_9, List.length_set]; exact L_F_8
  have hP : va_P (dC, dI) cls [(bd, .inr (13, gb)), (q, .inr (15, F_9))] H := hP
  have hD : va_D A [(bd, .inr (13, gb)), (q, .inr (15, F_9))] := hD
  refine lv_aload_n hx hb dX15_readTerm_16 rfl (lv_at hl 0 rfl) ?_
  refine lv_iconst (v := 0) hx hb dX15_readTerm_17 (by decide) ?_
  refine lv_iload_n hx hb dX15_readTerm_18 rfl (lv_at hl 1 rfl) ?_
  have hFc := va_free (wc := [(q, .inr (15, F_9)), (bd, .inr (13, gb))]) hD hS hA [1, 0] rfl
  refine ux_calli (ux_runV (As := [.int 0, .int 1]) (rest := []) ⟨hx, hb, hml, hown, ht⟩ (r_takeTerm_1 l dC dI H.size q F_9 bd gb vTRUE vFALSE L_F_9 K23_F_9 K27_F_9 K29_F_9 L_gb ) (cwV 2 ht (gdV k_13_141 k_13_138 k_13_140 ks_139 k_1_17) rfl rfl rfl (by decide +kernel) ⟨Nat.le_of_ble_eq_true rfl, Nat.le_of_ble_eq_true rfl⟩) ⟨pcx_blind, va_recv hK hP (ci := 15) (q0 := 1) rfl rfl, pcx_at hP hD hK hS hA hE [1, 0] [] [0, 1] (by decide) rfl rfl rfl rfl⟩ rfl rfl hl.1 rfl (lv_room (Nat.le_of_ble_eq_true rfl)) dX15_readTerm_19 ⟨Nat.le_of_ble_eq_true rfl, Nat.le_of_ble_eq_true rfl⟩) hS (fun q _ h => hFc q h) hFc (fun q _ h => hFc q h) (fun E9 ce t_10 u t H locs ht9 hvm hpx hB9 hz9 hk9 hS hce hcv hcl => ?_) (fun r u t H locs ht9 hvm hw _ _ _ _ => hw.elim)
  obtain ⟨F_11, rfl⟩ : ∃ z, z = u := ⟨_, rfl⟩
  obtain ⟨hq9, rfl, hP1, hK1, hD1⟩ := hB9
  rw [ht9] at hP1
  rw [hq9] at hce ⊢
  obtain ⟨hP, hD⟩ := va_join (wr := []) (w1 := [(q, .inr (15, F_9)), (bd, .inr (13, F_11))]) hP hD [1, 0] [] rfl rfl (by decide) (by decide) hk9 hFc hP1 hD1
  obtain ⟨K_12, K_13, K_14, -⟩ := hpx
  have hP : va_P (dC, dI) cls [(q, .inr (15, F_9)), (bd, .inr (13, F_11))] H := hP
  have hD : va_D A [(q, .inr (15, F_9)), (bd, .inr (13, F_11))] := hD
  exact ux_out (E := "FinderHouseModel$Bad") (fun x hx9 => (htab x hx9).elim) hlocks hce hcv hcl (fun t ht9 hvm9 => ⟨(F_9, F_11), ⟨L_F_9, K_12, K_13, K_14, trivial⟩, ⟨rfl, rfl, by rw [ht9]; exact hP.sub [0, 1] rfl, va_K.moved hvm9 (hK.sub [] rfl), hD.sub [0, 1] (by decide) rfl⟩, hS.F ht9⟩) hS.2.2 (Nat.le_of_ble_eq_true rfl) (Nat.le_of_ble_eq_true rfl)
set_option maxHeartbeats 4000000 in
set_option maxRecDepth 100000 in
theorem r_readTerm_00 (l : Launch) (dC : Nat → ClassId) (dI : Nat → Nat → Nat) (sz : Nat) (q : Nat) (fs : List Value) (bd : Nat) (gb : List Value) (vTRUE : Int64) (vFALSE : Int64) (L_fs : fs.length = 163) (K23_fs : fs[23]? = some (.ref bd)) (K25_fs : fs[25]? = some (.int 0)) (L_gb : gb.length = 8) : ux_Met l yX15_readTerm (Cond.code yX15_readTerm cX15_readTerm 4 (some .int) :: tb) ({ frames := 3, cells := 0, slots := 0, locals := 70 }) (pcx [.inl ("FinderHouseModel", "TRUE", "J", .long vTRUE), .inl ("FinderHouseModel", "FALSE", "J", .long vFALSE)] [.ref q, .int 0, .int 0] (dC, dI) [(q, .inr (15, fs)), (bd, .inr (13, gb))] [] sz) (va_Qi (fun (r : Int32) => (fun (_ : Unit) => False)) (bw (dC, dI) (va_A [(q, .inr (15, fs)), (bd, .inr (13, gb))] sz) (fun (_ : Unit) => []) (fun (_ : Unit) => [])) (va_A [(q, .inr (15, fs)), (bd, .inr (13, gb))] sz)) (ux_X (fun (u : (List Value) × (List Value)) => match u with | (fs1, gb1) => fs1.length = 163 ∧ gb1.length = 8 ∧ gb1[6]? = some (.int 1) ∧ gb1[7]? = some (.int 0) ∧ True) (fun q9 E9 u9 t9 => q9 = bd ∧ E9 = "FinderHouseModel$Bad" ∧ bw (dC, dI) (va_A [(q, .inr (15, fs)), (bd, .inr (13, gb))] sz) (fun (u : (List Value) × (List Value)) => match u with | (fs1, gb1) => [(q, .inr (15, fs1)), (bd, .inr (13, gb1))]) (fun (u : (List Value) × (List Value)) => match u with | (fs1, gb1) => []) u9 t9) (va_A [(q, .inr (15, fs)), (bd, .inr (13, gb))] sz)) 0 0 (va_A [(q, .inr (15, fs)), (bd, .inr (13, gb))] sz) := by
  refine ux_ofW (cc := cX15_readTerm) (maxL := 4) (ret := (some .int)) (by decide) rfl ?_
  intro p e s m args below meth c s₁ B hml htab hv
  obtain ⟨rfl, hsz, hP, hK, hD0, hE⟩ := hv
  have hx := B.exec
  have hb := B.bytes
  have hr := B.returns
  have hts := atoms_spec (ws := Cond.code yX15_readTerm cX15_readTerm 4 (some .int) :: tb) B.pre
  have ht : ∀ w ∈ tb, w.before _ s = true := fun w h => hts w (List.mem_cons_of_mem _ h)
  have hown : s.vm.findClass RX15 = some m.cls := findClass_of_methodNamed B.named
  have hlocks := B.notSynchronized
  subst hsz
  have hD := hD0.self (sz := s.heap.size)
  generalize hAe : va_A [(q, .inr (15, fs)), (bd, .inr (13, gb))] s.heap.size = A at hD hE ⊢
  have hA : ∀ q : Nat, s.heap.size ≤ q → A q := fun q h => by rw [← hAe]; exact Or.inr h
  have hS : va_S A s.heap s.heap [] := va_S.rf
  have hl := lv_entry ([.ref q, .int 0, .int 0]) (n := 4) (Nat.le_of_ble_eq_true rfl)
  rw [lg_entry_eq]
  generalize (lg_sl ([.ref q, .int 0, .int 0]) ++ List.replicate (4 - (lg_sl ([.ref q, .int 0, .int 0])).length) Slot.unset).toArray = ls at hl ⊢
  have hl : lv_has ls 4 [(0, .ref q), (1, .int 0), (2, .int 0)] := hl
  have hP : va_P (dC, dI) cls [(q, .inr (15, fs)), (bd, .inr (13, gb))] s.heap := hP
  refine lv_aload_n hx hb dX15_readTerm_0 rfl (lv_at hl 0 rfl) ?_
  refine ca_v (wr := [(bd, .inr (13, gb))]) (va_runV (As := []) (rest := []) ⟨hx, hb, hml, hown, ht⟩ (r_begin l dC dI s.heap.size q fs bd L_fs K23_fs K25_fs ) (cwV 0 ht (gdV k_13_1 k_12_238 k_13_0 ks_114 k_1_17) rfl rfl rfl (by decide +kernel) ⟨Nat.le_of_ble_eq_true rfl, Nat.le_of_ble_eq_true rfl⟩) ⟨pcw_blind, va_recv hK hP (ci := 15) (q0 := 0) rfl rfl, pcw_at hP hD hK [0] [] (by decide) rfl rfl rfl⟩ rfl rfl hl.1 rfl (lv_room (Nat.le_of_ble_eq_true rfl)) dX15_readTerm_1 ⟨Nat.le_of_ble_eq_true rfl, Nat.le_of_ble_eq_true rfl⟩) hP hD hK hS hA [0] [1] rfl rfl (by decide) (by decide) (fun u H locs w_2 hK hP hD hS => ?_)
  obtain ⟨F_3, rfl⟩ : ∃ z, z = u := ⟨_, rfl⟩
  have hK : va_K (dC, dI) cls [] s := hK
  have hP : va_P (dC, dI) cls [(bd, .inr (13, gb)), (q, .inr (15, F_3))] H := hP
  have hD : va_D A [(bd, .inr (13, gb)), (q, .inr (15, F_3))] := hD
  obtain ⟨w_2, K_4, K_5, K_6, K_7⟩ := w_2
  refine lv_aload_n hx hb dX15_readTerm_4 rfl (lv_at hl 0 rfl) ?_
  refine lv_sipush (v := 4400) hx hb dX15_readTerm_5 (by decide) ?_
  refine va_put (D := (dC, dI)) (ci := 15) (v := .int 4400) (ty := .int) (C := RX15) (T := TX15) (N := 163) hx hb ht uX15 tyX15 tkX15 nmX15 hown hK hP hD hS 1 rfl rfl 17 (by decide) (ht _ k_10_205) (fun _ h9 => h9) rfl (by decide +kernel) rfl rfl (by rw [K_4]; decide) dX15_readTerm_8 (fun H locs hP hD hS => ?_)
  obtain ⟨F_8, eF_8⟩ : ∃ g : List Value, g = F_3.set 17 (.int 4400) := ⟨_, rfl⟩
  rw [← eF_8] at hP hD
  have K23_F_8 : F_8[23]? = some (.ref bd) := by rw [eF_8, List.getElem?_set_ne (by decide)]; exact K_5
  have K27_F_8 : F_8[27]? = some (.int 0) := by rw [eF_8, List.getElem?_set_ne (by decide)]; exact K_6
  have K29_F_8 : F_8[29]? = some (.int 0) := by rw [eF_8, List.getElem?_set_ne (by decide)]; exact K_7
  have K17_F_8 : F_8[17]? = some (.int 4400) := by rw [eF_8]; exact List.getElem?_set_self (by rw [K_4]; decide)
  have L_F_8 : F_8.length = 163 := by rw [eF_8, List.length_set]; exact K_4
  have hP : va_P (dC, dI) cls [(bd, .inr (13, gb)), (q, .inr (15, F_8))] H := hP
  have hD : va_D A [(bd, .inr (13, gb)), (q, .inr (15, F_8))] := hD
  refine lv_aload_n hx hb dX15_readTerm_11 rfl (lv_at hl 0 rfl) ?_
  refine lv_iconst (v := 0) hx hb dX15_readTerm_12 (by decide) ?_
  refine va_put (D := (dC, dI)) (ci := 15) (v := .int 0) (ty := .int) (C := RX15) (T := TX15) (N := 163) hx hb ht uX15 tyX15 tkX15 nmX15 hown hK hP hD hS 1 rfl rfl 35 (by decide) (ht _ k_10_223) (fun _ h9 => h9) rfl (by decide +kernel) rfl rfl (by rw [L_F_8]; decide) dX15_readTerm_13 (fun H locs hP hD hS => ?_)
  obtain ⟨F_9, eF_9⟩ : ∃ g : List Value, g = F_8.set 35 (.int 0) := ⟨_, rfl⟩
  rw [← eF_9] at hP hD
  have K17_F_9 : F_9[17]? = some (.int 4400) := by rw [eF_9, List.getElem?_set_ne (by decide)]; exact K17_F_8
  have K23_F_9 : F_9[23]? = some (.ref bd) := by rw [eF_9, List.getElem?_set_ne (by decide)]; exact K23_F_8
  have K27_F_9 : F_9[27]? = some (.int 0) := by rw [eF_9, List.getElem?_set_ne (by decide)]; exact K27_F_8
  have K29_F_9 : F_9[29]? = some (.int 0) := by rw [eF_9, List.getElem?_set_ne (by decide)]; exact K29_F_8
  have K35_F_9 : F_9[35]? = some (.int 0) := by rw [eF_9]; exact List.getElem?_set_self (by rw [L_F_8]; decide)
  have L_F_9 : F_9.length = 163 := by rw [eF_9, List.length_set]; exact L_F_8
  have hP : va_P (dC, dI) cls [(bd, .inr (13, gb)), (q, .inr (15, F_9))] H := hP
  have hD : va_D A [(bd, .inr (13, gb)), (q, .inr (15, F_9))] := hD
  refine lv_aload_n hx hb dX15_readTerm_16 rfl (lv_at hl 0 rfl) ?_
  refine lv_iconst (v := 0) hx hb dX15_readTerm_17 (by decide) ?_
  refine lv_iload_n hx hb dX15_readTerm_18 rfl (lv_at hl 1 rfl) ?_
  have hFc := va_free (wc := [(q, .inr (15, F_9)), (bd, .inr (13, gb))]) hD hS hA [1, 0] rfl
  refine ux_calli (ux_runV (As := [.int 0, .int 0]) (rest := []) ⟨hx, hb, hml, hown, ht⟩ (r_takeTerm_0 l dC dI H.size q F_9 bd gb vTRUE vFALSE L_F_9 K23_F_9 K27_F_9 K29_F_9 L_gb ) (cwV 2 ht (gdV k_13_141 k_13_138 k_13_140 ks_139 k_1_17) rfl rfl rfl (by decide +kernel) ⟨Nat.le_of_ble_eq_true rfl, Nat.le_of_ble_eq_true rfl⟩) ⟨pcx_blind, va_recv hK hP (ci := 15) (q0 := 1) rfl rfl, pcx_at hP hD hK hS hA hE [1, 0] [] [0, 1] (by decide) rfl rfl rfl rfl⟩ rfl rfl hl.1 rfl (lv_room (Nat.le_of_ble_eq_true rfl)) dX15_readTerm_19 ⟨Nat.le_of_ble_eq_true rfl, Nat.le_of_ble_eq_true rfl⟩) hS (fun q _ h => hFc q h) hFc (fun q _ h => hFc q h) (fun E9 ce t_10 u t H locs ht9 hvm hpx hB9 hz9 hk9 hS hce hcv hcl => ?_) (fun r u t H locs ht9 hvm hw _ _ _ _ => hw.elim)
  obtain ⟨F_11, rfl⟩ : ∃ z, z = u := ⟨_, rfl⟩
  obtain ⟨hq9, rfl, hP1, hK1, hD1⟩ := hB9
  rw [ht9] at hP1
  rw [hq9] at hce ⊢
  obtain ⟨hP, hD⟩ := va_join (wr := []) (w1 := [(q, .inr (15, F_9)), (bd, .inr (13, F_11))]) hP hD [1, 0] [] rfl rfl (by decide) (by decide) hk9 hFc hP1 hD1
  obtain ⟨K_12, K_13, K_14, -⟩ := hpx
  have hP : va_P (dC, dI) cls [(q, .inr (15, F_9)), (bd, .inr (13, F_11))] H := hP
  have hD : va_D A [(q, .inr (15, F_9)), (bd, .inr (13, F_11))] := hD
  exact ux_out (E := "FinderHouseModel$Bad") (fun x hx9 => (htab x hx9).elim) hlocks hce hcv hcl (fun t ht9 hvm9 => ⟨(F_9, F_11), ⟨L_F_9, K_12, K_13, K_14, trivial⟩, ⟨rfl, rfl, by rw [ht9]; exact hP.sub [0, 1] rfl, va_K.moved hvm9 (hK.sub [] rfl), hD.sub [0, 1] (by decide) rfl⟩, hS.F ht9⟩) hS.2.2 (Nat.le_of_ble_eq_true rfl) (Nat.le_of_ble_eq_true rfl)
set_option maxHeartbeats 4000000 in
set_option maxRecDepth 100000 in
theorem r_faulty (l : Launch) (dC : Nat → ClassId) (dI : Nat → Nat → Nat) (sz : Nat) (q : Nat) (fs : List Value) (bd : Nat) (gb : List Value) (L_fs : fs.length = 163) (L_gb : gb.length = 8) (K6_gb : gb[6]? = some (.int 1)) (K7_gb : gb[7]? = some (.int 0)) : Met l yX15_faulty (Cond.code yX15_faulty cX15_faulty 2 (some .int) :: tb) ({ frames := 0, cells := 0, slots := 0, locals := 0 }) (pcw [.ref q, .ref bd] (dC, dI) [(q, .inr (15, fs)), (bd, .inr (13, gb))] [] sz) (va_Qi (fun (r : Int32) => (fun (_ : Unit) => r = -11)) (bw (dC, dI) (va_A [(q, .inr (15, fs)), (bd, .inr (13, gb))] sz) (fun (_ : Unit) => []) (fun (_ : Unit) => [])) (va_A [(q, .inr (15, fs)), (bd, .inr (13, gb))] sz)) 0 0 (va_A [(q, .inr (15, fs)), (bd, .inr (13, gb))] sz) := by
  refine Met.ofW (cc := cX15_faulty) (maxL := 2) (ret := (some .int)) (by decide) rfl ?_
  intro p e s m args below meth c s₁ B hml hv
  obtain ⟨rfl, hsz, hP, hK, hD0⟩ := hv
  have hx := B.exec
  have hb := B.bytes
  have hr := B.returns
  have hts := atoms_spec (ws := Cond.code yX15_faulty cX15_faulty 2 (some .int) :: tb) B.pre
  have ht : ∀ w ∈ tb, w.before _ s = true := fun w h => hts w (List.mem_cons_of_mem _ h)
  have hown : s.vm.findClass RX15 = some m.cls := findClass_of_methodNamed B.named
  have hlocks := B.notSynchronized
  subst hsz
  have hD := hD0.self (sz := s.heap.size)
  generalize hAe : va_A [(q, .inr (15, fs)), (bd, .inr (13, gb))] s.heap.size = A at hD ⊢
  have hA : ∀ q : Nat, s.heap.size ≤ q → A q := fun q h => by rw [← hAe]; exact Or.inr h
  have hS : va_S A s.heap s.heap [] := va_S.rf
  have hl := lv_entry ([.ref q, .ref bd]) (n := 2) (Nat.le_of_ble_eq_true rfl)
  rw [lg_entry_eq]
  generalize (lg_sl ([.ref q, .ref bd]) ++ List.replicate (2 - (lg_sl ([.ref q, .ref bd])).length) Slot.unset).toArray = ls at hl ⊢
  have hl : lv_has ls 2 [(0, .ref q), (1, .ref bd)] := hl
  have hP : va_P (dC, dI) cls [(q, .inr (15, fs)), (bd, .inr (13, gb))] s.heap := hP
  refine lv_aload_n hx hb dX15_faulty_0 rfl (lv_at hl 0 rfl) ?_
  refine lv_aload_n hx hb dX15_faulty_1 rfl (lv_at hl 1 rfl) ?_
  refine va_get (D := (dC, dI)) (ci := 13) (v := .int 0) (C := RX13) (T := TX13) (N := 8) hx hb ht uX13 hown hK hP 1 rfl rfl 7 (by decide) (ht _ k_10_17) (fun _ h9 => h9) K7_gb dX15_faulty_2 ?_
  refine va_put (D := (dC, dI)) (ci := 15) (v := .int 0) (ty := .int) (C := RX15) (T := TX15) (N := 163) hx hb ht uX15 tyX15 tkX15 nmX15 hown hK hP hD hS 0 rfl rfl 55 (by decide) (ht _ k_11_3) (fun _ h9 => h9) rfl (by decide +kernel) rfl rfl (by rw [L_fs]; decide) dX15_faulty_5 (fun H locs hP hD hS => ?_)
  obtain ⟨F_1, eF_1⟩ : ∃ g : List Value, g = fs.set 55 (.int 0) := ⟨_, rfl⟩
  rw [← eF_1] at hP hD
  have K55_F_1 : F_1[55]? = some (.int 0) := by rw [eF_1]; exact List.getElem?_set_self (by rw [L_fs]; decide)
  have L_F_1 : F_1.length = 163 := by rw [eF_1, List.length_set]; exact L_fs
  have hP : va_P (dC, dI) cls [(q, .inr (15, F_1)), (bd, .inr (13, gb))] H := hP
  have hD : va_D A [(q, .inr (15, F_1)), (bd, .inr (13, gb))] := hD
  refine lv_bipush (v := (-10)) hx hb dX15_faulty_8 (by decide) ?_
  refine lv_aload_n hx hb dX15_faulty_10 rfl (lv_at hl 1 rfl) ?_
  refine va_get (D := (dC, dI)) (ci := 13) (v := .int 1) (C := RX13) (T := TX13) (N := 8) hx hb ht uX13 hown hK hP 1 rfl rfl 6 (by decide) (ht _ k_10_16) (fun _ h9 => h9) K6_gb dX15_faulty_11 ?_
  refine lv_isub hx hb dX15_faulty_14 ?_
  refine tk_i (y := (-11)) (by decide) ?_
  exact W.iret (v := (-11)) hx hb hr (fun t ht9 hW => ⟨⟨(-11), (), rfl, rfl, by rw [ht9]; exact hP.sub [] rfl, va_K.moved hW.alike (hK.sub [] rfl), hD.sub [] (by decide) rfl⟩, hS.F ht9⟩) hS.2.2 dX15_faulty_15
