theorem dX15_learn__0 : decode cX15_learn_ 0 = .ok (.lconst 0, 1) := by decide +kernel
theorem dX15_learn__1 : decode cX15_learn_ 1 = .ok (.lstore_n 2, 1) := by decide +kernel
theorem dX15_learn__2 : decode cX15_learn_ 2 = .ok (.aload_n 0, 1) := by decide +kernel
theorem k_10_213 : Jvm.Cond.fieldLink "FinderHouseModel" (418 : Nat) "FinderHouseModel" "textSize" "I" ∈ tb := tb10 213 (by decide +kernel) (by decide +kernel)
theorem dX15_learn__3 : decode cX15_learn_ 3 = .ok (.getfield 418, 3) := by decide +kernel
theorem dX15_learn__6 : decode cX15_learn_ 6 = .ok (.i2l, 1) := by decide +kernel
theorem dX15_learn__7 : decode cX15_learn_ 7 = .ok (.lconst 1, 1) := by decide +kernel
theorem k_15_21 : Jvm.Cond.constantLong "FinderHouseModel" (971 : Nat) (8 : Int64) ∈ tb := tb15 21 (by decide +kernel) (by decide +kernel)
theorem dX15_learn__8 : decode cX15_learn_ 8 = .ok (.ldc2_w 971, 3) := by decide +kernel
theorem dX15_learn__11 : decode cX15_learn_ 11 = .ok (.invokestatic 623, 3) := by decide +kernel
theorem dX15_learn__14 : decode cX15_learn_ 14 = .ok (.istore 4, 2) := by decide +kernel
theorem dX15_learn__16 : decode cX15_learn_ 16 = .ok (.iconst 0, 1) := by decide +kernel
theorem dX15_learn__17 : decode cX15_learn_ 17 = .ok (.istore 5, 2) := by decide +kernel
theorem dX15_learn__19 : decode cX15_learn_ 19 = .ok (.iload 5, 2) := by decide +kernel
theorem dX15_learn__21 : decode cX15_learn_ 21 = .ok (.aload_n 0, 1) := by decide +kernel
theorem dX15_learn__22 : decode cX15_learn_ 22 = .ok (.getfield 418, 3) := by decide +kernel
theorem dX15_learn__25 : decode cX15_learn_ 25 = .ok (.if_icmp .ge 64, 3) := by decide +kernel
theorem dX15_learn__89 : decode cX15_learn_ 89 = .ok (.iload 4, 2) := by decide +kernel
theorem dX15_learn__91 : decode cX15_learn_ 91 = .ok (.ifCond .eq 18, 3) := by decide +kernel
theorem dX15_learn__109 : decode cX15_learn_ 109 = .ok (.iconst (-1), 1) := by decide +kernel
theorem dX15_learn__110 : decode cX15_learn_ 110 = .ok (.ireturn, 1) := by decide +kernel
theorem dX15_takeTape_0 : decode cX15_takeTape 0 = .ok (.aload_n 0, 1) := by decide +kernel
theorem dX15_takeTape_1 : decode cX15_takeTape 1 = .ok (.iconst 0, 1) := by decide +kernel
theorem dX15_takeTape_2 : decode cX15_takeTape 2 = .ok (.putfield 773, 3) := by decide +kernel
theorem dX15_takeTape_5 : decode cX15_takeTape 5 = .ok (.iconst 0, 1) := by decide +kernel
theorem dX15_takeTape_6 : decode cX15_takeTape 6 = .ok (.istore_n 1, 1) := by decide +kernel
theorem dX15_takeTape_7 : decode cX15_takeTape 7 = .ok (.iload_n 1, 1) := by decide +kernel
theorem dX15_takeTape_8 : decode cX15_takeTape 8 = .ok (.aload_n 0, 1) := by decide +kernel
theorem dX15_takeTape_9 : decode cX15_takeTape 9 = .ok (.getfield 776, 3) := by decide +kernel
theorem dX15_takeTape_12 : decode cX15_takeTape 12 = .ok (.if_icmp .ge 21, 3) := by decide +kernel
theorem dX15_takeTape_33 : decode cX15_takeTape 33 = .ok (.aload_n 0, 1) := by decide +kernel
theorem dX15_takeTape_34 : decode cX15_takeTape 34 = .ok (.aload_n 0, 1) := by decide +kernel
theorem dX15_takeTape_35 : decode cX15_takeTape 35 = .ok (.getfield 776, 3) := by decide +kernel
theorem dX15_takeTape_38 : decode cX15_takeTape 38 = .ok (.putfield 418, 3) := by decide +kernel
theorem dX15_takeTape_41 : decode cX15_takeTape 41 = .ok (.aload_n 0, 1) := by decide +kernel
theorem dX15_takeTape_42 : decode cX15_takeTape 42 = .ok (.iconst 0, 1) := by decide +kernel
theorem dX15_takeTape_43 : decode cX15_takeTape 43 = .ok (.putfield 776, 3) := by decide +kernel
theorem dX15_takeTape_46 : decode cX15_takeTape 46 = .ok (.return_, 1) := by decide +kernel
theorem dX15_learn_0 : decode cX15_learn 0 = .ok (.aload_n 0, 1) := by decide +kernel
theorem dX15_learn_1 : decode cX15_learn 1 = .ok (.invokevirtual 785, 3) := by decide +kernel
theorem dX15_learn_4 : decode cX15_learn 4 = .ok (.ifCond .eq 6, 3) := by decide +kernel
theorem dX15_learn_10 : decode cX15_learn 10 = .ok (.aload_n 0, 1) := by decide +kernel
theorem k_12_237 : Jvm.Cond.code ({ cls := "FinderHouseModel", name := "takeTape", desc := "()V" } : Jvm.MethodName) prog_14_method_93_code (2 : Nat) (Option.none : Option Jvm.ClassFile.FieldType) ∈ tb := tb12 237 (by decide +kernel) (by decide +kernel)
theorem k_12_234 : Jvm.Cond.methodLink "FinderHouseModel" (806 : Nat) ({ cls := "FinderHouseModel", name := "takeTape", desc := "()V" } : Jvm.MethodName) ∈ tb := tb12 234 (by decide +kernel) (by decide +kernel)
theorem k_12_236 : Jvm.Cond.instanceMethod ({ cls := "FinderHouseModel", name := "takeTape", desc := "()V" } : Jvm.MethodName) ∈ tb := tb12 236 (by decide +kernel) (by decide +kernel)
theorem ks_113 : Jvm.Cond.selects "FinderHouseModel" ({ cls := "FinderHouseModel", name := "takeTape", desc := "()V" } : Jvm.MethodName) ({ cls := "FinderHouseModel", name := "takeTape", desc := "()V" } : Jvm.MethodName) ∈ tb := tbp 113 (by decide +kernel) (by decide +kernel)
theorem dX15_learn_11 : decode cX15_learn 11 = .ok (.invokevirtual 806, 3) := by decide +kernel
theorem dX15_learn_14 : decode cX15_learn 14 = .ok (.aload_n 0, 1) := by decide +kernel
theorem dX15_learn_15 : decode cX15_learn 15 = .ok (.iconst 1, 1) := by decide +kernel
theorem k_15_20 : Jvm.Cond.code ({ cls := "FinderHouseModel", name := "learn", desc := "(Z)I" } : Jvm.MethodName) prog_14_method_139_code (7 : Nat) (Option.some Jvm.ClassFile.FieldType.int) ∈ tb := tb15 20 (by decide +kernel) (by decide +kernel)
theorem k_15_17 : Jvm.Cond.methodLink "FinderHouseModel" (967 : Nat) ({ cls := "FinderHouseModel", name := "learn", desc := "(Z)I" } : Jvm.MethodName) ∈ tb := tb15 17 (by decide +kernel) (by decide +kernel)
theorem k_15_19 : Jvm.Cond.instanceMethod ({ cls := "FinderHouseModel", name := "learn", desc := "(Z)I" } : Jvm.MethodName) ∈ tb := tb15 19 (by decide +kernel) (by decide +kernel)
theorem ks_200 : Jvm.Cond.selects "FinderHouseModel" ({ cls := "FinderHouseModel", name := "learn", desc := "(Z)I" } : Jvm.MethodName) ({ cls := "FinderHouseModel", name := "learn", desc := "(Z)I" } : Jvm.MethodName) ∈ tb := tbp 200 (by decide +kernel) (by decide +kernel)
theorem dX15_learn_16 : decode cX15_learn 16 = .ok (.invokevirtual 967, 3) := by decide +kernel
theorem dX15_learn_19 : decode cX15_learn 19 = .ok (.ireturn, 1) := by decide +kernel
theorem dX15_example__0 : decode cX15_example_ 0 = .ok (.aload_n 0, 1) := by decide +kernel
theorem dX15_example__1 : decode cX15_example_ 1 = .ok (.getfield 418, 3) := by decide +kernel
theorem dX15_example__4 : decode cX15_example_ 4 = .ok (.iload_n 1, 1) := by decide +kernel
theorem dX15_example__5 : decode cX15_example_ 5 = .ok (.isub, 1) := by decide +kernel
theorem dX15_example__6 : decode cX15_example_ 6 = .ok (.istore 4, 2) := by decide +kernel
theorem dX15_example__8 : decode cX15_example_ 8 = .ok (.iload_n 2, 1) := by decide +kernel
theorem dX15_example__9 : decode cX15_example_ 9 = .ok (.i2l, 1) := by decide +kernel
theorem dX15_example__10 : decode cX15_example_ 10 = .ok (.lconst 0, 1) := by decide +kernel
theorem k_15_122 : Jvm.Cond.constantLong "FinderHouseModel" (1125 : Nat) (10 : Int64) ∈ tb := tb15 122 (by decide +kernel) (by decide +kernel)
theorem dX15_example__11 : decode cX15_example_ 11 = .ok (.ldc2_w 1125, 3) := by decide +kernel
theorem dX15_example__14 : decode cX15_example_ 14 = .ok (.invokestatic 623, 3) := by decide +kernel
theorem dX15_example__17 : decode cX15_example_ 17 = .ok (.ifCond .eq 36, 3) := by decide +kernel
theorem dX15_example__20 : decode cX15_example_ 20 = .ok (.iload_n 2, 1) := by decide +kernel
theorem dX15_example__21 : decode cX15_example_ 21 = .ok (.iload 4, 2) := by decide +kernel
theorem dX15_example__23 : decode cX15_example_ 23 = .ok (.if_icmp .gt 30, 3) := by decide +kernel
theorem dX15_example__53 : decode cX15_example_ 53 = .ok (.iconst (-1), 1) := by decide +kernel
theorem dX15_example__54 : decode cX15_example_ 54 = .ok (.ireturn, 1) := by decide +kernel
theorem dX15_example__26 : decode cX15_example_ 26 = .ok (.iload 4, 2) := by decide +kernel
theorem dX15_example__28 : decode cX15_example_ 28 = .ok (.iload_n 2, 1) := by decide +kernel
theorem dX15_example__29 : decode cX15_example_ 29 = .ok (.isub, 1) := by decide +kernel
theorem dX15_example__30 : decode cX15_example_ 30 = .ok (.i2l, 1) := by decide +kernel
theorem dX15_example__31 : decode cX15_example_ 31 = .ok (.lconst 1, 1) := by decide +kernel
theorem dX15_example__32 : decode cX15_example_ 32 = .ok (.ldc2_w 1125, 3) := by decide +kernel
theorem dX15_example__35 : decode cX15_example_ 35 = .ok (.invokestatic 623, 3) := by decide +kernel
theorem dX15_example__38 : decode cX15_example_ 38 = .ok (.ifCond .eq 15, 3) := by decide +kernel
theorem dX15_example_0 : decode cX15_example 0 = .ok (.aload_n 0, 1) := by decide +kernel
theorem dX15_example_1 : decode cX15_example 1 = .ok (.invokevirtual 785, 3) := by decide +kernel
theorem dX15_example_4 : decode cX15_example 4 = .ok (.ifCond .eq 6, 3) := by decide +kernel
theorem dX15_example_10 : decode cX15_example 10 = .ok (.aload_n 0, 1) := by decide +kernel
theorem dX15_example_11 : decode cX15_example 11 = .ok (.invokevirtual 806, 3) := by decide +kernel
theorem dX15_example_14 : decode cX15_example 14 = .ok (.aload_n 0, 1) := by decide +kernel
theorem dX15_example_15 : decode cX15_example 15 = .ok (.iconst 0, 1) := by decide +kernel
theorem dX15_example_16 : decode cX15_example 16 = .ok (.iload_n 1, 1) := by decide +kernel
theorem dX15_example_17 : decode cX15_example 17 = .ok (.iconst 1, 1) := by decide +kernel
theorem k_15_121 : Jvm.Cond.code ({ cls := "FinderHouseModel", name := "example", desc := "(IIZ)I" } : Jvm.MethodName) prog_14_method_167_code (7 : Nat) (Option.some Jvm.ClassFile.FieldType.int) ∈ tb := tb15 121 (by decide +kernel) (by decide +kernel)
theorem k_15_118 : Jvm.Cond.methodLink "FinderHouseModel" (1121 : Nat) ({ cls := "FinderHouseModel", name := "example", desc := "(IIZ)I" } : Jvm.MethodName) ∈ tb := tb15 118 (by decide +kernel) (by decide +kernel)
theorem k_15_120 : Jvm.Cond.instanceMethod ({ cls := "FinderHouseModel", name := "example", desc := "(IIZ)I" } : Jvm.MethodName) ∈ tb := tb15 120 (by decide +kernel) (by decide +kernel)
theorem ks_216 : Jvm.Cond.selects "FinderHouseModel" ({ cls := "FinderHouseModel", name := "example", desc := "(IIZ)I" } : Jvm.MethodName) ({ cls := "FinderHouseModel", name := "example", desc := "(IIZ)I" } : Jvm.MethodName) ∈ tb := tbp 216 (by decide +kernel) (by decide +kernel)
theorem dX15_example_18 : decode cX15_example 18 = .ok (.invokevirtual 1121, 3) := by decide +kernel
theorem dX15_example_21 : decode cX15_example 21 = .ok (.ireturn, 1) := by decide +kernel
theorem dX15_isWordText_0 : decode cX15_isWordText 0 = .ok (.iconst 1, 1) := by decide +kernel
theorem dX15_isWordText_1 : decode cX15_isWordText 1 = .ok (.istore_n 3, 1) := by decide +kernel
theorem dX15_isWordText_2 : decode cX15_isWordText 2 = .ok (.iload_n 1, 1) := by decide +kernel
theorem dX15_isWordText_3 : decode cX15_isWordText 3 = .ok (.istore 4, 2) := by decide +kernel
theorem dX15_isWordText_5 : decode cX15_isWordText 5 = .ok (.iload 4, 2) := by decide +kernel
theorem dX15_isWordText_7 : decode cX15_isWordText 7 = .ok (.iload_n 2, 1) := by decide +kernel
theorem dX15_isWordText_8 : decode cX15_isWordText 8 = .ok (.if_icmp .ge 32, 3) := by decide +kernel
theorem dX15_isWordText_40 : decode cX15_isWordText 40 = .ok (.iload_n 3, 1) := by decide +kernel
theorem dX15_isWordText_41 : decode cX15_isWordText 41 = .ok (.ireturn, 1) := by decide +kernel
theorem dX15_apply_0 : decode cX15_apply 0 = .ok (.aload_n 0, 1) := by decide +kernel
theorem dX15_apply_1 : decode cX15_apply 1 = .ok (.invokevirtual 785, 3) := by decide +kernel
theorem dX15_apply_4 : decode cX15_apply 4 = .ok (.ifCond .eq 6, 3) := by decide +kernel
theorem dX15_apply_10 : decode cX15_apply 10 = .ok (.aload_n 0, 1) := by decide +kernel
theorem dX15_apply_11 : decode cX15_apply 11 = .ok (.invokevirtual 806, 3) := by decide +kernel
theorem dX15_apply_14 : decode cX15_apply 14 = .ok (.aload_n 0, 1) := by decide +kernel
theorem dX15_apply_15 : decode cX15_apply 15 = .ok (.getfield 418, 3) := by decide +kernel
theorem dX15_apply_18 : decode cX15_apply 18 = .ok (.bipush 10, 2) := by decide +kernel
theorem dX15_apply_20 : decode cX15_apply 20 = .ok (.if_icmp .gt 15, 3) := by decide +kernel
theorem dX15_apply_23 : decode cX15_apply 23 = .ok (.aload_n 0, 1) := by decide +kernel
theorem dX15_apply_24 : decode cX15_apply 24 = .ok (.iconst 0, 1) := by decide +kernel
theorem dX15_apply_25 : decode cX15_apply 25 = .ok (.aload_n 0, 1) := by decide +kernel
theorem dX15_apply_26 : decode cX15_apply 26 = .ok (.getfield 418, 3) := by decide +kernel
theorem k_15_126 : Jvm.Cond.code ({ cls := "FinderHouseModel", name := "isWordText", desc := "(II)Z" } : Jvm.MethodName) prog_14_method_165_code (5 : Nat) (Option.some Jvm.ClassFile.FieldType.boolean) ∈ tb := tb15 126 (by decide +kernel) (by decide +kernel)
theorem k_15_123 : Jvm.Cond.methodLink "FinderHouseModel" (1127 : Nat) ({ cls := "FinderHouseModel", name := "isWordText", desc := "(II)Z" } : Jvm.MethodName) ∈ tb := tb15 123 (by decide +kernel) (by decide +kernel)
theorem k_15_125 : Jvm.Cond.instanceMethod ({ cls := "FinderHouseModel", name := "isWordText", desc := "(II)Z" } : Jvm.MethodName) ∈ tb := tb15 125 (by decide +kernel) (by decide +kernel)
theorem ks_217 : Jvm.Cond.selects "FinderHouseModel" ({ cls := "FinderHouseModel", name := "isWordText", desc := "(II)Z" } : Jvm.MethodName) ({ cls := "FinderHouseModel", name := "isWordText", desc := "(II)Z" } : Jvm.MethodName) ∈ tb := tbp 217 (by decide +kernel) (by decide +kernel)
theorem dX15_apply_29 : decode cX15_apply 29 = .ok (.invokevirtual 1127, 3) := by decide +kernel
theorem dX15_apply_32 : decode cX15_apply 32 = .ok (.ifCond .ne 5, 3) := by decide +kernel
theorem dX15_apply_37 : decode cX15_apply 37 = .ok (.aload_n 0, 1) := by decide +kernel
theorem dX15_apply_38 : decode cX15_apply 38 = .ok (.getfield 1136, 3) := by decide +kernel
theorem dX15_apply_41 : decode cX15_apply 41 = .ok (.ifCond .ne 6, 3) := by decide +kernel
theorem dX15_apply_44 : decode cX15_apply 44 = .ok (.bipush (-2), 2) := by decide +kernel
theorem dX15_apply_46 : decode cX15_apply 46 = .ok (.ireturn, 1) := by decide +kernel
theorem dX15_blocksFor_0 : decode cX15_blocksFor 0 = .ok (.iload_n 0, 1) := by decide +kernel
theorem dX15_blocksFor_1 : decode cX15_blocksFor 1 = .ok (.bipush 121, 2) := by decide +kernel
theorem dX15_blocksFor_3 : decode cX15_blocksFor 3 = .ok (.iadd, 1) := by decide +kernel
theorem dX15_blocksFor_4 : decode cX15_blocksFor 4 = .ok (.iconst 1, 1) := by decide +kernel
theorem dX15_blocksFor_5 : decode cX15_blocksFor 5 = .ok (.isub, 1) := by decide +kernel
theorem dX15_blocksFor_6 : decode cX15_blocksFor 6 = .ok (.bipush 121, 2) := by decide +kernel
theorem dX15_blocksFor_8 : decode cX15_blocksFor 8 = .ok (.idiv, 1) := by decide +kernel
theorem dX15_blocksFor_9 : decode cX15_blocksFor 9 = .ok (.ireturn, 1) := by decide +kernel
theorem dX15_hasRoom_0 : decode cX15_hasRoom 0 = .ok (.aload_n 0, 1) := by decide +kernel
theorem dX15_hasRoom_1 : decode cX15_hasRoom 1 = .ok (.getfield 800, 3) := by decide +kernel
theorem dX15_hasRoom_4 : decode cX15_hasRoom 4 = .ok (.iload_n 1, 1) := by decide +kernel
theorem dX15_hasRoom_5 : decode cX15_hasRoom 5 = .ok (.iadd, 1) := by decide +kernel
theorem dX15_hasRoom_6 : decode cX15_hasRoom 6 = .ok (.iconst 3, 1) := by decide +kernel
theorem dX15_hasRoom_7 : decode cX15_hasRoom 7 = .ok (.iadd, 1) := by decide +kernel
theorem k_13_194 : Jvm.Cond.code ({ cls := "FinderHouseModel", name := "blocksFor", desc := "(I)I" } : Jvm.MethodName) prog_14_method_198_code (1 : Nat) (Option.some Jvm.ClassFile.FieldType.int) ∈ tb := tb13 194 (by decide +kernel) (by decide +kernel)
theorem k_13_192 : Jvm.Cond.methodLink "FinderHouseModel" (1263 : Nat) ({ cls := "FinderHouseModel", name := "blocksFor", desc := "(I)I" } : Jvm.MethodName) ∈ tb := tb13 192 (by decide +kernel) (by decide +kernel)
theorem k_13_193 : Jvm.Cond.static ({ cls := "FinderHouseModel", name := "blocksFor", desc := "(I)I" } : Jvm.MethodName) ∈ tb := tb13 193 (by decide +kernel) (by decide +kernel)
theorem dX15_hasRoom_8 : decode cX15_hasRoom 8 = .ok (.invokestatic 1263, 3) := by decide +kernel
theorem dX15_hasRoom_11 : decode cX15_hasRoom 11 = .ok (.sipush 200, 3) := by decide +kernel
theorem dX15_hasRoom_14 : decode cX15_hasRoom 14 = .ok (.aload_n 0, 1) := by decide +kernel
theorem dX15_hasRoom_15 : decode cX15_hasRoom 15 = .ok (.getfield 803, 3) := by decide +kernel
theorem dX15_hasRoom_18 : decode cX15_hasRoom 18 = .ok (.isub, 1) := by decide +kernel
theorem dX15_hasRoom_19 : decode cX15_hasRoom 19 = .ok (.if_icmp .gt 7, 3) := by decide +kernel
theorem dX15_hasRoom_22 : decode cX15_hasRoom 22 = .ok (.iconst 1, 1) := by decide +kernel
theorem dX15_hasRoom_23 : decode cX15_hasRoom 23 = .ok (.goto 4, 3) := by decide +kernel
theorem dX15_hasRoom_27 : decode cX15_hasRoom 27 = .ok (.ireturn, 1) := by decide +kernel
theorem dX15_record_0 : decode cX15_record 0 = .ok (.aload_n 0, 1) := by decide +kernel
theorem k_11_103 : Jvm.Cond.fieldLink "FinderHouseModel" (298 : Nat) "FinderHouseModel" "waiting" "[I" ∈ tb := tb11 103 (by decide +kernel) (by decide +kernel)
theorem dX15_record_1 : decode cX15_record 1 = .ok (.getfield 298, 3) := by decide +kernel
theorem dX15_record_4 : decode cX15_record 4 = .ok (.aload_n 0, 1) := by decide +kernel
theorem dX15_record_5 : decode cX15_record 5 = .ok (.getfield 800, 3) := by decide +kernel
theorem dX15_record_8 : decode cX15_record 8 = .ok (.iload_n 1, 1) := by decide +kernel
theorem dX15_record_9 : decode cX15_record 9 = .ok (.iastore, 1) := by decide +kernel
theorem dX15_record_10 : decode cX15_record 10 = .ok (.aload_n 0, 1) := by decide +kernel
theorem dX15_record_11 : decode cX15_record 11 = .ok (.getfield 298, 3) := by decide +kernel
theorem dX15_record_14 : decode cX15_record 14 = .ok (.aload_n 0, 1) := by decide +kernel
theorem dX15_record_15 : decode cX15_record 15 = .ok (.getfield 800, 3) := by decide +kernel
theorem dX15_record_18 : decode cX15_record 18 = .ok (.iconst 1, 1) := by decide +kernel
theorem dX15_record_19 : decode cX15_record 19 = .ok (.iadd, 1) := by decide +kernel
theorem dX15_record_20 : decode cX15_record 20 = .ok (.iload 4, 2) := by decide +kernel
theorem dX15_record_22 : decode cX15_record 22 = .ok (.iload_n 3, 1) := by decide +kernel
theorem dX15_record_23 : decode cX15_record 23 = .ok (.isub, 1) := by decide +kernel
theorem dX15_record_24 : decode cX15_record 24 = .ok (.bipush 8, 2) := by decide +kernel
theorem dX15_record_26 : decode cX15_record 26 = .ok (.ishr, 1) := by decide +kernel
theorem dX15_record_27 : decode cX15_record 27 = .ok (.iastore, 1) := by decide +kernel
theorem dX15_record_28 : decode cX15_record 28 = .ok (.aload_n 0, 1) := by decide +kernel
theorem dX15_record_29 : decode cX15_record 29 = .ok (.getfield 298, 3) := by decide +kernel
theorem dX15_record_32 : decode cX15_record 32 = .ok (.aload_n 0, 1) := by decide +kernel
theorem dX15_record_33 : decode cX15_record 33 = .ok (.getfield 800, 3) := by decide +kernel
theorem dX15_record_36 : decode cX15_record 36 = .ok (.iconst 2, 1) := by decide +kernel
theorem dX15_record_37 : decode cX15_record 37 = .ok (.iadd, 1) := by decide +kernel
theorem dX15_record_38 : decode cX15_record 38 = .ok (.iload 4, 2) := by decide +kernel
theorem dX15_record_40 : decode cX15_record 40 = .ok (.iload_n 3, 1) := by decide +kernel
theorem dX15_record_41 : decode cX15_record 41 = .ok (.isub, 1) := by decide +kernel
theorem dX15_record_42 : decode cX15_record 42 = .ok (.sipush 255, 3) := by decide +kernel
theorem dX15_record_45 : decode cX15_record 45 = .ok (.iand, 1) := by decide +kernel
theorem dX15_record_46 : decode cX15_record 46 = .ok (.iastore, 1) := by decide +kernel
theorem dX15_record_47 : decode cX15_record 47 = .ok (.iload_n 3, 1) := by decide +kernel
theorem dX15_record_48 : decode cX15_record 48 = .ok (.istore 5, 2) := by decide +kernel
theorem dX15_record_50 : decode cX15_record 50 = .ok (.iload 5, 2) := by decide +kernel
theorem dX15_record_52 : decode cX15_record 52 = .ok (.iload 4, 2) := by decide +kernel
theorem dX15_record_54 : decode cX15_record 54 = .ok (.if_icmp .ge 29, 3) := by decide +kernel
theorem dX15_record_57 : decode cX15_record 57 = .ok (.aload_n 0, 1) := by decide +kernel
theorem dX15_record_58 : decode cX15_record 58 = .ok (.getfield 298, 3) := by decide +kernel
theorem dX15_record_61 : decode cX15_record 61 = .ok (.aload_n 0, 1) := by decide +kernel
theorem dX15_record_62 : decode cX15_record 62 = .ok (.getfield 800, 3) := by decide +kernel
theorem dX15_record_65 : decode cX15_record 65 = .ok (.iconst 3, 1) := by decide +kernel
theorem dX15_record_66 : decode cX15_record 66 = .ok (.iadd, 1) := by decide +kernel
theorem dX15_record_67 : decode cX15_record 67 = .ok (.iload 5, 2) := by decide +kernel
theorem dX15_record_69 : decode cX15_record 69 = .ok (.iadd, 1) := by decide +kernel
theorem dX15_record_70 : decode cX15_record 70 = .ok (.iload_n 3, 1) := by decide +kernel
theorem dX15_record_71 : decode cX15_record 71 = .ok (.isub, 1) := by decide +kernel
theorem dX15_record_72 : decode cX15_record 72 = .ok (.aload_n 2, 1) := by decide +kernel
theorem dX15_record_73 : decode cX15_record 73 = .ok (.iload 5, 2) := by decide +kernel
theorem dX15_record_75 : decode cX15_record 75 = .ok (.iaload, 1) := by decide +kernel
theorem dX15_record_76 : decode cX15_record 76 = .ok (.iastore, 1) := by decide +kernel
theorem dX15_record_77 : decode cX15_record 77 = .ok (.iinc 5 1, 3) := by decide +kernel
theorem dX15_record_80 : decode cX15_record 80 = .ok (.goto (-30), 3) := by decide +kernel
theorem dX15_record_83 : decode cX15_record 83 = .ok (.aload_n 0, 1) := by decide +kernel
theorem dX15_record_84 : decode cX15_record 84 = .ok (.dup, 1) := by decide +kernel
theorem dX15_record_85 : decode cX15_record 85 = .ok (.getfield 800, 3) := by decide +kernel
theorem dX15_record_88 : decode cX15_record 88 = .ok (.iconst 3, 1) := by decide +kernel
theorem dX15_record_89 : decode cX15_record 89 = .ok (.iload 4, 2) := by decide +kernel
theorem dX15_record_91 : decode cX15_record 91 = .ok (.iadd, 1) := by decide +kernel
theorem dX15_record_92 : decode cX15_record 92 = .ok (.iload_n 3, 1) := by decide +kernel
theorem dX15_record_93 : decode cX15_record 93 = .ok (.isub, 1) := by decide +kernel
theorem dX15_record_94 : decode cX15_record 94 = .ok (.iadd, 1) := by decide +kernel
theorem dX15_record_95 : decode cX15_record 95 = .ok (.putfield 800, 3) := by decide +kernel
theorem dX15_record_98 : decode cX15_record 98 = .ok (.aload_n 0, 1) := by decide +kernel
theorem dX15_record_99 : decode cX15_record 99 = .ok (.dup, 1) := by decide +kernel
theorem dX15_record_100 : decode cX15_record 100 = .ok (.getfield 797, 3) := by decide +kernel
theorem dX15_record_103 : decode cX15_record 103 = .ok (.iconst 1, 1) := by decide +kernel
theorem dX15_record_104 : decode cX15_record 104 = .ok (.iadd, 1) := by decide +kernel
theorem dX15_record_105 : decode cX15_record 105 = .ok (.putfield 797, 3) := by decide +kernel
theorem dX15_record_108 : decode cX15_record 108 = .ok (.return_, 1) := by decide +kernel
theorem dX15_word__0 : decode cX15_word_ 0 = .ok (.aload_n 0, 1) := by decide +kernel
theorem dX15_word__1 : decode cX15_word_ 1 = .ok (.getfield 418, 3) := by decide +kernel
theorem dX15_word__4 : decode cX15_word_ 4 = .ok (.iload_n 1, 1) := by decide +kernel
theorem dX15_word__5 : decode cX15_word_ 5 = .ok (.isub, 1) := by decide +kernel
theorem dX15_word__6 : decode cX15_word_ 6 = .ok (.istore 4, 2) := by decide +kernel
theorem dX15_word__8 : decode cX15_word_ 8 = .ok (.iload 4, 2) := by decide +kernel
theorem dX15_word__10 : decode cX15_word_ 10 = .ok (.bipush 8, 2) := by decide +kernel
theorem dX15_word__12 : decode cX15_word_ 12 = .ok (.if_icmp .gt 7, 3) := by decide +kernel
theorem dX15_word__15 : decode cX15_word_ 15 = .ok (.iconst 1, 1) := by decide +kernel
theorem dX15_word__16 : decode cX15_word_ 16 = .ok (.goto 4, 3) := by decide +kernel
theorem dX15_word__20 : decode cX15_word_ 20 = .ok (.istore 5, 2) := by decide +kernel
theorem dX15_word__22 : decode cX15_word_ 22 = .ok (.iconst 0, 1) := by decide +kernel
theorem dX15_word__23 : decode cX15_word_ 23 = .ok (.istore 6, 2) := by decide +kernel
theorem dX15_word__25 : decode cX15_word_ 25 = .ok (.iconst 0, 1) := by decide +kernel
theorem dX15_word__26 : decode cX15_word_ 26 = .ok (.istore 7, 2) := by decide +kernel
theorem dX15_word__28 : decode cX15_word_ 28 = .ok (.iload 7, 2) := by decide +kernel
theorem dX15_word__30 : decode cX15_word_ 30 = .ok (.iload 4, 2) := by decide +kernel
theorem dX15_word__32 : decode cX15_word_ 32 = .ok (.if_icmp .ge 66, 3) := by decide +kernel
theorem dX15_word__98 : decode cX15_word_ 98 = .ok (.iload 5, 2) := by decide +kernel
theorem dX15_word__100 : decode cX15_word_ 100 = .ok (.ifCond .ne 5, 3) := by decide +kernel
theorem dX15_word__105 : decode cX15_word_ 105 = .ok (.iconst 0, 1) := by decide +kernel
theorem dX15_word__106 : decode cX15_word_ 106 = .ok (.istore 7, 2) := by decide +kernel
theorem dX15_word__108 : decode cX15_word_ 108 = .ok (.iload 7, 2) := by decide +kernel
theorem dX15_word__110 : decode cX15_word_ 110 = .ok (.aload_n 0, 1) := by decide +kernel
theorem dX15_word__111 : decode cX15_word_ 111 = .ok (.getfield 794, 3) := by decide +kernel
theorem dX15_word__114 : decode cX15_word_ 114 = .ok (.if_icmp .ge 54, 3) := by decide +kernel
theorem dX15_word__168 : decode cX15_word_ 168 = .ok (.aload_n 0, 1) := by decide +kernel
theorem dX15_word__169 : decode cX15_word_ 169 = .ok (.getfield 794, 3) := by decide +kernel
theorem dX15_word__172 : decode cX15_word_ 172 = .ok (.bipush 20, 2) := by decide +kernel
theorem dX15_word__174 : decode cX15_word_ 174 = .ok (.if_icmp .eq 18, 3) := by decide +kernel
theorem dX15_word__177 : decode cX15_word_ 177 = .ok (.iload_n 3, 1) := by decide +kernel
theorem dX15_word__178 : decode cX15_word_ 178 = .ok (.ifCond .eq 17, 3) := by decide +kernel
theorem dX15_word__181 : decode cX15_word_ 181 = .ok (.aload_n 0, 1) := by decide +kernel
theorem dX15_word__182 : decode cX15_word_ 182 = .ok (.iload 4, 2) := by decide +kernel
theorem dX15_word__184 : decode cX15_word_ 184 = .ok (.iconst 1, 1) := by decide +kernel
theorem dX15_word__185 : decode cX15_word_ 185 = .ok (.iadd, 1) := by decide +kernel
theorem k_13_191 : Jvm.Cond.code ({ cls := "FinderHouseModel", name := "hasRoom", desc := "(I)Z" } : Jvm.MethodName) prog_14_method_199_code (2 : Nat) (Option.some Jvm.ClassFile.FieldType.boolean) ∈ tb := tb13 191 (by decide +kernel) (by decide +kernel)
theorem k_13_188 : Jvm.Cond.methodLink "FinderHouseModel" (856 : Nat) ({ cls := "FinderHouseModel", name := "hasRoom", desc := "(I)Z" } : Jvm.MethodName) ∈ tb := tb13 188 (by decide +kernel) (by decide +kernel)
theorem k_13_190 : Jvm.Cond.instanceMethod ({ cls := "FinderHouseModel", name := "hasRoom", desc := "(I)Z" } : Jvm.MethodName) ∈ tb := tb13 190 (by decide +kernel) (by decide +kernel)
theorem ks_148 : Jvm.Cond.selects "FinderHouseModel" ({ cls := "FinderHouseModel", name := "hasRoom", desc := "(I)Z" } : Jvm.MethodName) ({ cls := "FinderHouseModel", name := "hasRoom", desc := "(I)Z" } : Jvm.MethodName) ∈ tb := tbp 148 (by decide +kernel) (by decide +kernel)
theorem dX15_word__186 : decode cX15_word_ 186 = .ok (.invokevirtual 856, 3) := by decide +kernel
theorem dX15_word__189 : decode cX15_word_ 189 = .ok (.ifCond .ne 6, 3) := by decide +kernel
theorem dX15_word__195 : decode cX15_word_ 195 = .ok (.iload_n 3, 1) := by decide +kernel
theorem dX15_word__196 : decode cX15_word_ 196 = .ok (.ifCond .eq 66, 3) := by decide +kernel
theorem dX15_word__199 : decode cX15_word_ 199 = .ok (.aload_n 0, 1) := by decide +kernel
theorem k_10_206 : Jvm.Cond.fieldLink "FinderHouseModel" (83 : Nat) "FinderHouseModel" "made" "[I" ∈ tb := tb10 206 (by decide +kernel) (by decide +kernel)
theorem dX15_word__200 : decode cX15_word_ 200 = .ok (.getfield 83, 3) := by decide +kernel
theorem dX15_word__203 : decode cX15_word_ 203 = .ok (.iconst 0, 1) := by decide +kernel
theorem dX15_word__204 : decode cX15_word_ 204 = .ok (.iload_n 2, 1) := by decide +kernel
theorem dX15_word__205 : decode cX15_word_ 205 = .ok (.ifCond .eq 7, 3) := by decide +kernel
theorem dX15_word__212 : decode cX15_word_ 212 = .ok (.iconst 0, 1) := by decide +kernel
theorem dX15_word__213 : decode cX15_word_ 213 = .ok (.iastore, 1) := by decide +kernel
theorem dX15_word__214 : decode cX15_word_ 214 = .ok (.iconst 0, 1) := by decide +kernel
theorem dX15_word__215 : decode cX15_word_ 215 = .ok (.istore 7, 2) := by decide +kernel
theorem dX15_word__217 : decode cX15_word_ 217 = .ok (.iload 7, 2) := by decide +kernel
theorem dX15_word__219 : decode cX15_word_ 219 = .ok (.iload 4, 2) := by decide +kernel
theorem dX15_word__221 : decode cX15_word_ 221 = .ok (.if_icmp .ge 27, 3) := by decide +kernel
theorem dX15_word__248 : decode cX15_word_ 248 = .ok (.aload_n 0, 1) := by decide +kernel
theorem dX15_word__249 : decode cX15_word_ 249 = .ok (.iconst 4, 1) := by decide +kernel
theorem dX15_word__250 : decode cX15_word_ 250 = .ok (.aload_n 0, 1) := by decide +kernel
theorem dX15_word__251 : decode cX15_word_ 251 = .ok (.getfield 83, 3) := by decide +kernel
theorem dX15_word__254 : decode cX15_word_ 254 = .ok (.iconst 0, 1) := by decide +kernel
theorem dX15_word__255 : decode cX15_word_ 255 = .ok (.iload 4, 2) := by decide +kernel
theorem dX15_word__257 : decode cX15_word_ 257 = .ok (.iconst 1, 1) := by decide +kernel
theorem dX15_word__258 : decode cX15_word_ 258 = .ok (.iadd, 1) := by decide +kernel
theorem k_13_198 : Jvm.Cond.code ({ cls := "FinderHouseModel", name := "record", desc := "(I[III)V" } : Jvm.MethodName) prog_14_method_200_code (6 : Nat) (Option.none : Option Jvm.ClassFile.FieldType) ∈ tb := tb13 198 (by decide +kernel) (by decide +kernel)
theorem k_13_195 : Jvm.Cond.methodLink "FinderHouseModel" (859 : Nat) ({ cls := "FinderHouseModel", name := "record", desc := "(I[III)V" } : Jvm.MethodName) ∈ tb := tb13 195 (by decide +kernel) (by decide +kernel)
theorem k_13_197 : Jvm.Cond.instanceMethod ({ cls := "FinderHouseModel", name := "record", desc := "(I[III)V" } : Jvm.MethodName) ∈ tb := tb13 197 (by decide +kernel) (by decide +kernel)
theorem ks_149 : Jvm.Cond.selects "FinderHouseModel" ({ cls := "FinderHouseModel", name := "record", desc := "(I[III)V" } : Jvm.MethodName) ({ cls := "FinderHouseModel", name := "record", desc := "(I[III)V" } : Jvm.MethodName) ∈ tb := tbp 149 (by decide +kernel) (by decide +kernel)
theorem dX15_word__259 : decode cX15_word_ 259 = .ok (.invokevirtual 859, 3) := by decide +kernel
theorem dX15_word__262 : decode cX15_word_ 262 = .ok (.aload_n 0, 1) := by decide +kernel
theorem k_11_77 : Jvm.Cond.fieldLink "FinderHouseModel" (265 : Nat) "FinderHouseModel" "wordSize" "[I" ∈ tb := tb11 77 (by decide +kernel) (by decide +kernel)
theorem dX15_word__263 : decode cX15_word_ 263 = .ok (.getfield 265, 3) := by decide +kernel
theorem dX15_word__266 : decode cX15_word_ 266 = .ok (.aload_n 0, 1) := by decide +kernel
theorem dX15_word__267 : decode cX15_word_ 267 = .ok (.getfield 794, 3) := by decide +kernel
theorem dX15_word__270 : decode cX15_word_ 270 = .ok (.iload 4, 2) := by decide +kernel
theorem dX15_word__272 : decode cX15_word_ 272 = .ok (.iastore, 1) := by decide +kernel
theorem dX15_word__273 : decode cX15_word_ 273 = .ok (.aload_n 0, 1) := by decide +kernel
theorem k_11_78 : Jvm.Cond.fieldLink "FinderHouseModel" (268 : Nat) "FinderHouseModel" "wordBits" "[I" ∈ tb := tb11 78 (by decide +kernel) (by decide +kernel)
theorem dX15_word__274 : decode cX15_word_ 274 = .ok (.getfield 268, 3) := by decide +kernel
theorem dX15_word__277 : decode cX15_word_ 277 = .ok (.aload_n 0, 1) := by decide +kernel
theorem dX15_word__278 : decode cX15_word_ 278 = .ok (.getfield 794, 3) := by decide +kernel
theorem dX15_word__281 : decode cX15_word_ 281 = .ok (.iload 6, 2) := by decide +kernel
theorem dX15_word__283 : decode cX15_word_ 283 = .ok (.iastore, 1) := by decide +kernel
theorem dX15_word__284 : decode cX15_word_ 284 = .ok (.aload_n 0, 1) := by decide +kernel
theorem k_11_79 : Jvm.Cond.fieldLink "FinderHouseModel" (271 : Nat) "FinderHouseModel" "wordGood" "[Z" ∈ tb := tb11 79 (by decide +kernel) (by decide +kernel)
theorem dX15_word__285 : decode cX15_word_ 285 = .ok (.getfield 271, 3) := by decide +kernel
theorem dX15_word__288 : decode cX15_word_ 288 = .ok (.aload_n 0, 1) := by decide +kernel
theorem dX15_word__289 : decode cX15_word_ 289 = .ok (.getfield 794, 3) := by decide +kernel
theorem dX15_word__292 : decode cX15_word_ 292 = .ok (.iload_n 2, 1) := by decide +kernel
theorem dX15_word__293 : decode cX15_word_ 293 = .ok (.bastore, 1) := by decide +kernel
theorem dX15_word__294 : decode cX15_word_ 294 = .ok (.aload_n 0, 1) := by decide +kernel
theorem dX15_word__295 : decode cX15_word_ 295 = .ok (.dup, 1) := by decide +kernel
theorem dX15_word__296 : decode cX15_word_ 296 = .ok (.getfield 794, 3) := by decide +kernel
theorem dX15_word__299 : decode cX15_word_ 299 = .ok (.iconst 1, 1) := by decide +kernel
theorem dX15_word__300 : decode cX15_word_ 300 = .ok (.iadd, 1) := by decide +kernel
theorem dX15_word__301 : decode cX15_word_ 301 = .ok (.putfield 794, 3) := by decide +kernel
theorem dX15_word__304 : decode cX15_word_ 304 = .ok (.aload_n 0, 1) := by decide +kernel
theorem dX15_word__305 : decode cX15_word_ 305 = .ok (.getfield 794, 3) := by decide +kernel
theorem dX15_word__308 : decode cX15_word_ 308 = .ok (.ireturn, 1) := by decide +kernel
theorem dX15_word__208 : decode cX15_word_ 208 = .ok (.iconst 1, 1) := by decide +kernel
theorem dX15_word__209 : decode cX15_word_ 209 = .ok (.goto 4, 3) := by decide +kernel
theorem dX15_word_0 : decode cX15_word 0 = .ok (.aload_n 0, 1) := by decide +kernel
theorem dX15_word_1 : decode cX15_word 1 = .ok (.invokevirtual 785, 3) := by decide +kernel
theorem dX15_word_4 : decode cX15_word 4 = .ok (.ifCond .eq 6, 3) := by decide +kernel
theorem dX15_word_10 : decode cX15_word 10 = .ok (.aload_n 0, 1) := by decide +kernel
theorem dX15_word_11 : decode cX15_word 11 = .ok (.invokevirtual 806, 3) := by decide +kernel
theorem dX15_word_14 : decode cX15_word 14 = .ok (.aload_n 0, 1) := by decide +kernel
theorem dX15_word_15 : decode cX15_word 15 = .ok (.iconst 0, 1) := by decide +kernel
theorem dX15_word_16 : decode cX15_word 16 = .ok (.iload_n 1, 1) := by decide +kernel
theorem dX15_word_17 : decode cX15_word 17 = .ok (.iconst 1, 1) := by decide +kernel
theorem k_15_212 : Jvm.Cond.code ({ cls := "FinderHouseModel", name := "word", desc := "(IZZ)I" } : Jvm.MethodName) prog_14_method_175_code (9 : Nat) (Option.some Jvm.ClassFile.FieldType.int) ∈ tb := tb15 212 (by decide +kernel) (by decide +kernel)
theorem k_15_209 : Jvm.Cond.methodLink "FinderHouseModel" (1146 : Nat) ({ cls := "FinderHouseModel", name := "word", desc := "(IZZ)I" } : Jvm.MethodName) ∈ tb := tb15 209 (by decide +kernel) (by decide +kernel)
theorem k_15_211 : Jvm.Cond.instanceMethod ({ cls := "FinderHouseModel", name := "word", desc := "(IZZ)I" } : Jvm.MethodName) ∈ tb := tb15 211 (by decide +kernel) (by decide +kernel)
theorem ks_231 : Jvm.Cond.selects "FinderHouseModel" ({ cls := "FinderHouseModel", name := "word", desc := "(IZZ)I" } : Jvm.MethodName) ({ cls := "FinderHouseModel", name := "word", desc := "(IZZ)I" } : Jvm.MethodName) ∈ tb := tbp 231 (by decide +kernel) (by decide +kernel)
theorem dX15_word_18 : decode cX15_word 18 = .ok (.invokevirtual 1146, 3) := by decide +kernel
theorem dX15_word_21 : decode cX15_word 21 = .ok (.ireturn, 1) := by decide +kernel
theorem dX15_fits_0 : decode cX15_fits 0 = .ok (.iconst 0, 1) := by decide +kernel
theorem dX15_fits_1 : decode cX15_fits 1 = .ok (.istore_n 2, 1) := by decide +kernel
theorem dX15_fits_2 : decode cX15_fits 2 = .ok (.iload_n 2, 1) := by decide +kernel
theorem dX15_fits_3 : decode cX15_fits 3 = .ok (.iload_n 1, 1) := by decide +kernel
theorem dX15_fits_4 : decode cX15_fits 4 = .ok (.if_icmp .ge 16, 3) := by decide +kernel
theorem dX15_fits_7 : decode cX15_fits 7 = .ok (.aload_n 0, 1) := by decide +kernel
theorem k_11_81 : Jvm.Cond.fieldLink "FinderHouseModel" (277 : Nat) "FinderHouseModel" "must" "[I" ∈ tb := tb11 81 (by decide +kernel) (by decide +kernel)
theorem dX15_fits_8 : decode cX15_fits 8 = .ok (.getfield 277, 3) := by decide +kernel
theorem dX15_fits_11 : decode cX15_fits 11 = .ok (.iload_n 2, 1) := by decide +kernel
theorem dX15_fits_12 : decode cX15_fits 12 = .ok (.iconst 0, 1) := by decide +kernel
theorem dX15_fits_13 : decode cX15_fits 13 = .ok (.iastore, 1) := by decide +kernel
theorem dX15_fits_14 : decode cX15_fits 14 = .ok (.iinc 2 1, 3) := by decide +kernel
theorem dX15_fits_17 : decode cX15_fits 17 = .ok (.goto (-15), 3) := by decide +kernel
theorem dX15_fits_20 : decode cX15_fits 20 = .ok (.iconst 0, 1) := by decide +kernel
theorem dX15_fits_21 : decode cX15_fits 21 = .ok (.istore_n 2, 1) := by decide +kernel
theorem dX15_fits_22 : decode cX15_fits 22 = .ok (.iload_n 2, 1) := by decide +kernel
theorem dX15_fits_23 : decode cX15_fits 23 = .ok (.aload_n 0, 1) := by decide +kernel
theorem dX15_fits_24 : decode cX15_fits 24 = .ok (.getfield 794, 3) := by decide +kernel
theorem dX15_fits_27 : decode cX15_fits 27 = .ok (.if_icmp .ge 98, 3) := by decide +kernel
theorem dX15_fits_125 : decode cX15_fits 125 = .ok (.iconst 1, 1) := by decide +kernel
theorem dX15_fits_126 : decode cX15_fits 126 = .ok (.ireturn, 1) := by decide +kernel
theorem dX15_tryMachine_0 : decode cX15_tryMachine 0 = .ok (.aload_n 0, 1) := by decide +kernel
theorem dX15_tryMachine_1 : decode cX15_tryMachine 1 = .ok (.iload_n 1, 1) := by decide +kernel
theorem k_15_228 : Jvm.Cond.code ({ cls := "FinderHouseModel", name := "fits", desc := "(I)Z" } : Jvm.MethodName) prog_14_method_177_code (5 : Nat) (Option.some Jvm.ClassFile.FieldType.boolean) ∈ tb := tb15 228 (by decide +kernel) (by decide +kernel)
theorem k_15_225 : Jvm.Cond.methodLink "FinderHouseModel" (1150 : Nat) ({ cls := "FinderHouseModel", name := "fits", desc := "(I)Z" } : Jvm.MethodName) ∈ tb := tb15 225 (by decide +kernel) (by decide +kernel)
theorem k_15_227 : Jvm.Cond.instanceMethod ({ cls := "FinderHouseModel", name := "fits", desc := "(I)Z" } : Jvm.MethodName) ∈ tb := tb15 227 (by decide +kernel) (by decide +kernel)
theorem ks_233 : Jvm.Cond.selects "FinderHouseModel" ({ cls := "FinderHouseModel", name := "fits", desc := "(I)Z" } : Jvm.MethodName) ({ cls := "FinderHouseModel", name := "fits", desc := "(I)Z" } : Jvm.MethodName) ∈ tb := tbp 233 (by decide +kernel) (by decide +kernel)
theorem dX15_tryMachine_2 : decode cX15_tryMachine 2 = .ok (.invokevirtual 1150, 3) := by decide +kernel
theorem dX15_tryMachine_5 : decode cX15_tryMachine 5 = .ok (.ifCond .ne 5, 3) := by decide +kernel
theorem dX15_tryMachine_10 : decode cX15_tryMachine 10 = .ok (.iload_n 2, 1) := by decide +kernel
theorem dX15_tryMachine_11 : decode cX15_tryMachine 11 = .ok (.iconst 2, 1) := by decide +kernel
theorem dX15_tryMachine_12 : decode cX15_tryMachine 12 = .ok (.iload_n 1, 1) := by decide +kernel
theorem dX15_tryMachine_13 : decode cX15_tryMachine 13 = .ok (.imul, 1) := by decide +kernel
theorem dX15_tryMachine_14 : decode cX15_tryMachine 14 = .ok (.if_icmp .ne 14, 3) := by decide +kernel
theorem dX15_tryMachine_17 : decode cX15_tryMachine 17 = .ok (.iload_n 3, 1) := by decide +kernel
theorem dX15_tryMachine_18 : decode cX15_tryMachine 18 = .ok (.iload_n 1, 1) := by decide +kernel
theorem dX15_tryMachine_19 : decode cX15_tryMachine 19 = .ok (.if_icmp .ne 7, 3) := by decide +kernel
theorem dX15_tryMachine_22 : decode cX15_tryMachine 22 = .ok (.iconst 1, 1) := by decide +kernel
theorem dX15_tryMachine_23 : decode cX15_tryMachine 23 = .ok (.goto 4, 3) := by decide +kernel
theorem dX15_tryMachine_27 : decode cX15_tryMachine 27 = .ok (.ireturn, 1) := by decide +kernel
theorem dX15_tryMachine_28 : decode cX15_tryMachine 28 = .ok (.iload_n 2, 1) := by decide +kernel
theorem dX15_tryMachine_29 : decode cX15_tryMachine 29 = .ok (.iconst 2, 1) := by decide +kernel
theorem dX15_tryMachine_30 : decode cX15_tryMachine 30 = .ok (.idiv, 1) := by decide +kernel
theorem dX15_tryMachine_31 : decode cX15_tryMachine 31 = .ok (.iload_n 3, 1) := by decide +kernel
theorem dX15_tryMachine_32 : decode cX15_tryMachine 32 = .ok (.if_icmp .lt 5, 3) := by decide +kernel
theorem dX15_tryMachine_37 : decode cX15_tryMachine 37 = .ok (.iconst 0, 1) := by decide +kernel
theorem dX15_tryMachine_38 : decode cX15_tryMachine 38 = .ok (.istore 4, 2) := by decide +kernel
theorem dX15_tryMachine_40 : decode cX15_tryMachine 40 = .ok (.iload 4, 2) := by decide +kernel
theorem dX15_tryMachine_42 : decode cX15_tryMachine 42 = .ok (.iload_n 3, 1) := by decide +kernel
theorem dX15_tryMachine_43 : decode cX15_tryMachine 43 = .ok (.if_icmp .gt 49, 3) := by decide +kernel
theorem dX15_tryMachine_46 : decode cX15_tryMachine 46 = .ok (.iload 4, 2) := by decide +kernel
theorem dX15_tryMachine_48 : decode cX15_tryMachine 48 = .ok (.iload_n 1, 1) := by decide +kernel
theorem dX15_tryMachine_49 : decode cX15_tryMachine 49 = .ok (.if_icmp .ge 43, 3) := by decide +kernel
theorem dX15_tryMachine_52 : decode cX15_tryMachine 52 = .ok (.aload_n 0, 1) := by decide +kernel
theorem k_11_80 : Jvm.Cond.fieldLink "FinderHouseModel" (274 : Nat) "FinderHouseModel" "tries" "[I" ∈ tb := tb11 80 (by decide +kernel) (by decide +kernel)
theorem dX15_tryMachine_53 : decode cX15_tryMachine 53 = .ok (.getfield 274, 3) := by decide +kernel
theorem dX15_tryMachine_56 : decode cX15_tryMachine 56 = .ok (.iload_n 2, 1) := by decide +kernel
theorem dX15_tryMachine_57 : decode cX15_tryMachine 57 = .ok (.iload 4, 2) := by decide +kernel
theorem dX15_tryMachine_59 : decode cX15_tryMachine 59 = .ok (.iastore, 1) := by decide +kernel
theorem dX15_tryMachine_60 : decode cX15_tryMachine 60 = .ok (.aload_n 0, 1) := by decide +kernel
theorem dX15_tryMachine_61 : decode cX15_tryMachine 61 = .ok (.iload_n 1, 1) := by decide +kernel
theorem dX15_tryMachine_62 : decode cX15_tryMachine 62 = .ok (.iload_n 2, 1) := by decide +kernel
theorem dX15_tryMachine_63 : decode cX15_tryMachine 63 = .ok (.iconst 1, 1) := by decide +kernel
theorem dX15_tryMachine_64 : decode cX15_tryMachine 64 = .ok (.iadd, 1) := by decide +kernel
theorem dX15_tryMachine_65 : decode cX15_tryMachine 65 = .ok (.iload 4, 2) := by decide +kernel
theorem dX15_tryMachine_67 : decode cX15_tryMachine 67 = .ok (.iload_n 3, 1) := by decide +kernel
theorem dX15_tryMachine_68 : decode cX15_tryMachine 68 = .ok (.if_icmp .ne 9, 3) := by decide +kernel
theorem dX15_tryMachine_77 : decode cX15_tryMachine 77 = .ok (.iload_n 3, 1) := by decide +kernel
theorem k_15_224 : Jvm.Cond.code ({ cls := "FinderHouseModel", name := "tryMachine", desc := "(III)Z" } : Jvm.MethodName) prog_14_method_178_code (5 : Nat) (Option.some Jvm.ClassFile.FieldType.boolean) ∈ tb := tb15 224 (by decide +kernel) (by decide +kernel)
theorem k_15_221 : Jvm.Cond.methodLink "FinderHouseModel" (1153 : Nat) ({ cls := "FinderHouseModel", name := "tryMachine", desc := "(III)Z" } : Jvm.MethodName) ∈ tb := tb15 221 (by decide +kernel) (by decide +kernel)
theorem k_15_223 : Jvm.Cond.instanceMethod ({ cls := "FinderHouseModel", name := "tryMachine", desc := "(III)Z" } : Jvm.MethodName) ∈ tb := tb15 223 (by decide +kernel) (by decide +kernel)
theorem ks_232 : Jvm.Cond.selects "FinderHouseModel" ({ cls := "FinderHouseModel", name := "tryMachine", desc := "(III)Z" } : Jvm.MethodName) ({ cls := "FinderHouseModel", name := "tryMachine", desc := "(III)Z" } : Jvm.MethodName) ∈ tb := tbp 232 (by decide +kernel) (by decide +kernel)
theorem dX15_tryMachine_78 : decode cX15_tryMachine 78 = .ok (.invokevirtual 1153, 3) := by decide +kernel
theorem dX15_tryMachine_81 : decode cX15_tryMachine 81 = .ok (.ifCond .eq 5, 3) := by decide +kernel
theorem dX15_tryMachine_84 : decode cX15_tryMachine 84 = .ok (.iconst 1, 1) := by decide +kernel
theorem dX15_tryMachine_85 : decode cX15_tryMachine 85 = .ok (.ireturn, 1) := by decide +kernel
theorem dX15_machine_0 : decode cX15_machine 0 = .ok (.aload_n 0, 1) := by decide +kernel
theorem dX15_machine_1 : decode cX15_machine 1 = .ok (.invokevirtual 785, 3) := by decide +kernel
theorem dX15_machine_4 : decode cX15_machine 4 = .ok (.ifCond .eq 6, 3) := by decide +kernel
theorem dX15_machine_10 : decode cX15_machine 10 = .ok (.iconst 1, 1) := by decide +kernel
theorem dX15_machine_11 : decode cX15_machine 11 = .ok (.istore_n 1, 1) := by decide +kernel
theorem dX15_machine_12 : decode cX15_machine 12 = .ok (.iload_n 1, 1) := by decide +kernel
theorem dX15_machine_13 : decode cX15_machine 13 = .ok (.bipush 6, 2) := by decide +kernel
theorem dX15_machine_15 : decode cX15_machine 15 = .ok (.if_icmp .ge 117, 3) := by decide +kernel
theorem dX15_machine_18 : decode cX15_machine 18 = .ok (.iconst 0, 1) := by decide +kernel
theorem dX15_machine_19 : decode cX15_machine 19 = .ok (.istore_n 2, 1) := by decide +kernel
theorem dX15_machine_20 : decode cX15_machine 20 = .ok (.iload_n 2, 1) := by decide +kernel
theorem dX15_machine_21 : decode cX15_machine 21 = .ok (.bipush 10, 2) := by decide +kernel
theorem dX15_machine_23 : decode cX15_machine 23 = .ok (.if_icmp .ge 16, 3) := by decide +kernel
theorem dX15_machine_26 : decode cX15_machine 26 = .ok (.aload_n 0, 1) := by decide +kernel
theorem dX15_machine_27 : decode cX15_machine 27 = .ok (.getfield 274, 3) := by decide +kernel
theorem dX15_machine_30 : decode cX15_machine 30 = .ok (.iload_n 2, 1) := by decide +kernel
theorem dX15_machine_31 : decode cX15_machine 31 = .ok (.iconst (-1), 1) := by decide +kernel
theorem dX15_machine_32 : decode cX15_machine 32 = .ok (.iastore, 1) := by decide +kernel
theorem dX15_machine_33 : decode cX15_machine 33 = .ok (.iinc 2 1, 3) := by decide +kernel
theorem dX15_machine_36 : decode cX15_machine 36 = .ok (.goto (-16), 3) := by decide +kernel
theorem dX15_machine_39 : decode cX15_machine 39 = .ok (.aload_n 0, 1) := by decide +kernel
theorem dX15_machine_40 : decode cX15_machine 40 = .ok (.iload_n 1, 1) := by decide +kernel
theorem dX15_machine_41 : decode cX15_machine 41 = .ok (.iconst 0, 1) := by decide +kernel
theorem dX15_machine_42 : decode cX15_machine 42 = .ok (.iconst 1, 1) := by decide +kernel
theorem dX15_machine_43 : decode cX15_machine 43 = .ok (.invokevirtual 1153, 3) := by decide +kernel
theorem dX15_machine_46 : decode cX15_machine 46 = .ok (.ifCond .ne 6, 3) := by decide +kernel
theorem dX15_machine_52 : decode cX15_machine 52 = .ok (.aload_n 0, 1) := by decide +kernel
theorem dX15_machine_53 : decode cX15_machine 53 = .ok (.iload_n 1, 1) := by decide +kernel
theorem dX15_machine_54 : decode cX15_machine 54 = .ok (.invokevirtual 1150, 3) := by decide +kernel
theorem dX15_machine_57 : decode cX15_machine 57 = .ok (.istore_n 2, 1) := by decide +kernel
theorem dX15_machine_58 : decode cX15_machine 58 = .ok (.iconst 0, 1) := by decide +kernel
theorem dX15_machine_59 : decode cX15_machine 59 = .ok (.istore_n 3, 1) := by decide +kernel
theorem dX15_machine_60 : decode cX15_machine 60 = .ok (.iload_n 3, 1) := by decide +kernel
theorem dX15_machine_61 : decode cX15_machine 61 = .ok (.iconst 2, 1) := by decide +kernel
theorem dX15_machine_62 : decode cX15_machine 62 = .ok (.iload_n 1, 1) := by decide +kernel
theorem dX15_machine_63 : decode cX15_machine 63 = .ok (.imul, 1) := by decide +kernel
theorem dX15_machine_64 : decode cX15_machine 64 = .ok (.if_icmp .ge 21, 3) := by decide +kernel
theorem dX15_machine_67 : decode cX15_machine 67 = .ok (.aload_n 0, 1) := by decide +kernel
theorem k_11_83 : Jvm.Cond.fieldLink "FinderHouseModel" (280 : Nat) "FinderHouseModel" "machine" "[I" ∈ tb := tb11 83 (by decide +kernel) (by decide +kernel)
theorem dX15_machine_68 : decode cX15_machine 68 = .ok (.getfield 280, 3) := by decide +kernel
theorem dX15_machine_71 : decode cX15_machine 71 = .ok (.iload_n 3, 1) := by decide +kernel
theorem dX15_machine_72 : decode cX15_machine 72 = .ok (.aload_n 0, 1) := by decide +kernel
theorem dX15_machine_73 : decode cX15_machine 73 = .ok (.getfield 274, 3) := by decide +kernel
theorem dX15_machine_76 : decode cX15_machine 76 = .ok (.iload_n 3, 1) := by decide +kernel
theorem dX15_machine_77 : decode cX15_machine 77 = .ok (.iaload, 1) := by decide +kernel
theorem dX15_machine_78 : decode cX15_machine 78 = .ok (.iastore, 1) := by decide +kernel
theorem dX15_machine_79 : decode cX15_machine 79 = .ok (.iinc 3 1, 3) := by decide +kernel
theorem dX15_machine_82 : decode cX15_machine 82 = .ok (.goto (-22), 3) := by decide +kernel
theorem dX15_machine_85 : decode cX15_machine 85 = .ok (.iconst 0, 1) := by decide +kernel
theorem dX15_machine_86 : decode cX15_machine 86 = .ok (.istore_n 3, 1) := by decide +kernel
theorem dX15_machine_87 : decode cX15_machine 87 = .ok (.iload_n 3, 1) := by decide +kernel
theorem dX15_machine_88 : decode cX15_machine 88 = .ok (.iload_n 1, 1) := by decide +kernel
theorem dX15_machine_89 : decode cX15_machine 89 = .ok (.if_icmp .ge 30, 3) := by decide +kernel
theorem dX15_machine_92 : decode cX15_machine 92 = .ok (.aload_n 0, 1) := by decide +kernel
theorem k_11_84 : Jvm.Cond.fieldLink "FinderHouseModel" (283 : Nat) "FinderHouseModel" "good" "[Z" ∈ tb := tb11 84 (by decide +kernel) (by decide +kernel)
theorem dX15_machine_93 : decode cX15_machine 93 = .ok (.getfield 283, 3) := by decide +kernel
theorem dX15_machine_96 : decode cX15_machine 96 = .ok (.iload_n 3, 1) := by decide +kernel
theorem dX15_machine_97 : decode cX15_machine 97 = .ok (.aload_n 0, 1) := by decide +kernel
theorem dX15_machine_98 : decode cX15_machine 98 = .ok (.getfield 277, 3) := by decide +kernel
theorem dX15_machine_101 : decode cX15_machine 101 = .ok (.iload_n 3, 1) := by decide +kernel
theorem dX15_machine_102 : decode cX15_machine 102 = .ok (.iaload, 1) := by decide +kernel
theorem dX15_machine_103 : decode cX15_machine 103 = .ok (.iconst 1, 1) := by decide +kernel
theorem dX15_machine_104 : decode cX15_machine 104 = .ok (.if_icmp .ne 7, 3) := by decide +kernel
theorem dX15_machine_111 : decode cX15_machine 111 = .ok (.iconst 0, 1) := by decide +kernel
theorem dX15_machine_112 : decode cX15_machine 112 = .ok (.bastore, 1) := by decide +kernel
theorem dX15_machine_113 : decode cX15_machine 113 = .ok (.iinc 3 1, 3) := by decide +kernel
theorem dX15_machine_116 : decode cX15_machine 116 = .ok (.goto (-29), 3) := by decide +kernel
theorem dX15_machine_119 : decode cX15_machine 119 = .ok (.aload_n 0, 1) := by decide +kernel
theorem dX15_machine_120 : decode cX15_machine 120 = .ok (.iload_n 1, 1) := by decide +kernel
theorem dX15_machine_121 : decode cX15_machine 121 = .ok (.putfield 1156, 3) := by decide +kernel
theorem dX15_machine_124 : decode cX15_machine 124 = .ok (.iload_n 1, 1) := by decide +kernel
theorem dX15_machine_125 : decode cX15_machine 125 = .ok (.ireturn, 1) := by decide +kernel
theorem dX15_machine_107 : decode cX15_machine 107 = .ok (.iconst 1, 1) := by decide +kernel
theorem dX15_machine_108 : decode cX15_machine 108 = .ok (.goto 4, 3) := by decide +kernel
theorem dX15_feed_0 : decode cX15_feed 0 = .ok (.bipush 24, 2) := by decide +kernel
theorem dX15_feed_2 : decode cX15_feed 2 = .ok (.istore_n 2, 1) := by decide +kernel
theorem dX15_feed_3 : decode cX15_feed 3 = .ok (.iload_n 2, 1) := by decide +kernel
theorem dX15_feed_4 : decode cX15_feed 4 = .ok (.ifCond .lt 35, 3) := by decide +kernel
theorem dX15_feed_7 : decode cX15_feed 7 = .ok (.aload_n 0, 1) := by decide +kernel
theorem k_11_0 : Jvm.Cond.fieldLink "FinderHouseModel" (142 : Nat) "FinderHouseModel" "tape" "[I" ∈ tb := tb11 0 (by decide +kernel) (by decide +kernel)
theorem dX15_feed_8 : decode cX15_feed 8 = .ok (.getfield 142, 3) := by decide +kernel
theorem dX15_feed_11 : decode cX15_feed 11 = .ok (.aload_n 0, 1) := by decide +kernel
theorem dX15_feed_12 : decode cX15_feed 12 = .ok (.getfield 776, 3) := by decide +kernel
theorem dX15_feed_15 : decode cX15_feed 15 = .ok (.iload_n 1, 1) := by decide +kernel
theorem dX15_feed_16 : decode cX15_feed 16 = .ok (.iload_n 2, 1) := by decide +kernel
theorem dX15_feed_17 : decode cX15_feed 17 = .ok (.ishr, 1) := by decide +kernel
theorem dX15_feed_18 : decode cX15_feed 18 = .ok (.sipush 255, 3) := by decide +kernel
theorem dX15_feed_21 : decode cX15_feed 21 = .ok (.iand, 1) := by decide +kernel
theorem dX15_feed_22 : decode cX15_feed 22 = .ok (.iastore, 1) := by decide +kernel
theorem dX15_feed_23 : decode cX15_feed 23 = .ok (.aload_n 0, 1) := by decide +kernel
theorem dX15_feed_24 : decode cX15_feed 24 = .ok (.dup, 1) := by decide +kernel
theorem dX15_feed_25 : decode cX15_feed 25 = .ok (.getfield 776, 3) := by decide +kernel
theorem dX15_feed_28 : decode cX15_feed 28 = .ok (.iconst 1, 1) := by decide +kernel
theorem dX15_feed_29 : decode cX15_feed 29 = .ok (.iadd, 1) := by decide +kernel
theorem dX15_feed_30 : decode cX15_feed 30 = .ok (.putfield 776, 3) := by decide +kernel
theorem dX15_feed_33 : decode cX15_feed 33 = .ok (.iinc 2 (-8), 3) := by decide +kernel
theorem dX15_feed_36 : decode cX15_feed 36 = .ok (.goto (-33), 3) := by decide +kernel
theorem dX15_feed_39 : decode cX15_feed 39 = .ok (.return_, 1) := by decide +kernel
theorem dX15_feed__0 : decode cX15_feed_ 0 = .ok (.aload_n 0, 1) := by decide +kernel
theorem dX15_feed__1 : decode cX15_feed_ 1 = .ok (.aload_n 0, 1) := by decide +kernel
theorem dX15_feed__2 : decode cX15_feed_ 2 = .ok (.getfield 776, 3) := by decide +kernel
theorem dX15_feed__5 : decode cX15_feed_ 5 = .ok (.bipush 20, 2) := by decide +kernel
theorem dX15_feed__7 : decode cX15_feed_ 7 = .ok (.iadd, 1) := by decide +kernel
theorem dX15_feed__8 : decode cX15_feed_ 8 = .ok (.sipush 2000, 3) := by decide +kernel
theorem dX15_feed__11 : decode cX15_feed_ 11 = .ok (.if_icmp .le 7, 3) := by decide +kernel
theorem dX15_feed__18 : decode cX15_feed_ 18 = .ok (.iconst 0, 1) := by decide +kernel
theorem dX15_feed__19 : decode cX15_feed_ 19 = .ok (.putfield 773, 3) := by decide +kernel
theorem dX15_feed__22 : decode cX15_feed_ 22 = .ok (.aload_n 0, 1) := by decide +kernel
theorem dX15_feed__23 : decode cX15_feed_ 23 = .ok (.getfield 773, 3) := by decide +kernel
theorem dX15_feed__26 : decode cX15_feed_ 26 = .ok (.ifCond .le 5, 3) := by decide +kernel
theorem dX15_feed__31 : decode cX15_feed_ 31 = .ok (.aload_n 0, 1) := by decide +kernel
theorem dX15_feed__32 : decode cX15_feed_ 32 = .ok (.iload_n 1, 1) := by decide +kernel
theorem k_12_209 : Jvm.Cond.code ({ cls := "FinderHouseModel", name := "feed", desc := "(I)V" } : Jvm.MethodName) prog_14_method_90_code (3 : Nat) (Option.none : Option Jvm.ClassFile.FieldType) ∈ tb := tb12 209 (by decide +kernel) (by decide +kernel)
theorem k_12_206 : Jvm.Cond.methodLink "FinderHouseModel" (779 : Nat) ({ cls := "FinderHouseModel", name := "feed", desc := "(I)V" } : Jvm.MethodName) ∈ tb := tb12 206 (by decide +kernel) (by decide +kernel)
theorem k_12_208 : Jvm.Cond.instanceMethod ({ cls := "FinderHouseModel", name := "feed", desc := "(I)V" } : Jvm.MethodName) ∈ tb := tb12 208 (by decide +kernel) (by decide +kernel)
theorem ks_111 : Jvm.Cond.selects "FinderHouseModel" ({ cls := "FinderHouseModel", name := "feed", desc := "(I)V" } : Jvm.MethodName) ({ cls := "FinderHouseModel", name := "feed", desc := "(I)V" } : Jvm.MethodName) ∈ tb := tbp 111 (by decide +kernel) (by decide +kernel)
theorem dX15_feed__33 : decode cX15_feed_ 33 = .ok (.invokevirtual 779, 3) := by decide +kernel
theorem dX15_feed__36 : decode cX15_feed_ 36 = .ok (.aload_n 0, 1) := by decide +kernel
theorem dX15_feed__37 : decode cX15_feed_ 37 = .ok (.iload_n 2, 1) := by decide +kernel
theorem dX15_feed__38 : decode cX15_feed_ 38 = .ok (.invokevirtual 779, 3) := by decide +kernel
theorem dX15_feed__41 : decode cX15_feed_ 41 = .ok (.aload_n 0, 1) := by decide +kernel
theorem dX15_feed__42 : decode cX15_feed_ 42 = .ok (.iload_n 3, 1) := by decide +kernel
theorem dX15_feed__43 : decode cX15_feed_ 43 = .ok (.invokevirtual 779, 3) := by decide +kernel
theorem dX15_feed__46 : decode cX15_feed_ 46 = .ok (.aload_n 0, 1) := by decide +kernel
theorem dX15_feed__47 : decode cX15_feed_ 47 = .ok (.iload 4, 2) := by decide +kernel
theorem dX15_feed__49 : decode cX15_feed_ 49 = .ok (.invokevirtual 779, 3) := by decide +kernel
theorem dX15_feed__52 : decode cX15_feed_ 52 = .ok (.aload_n 0, 1) := by decide +kernel
theorem dX15_feed__53 : decode cX15_feed_ 53 = .ok (.iload 5, 2) := by decide +kernel
theorem dX15_feed__55 : decode cX15_feed_ 55 = .ok (.invokevirtual 779, 3) := by decide +kernel
theorem dX15_feed__58 : decode cX15_feed_ 58 = .ok (.aload_n 0, 1) := by decide +kernel
theorem dX15_feed__59 : decode cX15_feed_ 59 = .ok (.getfield 776, 3) := by decide +kernel
theorem dX15_feed__62 : decode cX15_feed_ 62 = .ok (.ireturn, 1) := by decide +kernel
set_option maxHeartbeats 4000000 in
set_option maxRecDepth 100000 in
theorem r_learn_ (l : Launch) (dC : Nat → ClassId) (dI : Nat → Nat → Nat) (sz : Nat) (q : Nat) (fs : List Value) (L_fs : fs.length = 163) (K25_fs : fs[25]? = some (.int 0)) : Met l yX15_learn_ (Cond.code yX15_learn_ cX15_learn_ 7 (some .int) :: tb) ({ frames := 1, cells := 0, slots := 0, locals := 25 }) (pcw [.ref q, .int 1] (dC, dI) [(q, .inr (15, fs))] [] sz) (va_Qi (fun (r : Int32) => (fun (_ : Unit) => r = -1)) (bw (dC, dI) (va_A [(q, .inr (15, fs))] sz) (fun (_ : Unit) => []) (fun (_ : Unit) => [])) (va_A [(q, .inr (15, fs))] sz)) 0 0 (va_A [(q, .inr (15, fs))] sz) := by
  refine Met.ofW (cc := cX15_learn_) (maxL := 7) (ret := (some .int)) (by decide) rfl ?_
  intro p e s m args below meth c s₁ B hml hv
  obtain ⟨rfl, hsz, hP, hK, hD0⟩ := hv
  have hx := B.exec
  have hb := B.bytes
  have hr := B.returns
  have hts := atoms_spec (ws := Cond.code yX15_learn_ cX15_learn_ 7 (some .int) :: tb) B.pre
  have ht : ∀ w ∈ tb, w.before _ s = true := fun w h => hts w (List.mem_cons_of_mem _ h)
  have hown : s.vm.findClass RX15 = some m.cls := findClass_of_methodNamed B.named
  have hlocks := B.notSynchronized
  subst hsz
  have hD := hD0.self (sz := s.heap.size)
  generalize hAe : va_A [(q, .inr (15, fs))] s.heap.size = A at hD ⊢
  have hA : ∀ q : Nat, s.heap.size ≤ q → A q := fun q h => by rw [← hAe]; exact Or.inr h
  have hS : va_S A s.heap s.heap [] := va_S.rf
  have hl := lv_entry ([.ref q, .int 1]) (n := 7) (Nat.le_of_ble_eq_true rfl)
  rw [lg_entry_eq]
  generalize (lg_sl ([.ref q, .int 1]) ++ List.replicate (7 - (lg_sl ([.ref q, .int 1])).length) Slot.unset).toArray = ls at hl ⊢
  have hl : lv_has ls 7 [(0, .ref q), (1, .int 1)] := hl
  have hP : va_P (dC, dI) cls [(q, .inr (15, fs))] s.heap := hP
  refine lv_lconst (v := 0) hx hb dX15_learn__0 (by decide) ?_
  refine lv_lstore_n (lv' := [(2, .long 0), (0, .ref q), (1, .int 1)]) hx hb dX15_learn__1 rfl hl (by decide) rfl (fun ls hl => ?_)
  refine lv_aload_n hx hb dX15_learn__2 rfl (lv_at hl 1 rfl) ?_
  refine va_get (D := (dC, dI)) (ci := 15) (v := .int 0) (C := RX15) (T := TX15) (N := 163) hx hb ht uX15 hown hK hP 0 rfl rfl 25 (by decide) (ht _ k_10_213) (fun _ h9 => h9) K25_fs dX15_learn__3 ?_
  refine lv_i2l (v := 0) hx hb dX15_learn__6 (by decide) ?_
  refine lv_lconst (v := 1) hx hb dX15_learn__7 (by decide) ?_
  refine lv_ldc2 (v := 8) hx hb hown (ht _ k_15_21) dX15_learn__8 ?_
  refine ca_i (wr := [(q, .inr (15, fs))]) (va_runS (As := [.long 0, .long 1, .long 8]) (rest := []) ⟨hx, hb, hml, hown, ht⟩ (r_in l dC dI s.heap.size 0 1 8  ) (cwS 3 ht (gdS k_12_216 k_12_214 k_12_215 k_1_17) rfl rfl rfl (by decide +kernel) ⟨Nat.le_of_ble_eq_true rfl, Nat.le_of_ble_eq_true rfl⟩) ⟨pcw_blind, pcw_at hP hD hK [] [] (by decide) rfl rfl rfl⟩ rfl rfl hl.1 rfl (lv_room (Nat.le_of_ble_eq_true rfl)) dX15_learn__11 ⟨Nat.le_of_ble_eq_true rfl, Nat.le_of_ble_eq_true rfl⟩) hP hD hK hS hA [] [0] rfl rfl (by decide) (by decide) (fun r1 u H locs w2 hK hP hD hS => ?_)
  have hK : va_K (dC, dI) cls [] s := hK
  have hP : va_P (dC, dI) cls [(q, .inr (15, fs))] H := hP
  have hD : va_D A [(q, .inr (15, fs))] := hD
  rcases w2 with ⟨rfl, n3⟩ | ⟨rfl, n3⟩
  · exact absurd n3 (by decide)
  refine lv_istore (lv' := [(4, .int 0), (2, .long 0), (0, .ref q), (1, .int 1)]) hx hb dX15_learn__14 hl (by decide) rfl (fun ls hl => ?_)
  refine lv_iconst (v := 0) hx hb dX15_learn__16 (by decide) ?_
  refine lv_istore (lv' := [(5, .int 0), (4, .int 0), (2, .long 0), (0, .ref q), (1, .int 1)]) hx hb dX15_learn__17 hl (by decide) rfl (fun ls hl => ?_)
  refine lv_iload hx hb dX15_learn__19 (lv_at hl 0 rfl) ?_
  refine lv_aload_n hx hb dX15_learn__21 rfl (lv_at hl 3 rfl) ?_
  refine va_get (D := (dC, dI)) (ci := 15) (v := .int 0) (C := RX15) (T := TX15) (N := 163) hx hb ht uX15 hown hK hP 0 rfl rfl 25 (by decide) (ht _ k_10_213) (fun _ h9 => h9) K25_fs dX15_learn__22 ?_
  refine lv_icmp_ge (tgt := 89) hx hb dX15_learn__25 (by decide) (fun _ => ?_) (fun c0 => absurd c0 (by decide))
  refine lv_iload hx hb dX15_learn__89 (lv_at hl 1 rfl) ?_
  refine lv_if_eq (tgt := 109) hx hb dX15_learn__91 (by decide) (fun _ => ?_) (fun c0 => absurd c0 (by decide))
  refine lv_iconst (v := (-1)) hx hb dX15_learn__109 (by decide) ?_
  exact W.iret (v := (-1)) hx hb hr (fun t ht9 hW => ⟨⟨(-1), (), rfl, rfl, by rw [ht9]; exact hP.sub [] rfl, va_K.moved hW.alike (hK.sub [] rfl), hD.sub [] (by decide) rfl⟩, hS.F ht9⟩) hS.2.2 dX15_learn__110
set_option maxHeartbeats 4000000 in
set_option maxRecDepth 100000 in
theorem r_takeTape_learn (l : Launch) (dC : Nat → ClassId) (dI : Nat → Nat → Nat) (sz : Nat) (q : Nat) (fs : List Value) (L_fs : fs.length = 163) (K53_fs : fs[53]? = some (.int 0)) : Met l yX15_takeTape (Cond.code yX15_takeTape cX15_takeTape 2 none :: tb) ({ frames := 0, cells := 0, slots := 0, locals := 0 }) (pcw [.ref q] (dC, dI) [(q, .inr (15, fs))] [] sz) (va_Qv (fun (fs1 : List Value) => (True) ∧ (fs1.length = 163) ∧ (fs1[25]? = some (.int 0)) ∧ (fs1[51]? = some (.int 0)) ∧ (fs1[53]? = some (.int 0))) (bw (dC, dI) (va_A [(q, .inr (15, fs))] sz) (fun (fs1 : List Value) => [(q, .inr (15, fs1))]) (fun (fs1 : List Value) => [])) (va_A [(q, .inr (15, fs))] sz)) 0 0 (va_A [(q, .inr (15, fs))] sz) := by
  refine Met.ofW (cc := cX15_takeTape) (maxL := 2) (ret := none) (by decide) rfl ?_
  intro p e s m args below meth c s₁ B hml hv
  obtain ⟨rfl, hsz, hP, hK, hD0⟩ := hv
  have hx := B.exec
  have hb := B.bytes
  have hr := B.returns
  have hts := atoms_spec (ws := Cond.code yX15_takeTape cX15_takeTape 2 none :: tb) B.pre
  have ht : ∀ w ∈ tb, w.before _ s = true := fun w h => hts w (List.mem_cons_of_mem _ h)
  have hown : s.vm.findClass RX15 = some m.cls := findClass_of_methodNamed B.named
  have hlocks := B.notSynchronized
  subst hsz
  have hD := hD0.self (sz := s.heap.size)
  generalize hAe : va_A [(q, .inr (15, fs))] s.heap.size = A at hD ⊢
  have hA : ∀ q : Nat, s.heap.size ≤ q → A q := fun q h => by rw [← hAe]; exact Or.inr h
  have hS : va_S A s.heap s.heap [] := va_S.rf
  have hl := lv_entry ([.ref q]) (n := 2) (Nat.le_of_ble_eq_true rfl)
  rw [lg_entry_eq]
  generalize (lg_sl ([.ref q]) ++ List.replicate (2 - (lg_sl ([.ref q])).length) Slot.unset).toArray = ls at hl ⊢
  have hl : lv_has ls 2 [(0, .ref q)] := hl
  have hP : va_P (dC, dI) cls [(q, .inr (15, fs))] s.heap := hP
  refine lv_aload_n hx hb dX15_takeTape_0 rfl (lv_at hl 0 rfl) ?_
  refine lv_iconst (v := 0) hx hb dX15_takeTape_1 (by decide) ?_
  refine va_put (D := (dC, dI)) (ci := 15) (v := .int 0) (ty := .int) (C := RX15) (T := TX15) (N := 163) hx hb ht uX15 tyX15 tkX15 nmX15 hown hK hP hD hS 0 rfl rfl 51 (by decide) (ht _ k_10_239) (fun _ h9 => h9) rfl (by decide +kernel) rfl rfl (by rw [L_fs]; decide) dX15_takeTape_2 (fun H locs hP hD hS => ?_)
  obtain ⟨F1, eF1⟩ : ∃ g : List Value, g = fs.set 51 (.int 0) := ⟨_, rfl⟩
  rw [← eF1] at hP hD
  have K53_F1 : F1[53]? = some (.int 0) := by rw [eF1, List.getElem?_set_ne (by decide)]; exact K53_fs
  have K51_F1 : F1[51]? = some (.int 0) := by rw [eF1]; exact List.getElem?_set_self (by rw [L_fs]; decide)
  have L_F1 : F1.length = 163 := by rw [eF1, List.length_set]; exact L_fs
  have hP : va_P (dC, dI) cls [(q, .inr (15, F1))] H := hP
  have hD : va_D A [(q, .inr (15, F1))] := hD
  refine lv_iconst (v := 0) hx hb dX15_takeTape_5 (by decide) ?_
  refine lv_istore_n (lv' := [(1, .int 0), (0, .ref q)]) hx hb dX15_takeTape_6 rfl hl (by decide) rfl (fun ls hl => ?_)
  refine lv_iload_n hx hb dX15_takeTape_7 rfl (lv_at hl 0 rfl) ?_
  refine lv_aload_n hx hb dX15_takeTape_8 rfl (lv_at hl 1 rfl) ?_
  refine va_get (D := (dC, dI)) (ci := 15) (v := .int 0) (C := RX15) (T := TX15) (N := 163) hx hb ht uX15 hown hK hP 0 rfl rfl 53 (by decide) (ht _ k_11_1) (fun _ h9 => h9) K53_F1 dX15_takeTape_9 ?_
  refine lv_icmp_ge (tgt := 33) hx hb dX15_takeTape_12 (by decide) (fun _ => ?_) (fun c0 => absurd c0 (by decide))
  refine lv_aload_n hx hb dX15_takeTape_33 rfl (lv_at hl 1 rfl) ?_
  refine lv_aload_n hx hb dX15_takeTape_34 rfl (lv_at hl 1 rfl) ?_
  refine va_get (D := (dC, dI)) (ci := 15) (v := .int 0) (C := RX15) (T := TX15) (N := 163) hx hb ht uX15 hown hK hP 0 rfl rfl 53 (by decide) (ht _ k_11_1) (fun _ h9 => h9) K53_F1 dX15_takeTape_35 ?_
  refine va_put (D := (dC, dI)) (ci := 15) (v := .int 0) (ty := .int) (C := RX15) (T := TX15) (N := 163) hx hb ht uX15 tyX15 tkX15 nmX15 hown hK hP hD hS 0 rfl rfl 25 (by decide) (ht _ k_10_213) (fun _ h9 => h9) rfl (by decide +kernel) rfl rfl (by rw [L_F1]; decide) dX15_takeTape_38 (fun H locs hP hD hS => ?_)
  obtain ⟨F2, eF2⟩ : ∃ g : List Value, g = F1.set 25 (.int 0) := ⟨_, rfl⟩
  rw [← eF2] at hP hD
  have K51_F2 : F2[51]? = some (.int 0) := by rw [eF2, List.getElem?_set_ne (by decide)]; exact K51_F1
  have K53_F2 : F2[53]? = some (.int 0) := by rw [eF2, List.getElem?_set_ne (by decide)]; exact K53_F1
  have K25_F2 : F2[25]? = some (.int 0) := by rw [eF2]; exact List.getElem?_set_self (by rw [L_F1]; decide)
  have L_F2 : F2.length = 163 := by rw [eF2, List.length_set]; exact L_F1
  have hP : va_P (dC, dI) cls [(q, .inr (15, F2))] H := hP
  have hD : va_D A [(q, .inr (15, F2))] := hD
  refine lv_aload_n hx hb dX15_takeTape_41 rfl (lv_at hl 1 rfl) ?_
  refine lv_iconst (v := 0) hx hb dX15_takeTape_42 (by decide) ?_
  refine va_put (D := (dC, dI)) (ci := 15) (v := .int 0) (ty := .int) (C := RX15) (T := TX15) (N := 163) hx hb ht uX15 tyX15 tkX15 nmX15 hown hK hP hD hS 0 rfl rfl 53 (by decide) (ht _ k_11_1) (fun _ h9 => h9) rfl (by decide +kernel) rfl rfl (by rw [L_F2]; decide) dX15_takeTape_43 (fun H locs hP hD hS => ?_)
  obtain ⟨F3, eF3⟩ : ∃ g : List Value, g = F2.set 53 (.int 0) := ⟨_, rfl⟩
  rw [← eF3] at hP hD
  have K25_F3 : F3[25]? = some (.int 0) := by rw [eF3, List.getElem?_set_ne (by decide)]; exact K25_F2
  have K51_F3 : F3[51]? = some (.int 0) := by rw [eF3, List.getElem?_set_ne (by decide)]; exact K51_F2
  have K53_F3 : F3[53]? = some (.int 0) := by rw [eF3]; exact List.getElem?_set_self (by rw [L_F2]; decide)
  have L_F3 : F3.length = 163 := by rw [eF3, List.length_set]; exact L_F2
  have hP : va_P (dC, dI) cls [(q, .inr (15, F3))] H := hP
  have hD : va_D A [(q, .inr (15, F3))] := hD
  exact W.vret hx hb hr (fun t ht9 hW => ⟨⟨(F3), rfl, ⟨trivial, L_F3, K25_F3, K51_F3, K53_F3⟩, by rw [ht9]; exact hP.sub [0] rfl, va_K.moved hW.alike (hK.sub [] rfl), hD.sub [0] (by decide) rfl⟩, hS.F ht9⟩) hS.2.2 dX15_takeTape_46
set_option maxHeartbeats 4000000 in
set_option maxRecDepth 100000 in
theorem r_isDown_learn (l : Launch) (dC : Nat → ClassId) (dI : Nat → Nat → Nat) (sz : Nat) (q : Nat) (fs : List Value) (L_fs : fs.length = 163) (K53_fs : fs[53]? = some (.int 0)) (K54_fs : fs[54]? = some (.int 0)) : Met l yX15_isDown (Cond.code yX15_isDown cX15_isDown 1 (some .boolean) :: tb) ({ frames := 0, cells := 0, slots := 0, locals := 0 }) (pcw [.ref q] (dC, dI) [(q, .inr (15, fs))] [] sz) (va_Qi (fun (r : Int32) => (fun (fs1 : List Value) => (r = 0) ∧ (fs1.length = 163) ∧ (fs1[51]? = some (.int 0)) ∧ (fs1[53]? = some (.int 0)) ∧ (fs1[54]? = some (.int 0)))) (bw (dC, dI) (va_A [(q, .inr (15, fs))] sz) (fun (fs1 : List Value) => [(q, .inr (15, fs1))]) (fun (fs1 : List Value) => [])) (va_A [(q, .inr (15, fs))] sz)) 0 0 (va_A [(q, .inr (15, fs))] sz) := by
  refine Met.ofW (cc := cX15_isDown) (maxL := 1) (ret := (some .boolean)) (by decide) rfl ?_
  intro p e s m args below meth c s₁ B hml hv
  obtain ⟨rfl, hsz, hP, hK, hD0⟩ := hv
  have hx := B.exec
  have hb := B.bytes
  have hr := B.returns
  have hts := atoms_spec (ws := Cond.code yX15_isDown cX15_isDown 1 (some .boolean) :: tb) B.pre
  have ht : ∀ w ∈ tb, w.before _ s = true := fun w h => hts w (List.mem_cons_of_mem _ h)
  have hown : s.vm.findClass RX15 = some m.cls := findClass_of_methodNamed B.named
  have hlocks := B.notSynchronized
  subst hsz
  have hD := hD0.self (sz := s.heap.size)
  generalize hAe : va_A [(q, .inr (15, fs))] s.heap.size = A at hD ⊢
  have hA : ∀ q : Nat, s.heap.size ≤ q → A q := fun q h => by rw [← hAe]; exact Or.inr h
  have hS : va_S A s.heap s.heap [] := va_S.rf
  have hl := lv_entry ([.ref q]) (n := 1) (Nat.le_of_ble_eq_true rfl)
  rw [lg_entry_eq]
  generalize (lg_sl ([.ref q]) ++ List.replicate (1 - (lg_sl ([.ref q])).length) Slot.unset).toArray = ls at hl ⊢
  have hl : lv_has ls 1 [(0, .ref q)] := hl
  have hP : va_P (dC, dI) cls [(q, .inr (15, fs))] s.heap := hP
  refine lv_aload_n hx hb dX15_isDown_0 rfl (lv_at hl 0 rfl) ?_
  refine lv_iconst (v := 0) hx hb dX15_isDown_1 (by decide) ?_
  refine va_put (D := (dC, dI)) (ci := 15) (v := .int 0) (ty := .int) (C := RX15) (T := TX15) (N := 163) hx hb ht uX15 tyX15 tkX15 nmX15 hown hK hP hD hS 0 rfl rfl 51 (by decide) (ht _ k_10_239) (fun _ h9 => h9) rfl (by decide +kernel) rfl rfl (by rw [L_fs]; decide) dX15_isDown_2 (fun H locs hP hD hS => ?_)
  obtain ⟨F1, eF1⟩ : ∃ g : List Value, g = fs.set 51 (.int 0) := ⟨_, rfl⟩
  rw [← eF1] at hP hD
  have K53_F1 : F1[53]? = some (.int 0) := by rw [eF1, List.getElem?_set_ne (by decide)]; exact K53_fs
  have K54_F1 : F1[54]? = some (.int 0) := by rw [eF1, List.getElem?_set_ne (by decide)]; exact K54_fs
  have K51_F1 : F1[51]? = some (.int 0) := by rw [eF1]; exact List.getElem?_set_self (by rw [L_fs]; decide)
  have L_F1 : F1.length = 163 := by rw [eF1, List.length_set]; exact L_fs
  have hP : va_P (dC, dI) cls [(q, .inr (15, F1))] H := hP
  have hD : va_D A [(q, .inr (15, F1))] := hD
  refine lv_aload_n hx hb dX15_isDown_5 rfl (lv_at hl 0 rfl) ?_
  refine va_get (D := (dC, dI)) (ci := 15) (v := .int 0) (C := RX15) (T := TX15) (N := 163) hx hb ht uX15 hown hK hP 0 rfl rfl 54 (by decide) (ht _ k_11_2) (fun _ h9 => h9) K54_F1 dX15_isDown_6 ?_
  exact W.zret (v := 0) hx hb hr rfl (fun t ht9 hW => ⟨⟨0, (F1), rfl, ⟨rfl, L_F1, K51_F1, K53_F1, K54_F1⟩, by rw [ht9]; exact hP.sub [0] rfl, va_K.moved hW.alike (hK.sub [] rfl), hD.sub [0] (by decide) rfl⟩, hS.F ht9⟩) hS.2.2 dX15_isDown_9
set_option maxHeartbeats 4000000 in
set_option maxRecDepth 100000 in
theorem r_learn (l : Launch) (dC : Nat → ClassId) (dI : Nat → Nat → Nat) (sz : Nat) (q : Nat) (fs : List Value) (L_fs : fs.length = 163) (K53_fs : fs[53]? = some (.int 0)) (K54_fs : fs[54]? = some (.int 0)) : Met l yX15_learn (Cond.code yX15_learn cX15_learn 1 (some .int) :: tb) ({ frames := 2, cells := 0, slots := 0, locals := 51 }) (pcw [.ref q] (dC, dI) [(q, .inr (15, fs))] [] sz) (va_Qi (fun (r : Int32) => (fun (_ : Unit) => r = -1)) (bw (dC, dI) (va_A [(q, .inr (15, fs))] sz) (fun (_ : Unit) => []) (fun (_ : Unit) => [])) (va_A [(q, .inr (15, fs))] sz)) 0 0 (va_A [(q, .inr (15, fs))] sz) := by
  refine Met.ofW (cc := cX15_learn) (maxL := 1) (ret := (some .int)) (by decide) rfl ?_
  intro p e s m args below meth c s₁ B hml hv
  obtain ⟨rfl, hsz, hP, hK, hD0⟩ := hv
  have hx := B.exec
  have hb := B.bytes
  have hr := B.returns
  have hts := atoms_spec (ws := Cond.code yX15_learn cX15_learn 1 (some .int) :: tb) B.pre
  have ht : ∀ w ∈ tb, w.before _ s = true := fun w h => hts w (List.mem_cons_of_mem _ h)
  have hown : s.vm.findClass RX15 = some m.cls := findClass_of_methodNamed B.named
  have hlocks := B.notSynchronized
  subst hsz
  have hD := hD0.self (sz := s.heap.size)
  generalize hAe : va_A [(q, .inr (15, fs))] s.heap.size = A at hD ⊢
  have hA : ∀ q : Nat, s.heap.size ≤ q → A q := fun q h => by rw [← hAe]; exact Or.inr h
  have hS : va_S A s.heap s.heap [] := va_S.rf
  have hl := lv_entry ([.ref q]) (n := 1) (Nat.le_of_ble_eq_true rfl)
  rw [lg_entry_eq]
  generalize (lg_sl ([.ref q]) ++ List.replicate (1 - (lg_sl ([.ref q])).length) Slot.unset).toArray = ls at hl ⊢
  have hl : lv_has ls 1 [(0, .ref q)] := hl
  have hP : va_P (dC, dI) cls [(q, .inr (15, fs))] s.heap := hP
  refine lv_aload_n hx hb dX15_learn_0 rfl (lv_at hl 0 rfl) ?_
  refine ca_i (wr := []) (va_runV (As := []) (rest := []) ⟨hx, hb, hml, hown, ht⟩ (r_isDown_learn l dC dI s.heap.size q fs L_fs K53_fs K54_fs ) (cwV 0 ht (gdV k_12_228 k_12_225 k_12_227 ks_112 k_1_17) rfl rfl rfl (by decide +kernel) ⟨Nat.le_of_ble_eq_true rfl, Nat.le_of_ble_eq_true rfl⟩) ⟨pcw_blind, va_recv hK hP (ci := 15) (q0 := 0) rfl rfl, pcw_at hP hD hK [0] [] (by decide) rfl rfl rfl⟩ rfl rfl hl.1 rfl (lv_room (Nat.le_of_ble_eq_true rfl)) dX15_learn_1 ⟨Nat.le_of_ble_eq_true rfl, Nat.le_of_ble_eq_true rfl⟩) hP hD hK hS hA [0] [] rfl rfl (by decide) (by decide) (fun r1 u H locs w2 hK hP hD hS => ?_)
  obtain ⟨F3, rfl⟩ : ∃ z, z = u := ⟨_, rfl⟩
  have hK : va_K (dC, dI) cls [] s := hK
  have hP : va_P (dC, dI) cls [(q, .inr (15, F3))] H := hP
  have hD : va_D A [(q, .inr (15, F3))] := hD
  obtain ⟨w2, K4, K5, K6, K7⟩ := w2
  obtain rfl : r1 = 0 := w2
  refine lv_if_eq (tgt := 10) hx hb dX15_learn_4 (by decide) (fun _ => ?_) (fun c0 => absurd c0 (by decide))
  refine lv_aload_n hx hb dX15_learn_10 rfl (lv_at hl 0 rfl) ?_
  refine ca_v (wr := []) (va_runV (As := []) (rest := []) ⟨hx, hb, hml, hown, ht⟩ (r_takeTape_learn l dC dI H.size q F3 K4 K6 ) (cwV 0 ht (gdV k_12_237 k_12_234 k_12_236 ks_113 k_1_17) rfl rfl rfl (by decide +kernel) ⟨Nat.le_of_ble_eq_true rfl, Nat.le_of_ble_eq_true rfl⟩) ⟨pcw_blind, va_recv hK hP (ci := 15) (q0 := 0) rfl rfl, pcw_at hP hD hK [0] [] (by decide) rfl rfl rfl⟩ rfl rfl hl.1 rfl (lv_room (Nat.le_of_ble_eq_true rfl)) dX15_learn_11 ⟨Nat.le_of_ble_eq_true rfl, Nat.le_of_ble_eq_true rfl⟩) hP hD hK hS hA [0] [] rfl rfl (by decide) (by decide) (fun u H locs w9 hK hP hD hS => ?_)
  obtain ⟨F10, rfl⟩ : ∃ z, z = u := ⟨_, rfl⟩
  have hK : va_K (dC, dI) cls [] s := hK
  have hP : va_P (dC, dI) cls [(q, .inr (15, F10))] H := hP
  have hD : va_D A [(q, .inr (15, F10))] := hD
  obtain ⟨w9, K11, K12, K13, K14⟩ := w9
  refine lv_aload_n hx hb dX15_learn_14 rfl (lv_at hl 0 rfl) ?_
  refine lv_iconst (v := 1) hx hb dX15_learn_15 (by decide) ?_
  refine ca_i (wr := []) (va_runV (As := [.int 1]) (rest := []) ⟨hx, hb, hml, hown, ht⟩ (r_learn_ l dC dI H.size q F10 K11 K12 ) (cwV 1 ht (gdV k_15_20 k_15_17 k_15_19 ks_200 k_1_17) rfl rfl rfl (by decide +kernel) ⟨Nat.le_of_ble_eq_true rfl, Nat.le_of_ble_eq_true rfl⟩) ⟨pcw_blind, va_recv hK hP (ci := 15) (q0 := 0) rfl rfl, pcw_at hP hD hK [0] [] (by decide) rfl rfl rfl⟩ rfl rfl hl.1 rfl (lv_room (Nat.le_of_ble_eq_true rfl)) dX15_learn_16 ⟨Nat.le_of_ble_eq_true rfl, Nat.le_of_ble_eq_true rfl⟩) hP hD hK hS hA [0] [] rfl rfl (by decide) (by decide) (fun r15 u H locs w16 hK hP hD hS => ?_)
  have hK : va_K (dC, dI) cls [] s := hK
  have hP : va_P (dC, dI) cls [] H := hP
  have hD : va_D A [] := hD
  obtain rfl : r15 = (-1) := w16
  exact W.iret (v := (-1)) hx hb hr (fun t ht9 hW => ⟨⟨(-1), (), rfl, rfl, by rw [ht9]; exact hP.sub [] rfl, va_K.moved hW.alike (hK.sub [] rfl), hD.sub [] (by decide) rfl⟩, hS.F ht9⟩) hS.2.2 dX15_learn_19
set_option maxHeartbeats 4000000 in
set_option maxRecDepth 100000 in
theorem r_example_ (l : Launch) (dC : Nat → ClassId) (dI : Nat → Nat → Nat) (sz : Nat) (q : Nat) (fs : List Value) (p0 : Int32) (L_fs : fs.length = 163) (K25_fs : fs[25]? = some (.int 0)) : Met l yX15_example_ (Cond.code yX15_example_ cX15_example_ 7 (some .int) :: tb) ({ frames := 1, cells := 0, slots := 0, locals := 25 }) (pcw [.ref q, .int 0, .int p0, .int 1] (dC, dI) [(q, .inr (15, fs))] [] sz) (va_Qi (fun (r : Int32) => (fun (_ : Unit) => r = -1)) (bw (dC, dI) (va_A [(q, .inr (15, fs))] sz) (fun (_ : Unit) => []) (fun (_ : Unit) => [])) (va_A [(q, .inr (15, fs))] sz)) 0 0 (va_A [(q, .inr (15, fs))] sz) := by
  refine Met.ofW (cc := cX15_example_) (maxL := 7) (ret := (some .int)) (by decide) rfl ?_
  intro p e s m args below meth c s₁ B hml hv
  obtain ⟨rfl, hsz, hP, hK, hD0⟩ := hv
  have hx := B.exec
  have hb := B.bytes
  have hr := B.returns
  have hts := atoms_spec (ws := Cond.code yX15_example_ cX15_example_ 7 (some .int) :: tb) B.pre
  have ht : ∀ w ∈ tb, w.before _ s = true := fun w h => hts w (List.mem_cons_of_mem _ h)
  have hown : s.vm.findClass RX15 = some m.cls := findClass_of_methodNamed B.named
  have hlocks := B.notSynchronized
  subst hsz
  have hD := hD0.self (sz := s.heap.size)
  generalize hAe : va_A [(q, .inr (15, fs))] s.heap.size = A at hD ⊢
  have hA : ∀ q : Nat, s.heap.size ≤ q → A q := fun q h => by rw [← hAe]; exact Or.inr h
  have hS : va_S A s.heap s.heap [] := va_S.rf
  have hl := lv_entry ([.ref q, .int 0, .int p0, .int 1]) (n := 7) (Nat.le_of_ble_eq_true rfl)
  rw [lg_entry_eq]
  generalize (lg_sl ([.ref q, .int 0, .int p0, .int 1]) ++ List.replicate (7 - (lg_sl ([.ref q, .int 0, .int p0, .int 1])).length) Slot.unset).toArray = ls at hl ⊢
  have hl : lv_has ls 7 [(0, .ref q), (1, .int 0), (2, .int p0), (3, .int 1)] := hl
  have hP : va_P (dC, dI) cls [(q, .inr (15, fs))] s.heap := hP
  refine lv_aload_n hx hb dX15_example__0 rfl (lv_at hl 0 rfl) ?_
  refine va_get (D := (dC, dI)) (ci := 15) (v := .int 0) (C := RX15) (T := TX15) (N := 163) hx hb ht uX15 hown hK hP 0 rfl rfl 25 (by decide) (ht _ k_10_213) (fun _ h9 => h9) K25_fs dX15_example__1 ?_
  refine lv_iload_n hx hb dX15_example__4 rfl (lv_at hl 1 rfl) ?_
  refine lv_isub hx hb dX15_example__5 ?_
  refine tk_i (y := 0) (by decide) ?_
  refine lv_istore (lv' := [(4, .int 0), (0, .ref q), (1, .int 0), (2, .int p0), (3, .int 1)]) hx hb dX15_example__6 hl (by decide) rfl (fun ls hl => ?_)
  refine lv_iload_n hx hb dX15_example__8 rfl (lv_at hl 3 rfl) ?_
  refine lv_i2l hx hb dX15_example__9 rfl ?_
  refine lv_topl (fun x1 ex1 => ?_)
  refine lv_lconst (v := 0) hx hb dX15_example__10 (by decide) ?_
  refine lv_ldc2 (v := 10) hx hb hown (ht _ k_15_122) dX15_example__11 ?_
  refine ca_i (wr := [(q, .inr (15, fs))]) (va_runS (As := [.long x1, .long 0, .long 10]) (rest := []) ⟨hx, hb, hml, hown, ht⟩ (r_in l dC dI s.heap.size x1 0 10  ) (cwS 3 ht (gdS k_12_216 k_12_214 k_12_215 k_1_17) rfl rfl rfl (by decide +kernel) ⟨Nat.le_of_ble_eq_true rfl, Nat.le_of_ble_eq_true rfl⟩) ⟨pcw_blind, pcw_at hP hD hK [] [] (by decide) rfl rfl rfl⟩ rfl rfl hl.1 rfl (lv_room (Nat.le_of_ble_eq_true rfl)) dX15_example__14 ⟨Nat.le_of_ble_eq_true rfl, Nat.le_of_ble_eq_true rfl⟩) hP hD hK hS hA [] [0] rfl rfl (by decide) (by decide) (fun r2 u H locs w3 hK hP hD hS => ?_)
  have hK : va_K (dC, dI) cls [] s := hK
  have hP : va_P (dC, dI) cls [(q, .inr (15, fs))] H := hP
  have hD : va_D A [(q, .inr (15, fs))] := hD
  rcases w3 with ⟨rfl, n4⟩ | ⟨rfl, n4⟩
  · obtain ⟨n4a, n4b⟩ := in_yes (p := p0) (lo := 0) (hi := 10) ex1 (by decide) (by decide) n4
    refine lv_if_eq (tgt := 53) hx hb dX15_example__17 (by decide) (fun c0 => absurd c0 (by decide)) (fun _ => ?_)
    refine lv_iload_n hx hb dX15_example__20 rfl (lv_at hl 3 rfl) ?_
    refine lv_iload hx hb dX15_example__21 (lv_at hl 0 rfl) ?_
    refine lv_icmp_gt (tgt := 53) hx hb dX15_example__23 (by decide) (fun b5 => ?_) (fun b5 => ?_)
    · refine lv_iconst (v := (-1)) hx hb dX15_example__53 (by decide) ?_
      exact W.iret (v := (-1)) hx hb hr (fun t ht9 hW => ⟨⟨(-1), (), rfl, rfl, by rw [ht9]; exact hP.sub [] rfl, va_K.moved hW.alike (hK.sub [] rfl), hD.sub [] (by decide) rfl⟩, hS.F ht9⟩) hS.2.2 dX15_example__54
    · obtain rfl : p0 = 0 := (by have z0 := Int32.le_iff_toInt_le.mp (Int32.not_lt.mp n4a); have z1 := Int32.le_iff_toInt_le.mp n4b; have z2 := Int32.le_iff_toInt_le.mp (Int32.not_lt.mp b5); have y0 : (0 : Int32).toInt = 0 := (by decide); have y1 : (10 : Int32).toInt = 10 := (by decide); exact Int32.toInt_inj.mp (by omega))
      refine lv_iload hx hb dX15_example__26 (lv_at hl 0 rfl) ?_
      refine lv_iload_n hx hb dX15_example__28 rfl (lv_at hl 3 rfl) ?_
      refine lv_isub hx hb dX15_example__29 ?_
      refine tk_i (y := 0) (by decide) ?_
      refine lv_i2l (v := 0) hx hb dX15_example__30 (by decide) ?_
      refine lv_lconst (v := 1) hx hb dX15_example__31 (by decide) ?_
      refine lv_ldc2 (v := 10) hx hb hown (ht _ k_15_122) dX15_example__32 ?_
      refine ca_i (wr := [(q, .inr (15, fs))]) (va_runS (As := [.long 0, .long 1, .long 10]) (rest := []) ⟨hx, hb, hml, hown, ht⟩ (r_in l dC dI H.size 0 1 10  ) (cwS 3 ht (gdS k_12_216 k_12_214 k_12_215 k_1_17) rfl rfl rfl (by decide +kernel) ⟨Nat.le_of_ble_eq_true rfl, Nat.le_of_ble_eq_true rfl⟩) ⟨pcw_blind, pcw_at hP hD hK [] [] (by decide) rfl rfl rfl⟩ rfl rfl hl.1 rfl (lv_room (Nat.le_of_ble_eq_true rfl)) dX15_example__35 ⟨Nat.le_of_ble_eq_true rfl, Nat.le_of_ble_eq_true rfl⟩) hP hD hK hS hA [] [0] rfl rfl (by decide) (by decide) (fun r6 u H locs w7 hK hP hD hS => ?_)
      have hK : va_K (dC, dI) cls [] s := hK
      have hP : va_P (dC, dI) cls [(q, .inr (15, fs))] H := hP
      have hD : va_D A [(q, .inr (15, fs))] := hD
      rcases w7 with ⟨rfl, n8⟩ | ⟨rfl, n8⟩
      · exact absurd n8 (by decide)
      refine lv_if_eq (tgt := 53) hx hb dX15_example__38 (by decide) (fun _ => ?_) (fun c0 => absurd c0 (by decide))
      refine lv_iconst (v := (-1)) hx hb dX15_example__53 (by decide) ?_
      exact W.iret (v := (-1)) hx hb hr (fun t ht9 hW => ⟨⟨(-1), (), rfl, rfl, by rw [ht9]; exact hP.sub [] rfl, va_K.moved hW.alike (hK.sub [] rfl), hD.sub [] (by decide) rfl⟩, hS.F ht9⟩) hS.2.2 dX15_example__54
  · rcases in_no (p := p0) (lo := 0) (hi := 10) ex1 (by decide) (by decide) n4 with n4c | n4c
    · refine lv_if_eq (tgt := 53) hx hb dX15_example__17 (by decide) (fun _ => ?_) (fun c0 => absurd c0 (by decide))
      refine lv_iconst (v := (-1)) hx hb dX15_example__53 (by decide) ?_
      exact W.iret (v := (-1)) hx hb hr (fun t ht9 hW => ⟨⟨(-1), (), rfl, rfl, by rw [ht9]; exact hP.sub [] rfl, va_K.moved hW.alike (hK.sub [] rfl), hD.sub [] (by decide) rfl⟩, hS.F ht9⟩) hS.2.2 dX15_example__54
    · refine lv_if_eq (tgt := 53) hx hb dX15_example__17 (by decide) (fun _ => ?_) (fun c0 => absurd c0 (by decide))
      refine lv_iconst (v := (-1)) hx hb dX15_example__53 (by decide) ?_
      exact W.iret (v := (-1)) hx hb hr (fun t ht9 hW => ⟨⟨(-1), (), rfl, rfl, by rw [ht9]; exact hP.sub [] rfl, va_K.moved hW.alike (hK.sub [] rfl), hD.sub [] (by decide) rfl⟩, hS.F ht9⟩) hS.2.2 dX15_example__54
set_option maxHeartbeats 4000000 in
set_option maxRecDepth 100000 in
theorem r_takeTape_example (l : Launch) (dC : Nat → ClassId) (dI : Nat → Nat → Nat) (sz : Nat) (q : Nat) (fs : List Value) (L_fs : fs.length = 163) (K53_fs : fs[53]? = some (.int 0)) : Met l yX15_takeTape (Cond.code yX15_takeTape cX15_takeTape 2 none :: tb) ({ frames := 0, cells := 0, slots := 0, locals := 0 }) (pcw [.ref q] (dC, dI) [(q, .inr (15, fs))] [] sz) (va_Qv (fun (fs1 : List Value) => (True) ∧ (fs1.length = 163) ∧ (fs1[25]? = some (.int 0)) ∧ (fs1[51]? = some (.int 0)) ∧ (fs1[53]? = some (.int 0))) (bw (dC, dI) (va_A [(q, .inr (15, fs))] sz) (fun (fs1 : List Value) => [(q, .inr (15, fs1))]) (fun (fs1 : List Value) => [])) (va_A [(q, .inr (15, fs))] sz)) 0 0 (va_A [(q, .inr (15, fs))] sz) := by
  refine Met.ofW (cc := cX15_takeTape) (maxL := 2) (ret := none) (by decide) rfl ?_
  intro p e s m args below meth c s₁ B hml hv
  obtain ⟨rfl, hsz, hP, hK, hD0⟩ := hv
  have hx := B.exec
  have hb := B.bytes
  have hr := B.returns
  have hts := atoms_spec (ws := Cond.code yX15_takeTape cX15_takeTape 2 none :: tb) B.pre
  have ht : ∀ w ∈ tb, w.before _ s = true := fun w h => hts w (List.mem_cons_of_mem _ h)
  have hown : s.vm.findClass RX15 = some m.cls := findClass_of_methodNamed B.named
  have hlocks := B.notSynchronized
  subst hsz
  have hD := hD0.self (sz := s.heap.size)
  generalize hAe : va_A [(q, .inr (15, fs))] s.heap.size = A at hD ⊢
  have hA : ∀ q : Nat, s.heap.size ≤ q → A q := fun q h => by rw [← hAe]; exact Or.inr h
  have hS : va_S A s.heap s.heap [] := va_S.rf
  have hl := lv_entry ([.ref q]) (n := 2) (Nat.le_of_ble_eq_true rfl)
  rw [lg_entry_eq]
  generalize (lg_sl ([.ref q]) ++ List.replicate (2 - (lg_sl ([.ref q])).length) Slot.unset).toArray = ls at hl ⊢
  have hl : lv_has ls 2 [(0, .ref q)] := hl
  have hP : va_P (dC, dI) cls [(q, .inr (15, fs))] s.heap := hP
  refine lv_aload_n hx hb dX15_takeTape_0 rfl (lv_at hl 0 rfl) ?_
  refine lv_iconst (v := 0) hx hb dX15_takeTape_1 (by decide) ?_
  refine va_put (D := (dC, dI)) (ci := 15) (v := .int 0) (ty := .int) (C := RX15) (T := TX15) (N := 163) hx hb ht uX15 tyX15 tkX15 nmX15 hown hK hP hD hS 0 rfl rfl 51 (by decide) (ht _ k_10_239) (fun _ h9 => h9) rfl (by decide +kernel) rfl rfl (by rw [L_fs]; decide) dX15_takeTape_2 (fun H locs hP hD hS => ?_)
  obtain ⟨F1, eF1⟩ : ∃ g : List Value, g = fs.set 51 (.int 0) := ⟨_, rfl⟩
  rw [← eF1] at hP hD
  have K53_F1 : F1[53]? = some (.int 0) := by rw [eF1, List.getElem?_set_ne (by decide)]; exact K53_fs
  have K51_F1 : F1[51]? = some (.int 0) := by rw [eF1]; exact List.getElem?_set_self (by rw [L_fs]; decide)
  have L_F1 : F1.length = 163 := by rw [eF1, List.length_set]; exact L_fs
  have hP : va_P (dC, dI) cls [(q, .inr (15, F1))] H := hP
  have hD : va_D A [(q, .inr (15, F1))] := hD
  refine lv_iconst (v := 0) hx hb dX15_takeTape_5 (by decide) ?_
  refine lv_istore_n (lv' := [(1, .int 0), (0, .ref q)]) hx hb dX15_takeTape_6 rfl hl (by decide) rfl (fun ls hl => ?_)
  refine lv_iload_n hx hb dX15_takeTape_7 rfl (lv_at hl 0 rfl) ?_
  refine lv_aload_n hx hb dX15_takeTape_8 rfl (lv_at hl 1 rfl) ?_
  refine va_get (D := (dC, dI)) (ci := 15) (v := .int 0) (C := RX15) (T := TX15) (N := 163) hx hb ht uX15 hown hK hP 0 rfl rfl 53 (by decide) (ht _ k_11_1) (fun _ h9 => h9) K53_F1 dX15_takeTape_9 ?_
  refine lv_icmp_ge (tgt := 33) hx hb dX15_takeTape_12 (by decide) (fun _ => ?_) (fun c0 => absurd c0 (by decide))
  refine lv_aload_n hx hb dX15_takeTape_33 rfl (lv_at hl 1 rfl) ?_
  refine lv_aload_n hx hb dX15_takeTape_34 rfl (lv_at hl 1 rfl) ?_
  refine va_get (D := (dC, dI)) (ci := 15) (v := .int 0) (C := RX15) (T := TX15) (N := 163) hx hb ht uX15 hown hK hP 0 rfl rfl 53 (by decide) (ht _ k_11_1) (fun _ h9 => h9) K53_F1 dX15_takeTape_35 ?_
  refine va_put (D := (dC, dI)) (ci := 15) (v := .int 0) (ty := .int) (C := RX15) (T := TX15) (N := 163) hx hb ht uX15 tyX15 tkX15 nmX15 hown hK hP hD hS 0 rfl rfl 25 (by decide) (ht _ k_10_213) (fun _ h9 => h9) rfl (by decide +kernel) rfl rfl (by rw [L_F1]; decide) dX15_takeTape_38 (fun H locs hP hD hS => ?_)
  obtain ⟨F2, eF2⟩ : ∃ g : List Value, g = F1.set 25 (.int 0) := ⟨_, rfl⟩
  rw [← eF2] at hP hD
  have K51_F2 : F2[51]? = some (.int 0) := by rw [eF2, List.getElem?_set_ne (by decide)]; exact K51_F1
  have K53_F2 : F2[53]? = some (.int 0) := by rw [eF2, List.getElem?_set_ne (by decide)]; exact K53_F1
  have K25_F2 : F2[25]? = some (.int 0) := by rw [eF2]; exact List.getElem?_set_self (by rw [L_F1]; decide)
  have L_F2 : F2.length = 163 := by rw [eF2, List.length_set]; exact L_F1
  have hP : va_P (dC, dI) cls [(q, .inr (15, F2))] H := hP
  have hD : va_D A [(q, .inr (15, F2))] := hD
  refine lv_aload_n hx hb dX15_takeTape_41 rfl (lv_at hl 1 rfl) ?_
  refine lv_iconst (v := 0) hx hb dX15_takeTape_42 (by decide) ?_
  refine va_put (D := (dC, dI)) (ci := 15) (v := .int 0) (ty := .int) (C := RX15) (T := TX15) (N := 163) hx hb ht uX15 tyX15 tkX15 nmX15 hown hK hP hD hS 0 rfl rfl 53 (by decide) (ht _ k_11_1) (fun _ h9 => h9) rfl (by decide +kernel) rfl rfl (by rw [L_F2]; decide) dX15_takeTape_43 (fun H locs hP hD hS => ?_)
  obtain ⟨F3, eF3⟩ : ∃ g : List Value, g = F2.set 53 (.int 0) := ⟨_, rfl⟩
  rw [← eF3] at hP hD
  have K25_F3 : F3[25]? = some (.int 0) := by rw [eF3, List.getElem?_set_ne (by decide)]; exact K25_F2
  have K51_F3 : F3[51]? = some (.int 0) := by rw [eF3, List.getElem?_set_ne (by decide)]; exact K51_F2
  have K53_F3 : F3[53]? = some (.int 0) := by rw [eF3]; exact List.getElem?_set_self (by rw [L_F2]; decide)
  have L_F3 : F3.length = 163 := by rw [eF3, List.length_set]; exact L_F2
  have hP : va_P (dC, dI) cls [(q, .inr (15, F3))] H := hP
  have hD : va_D A [(q, .inr (15, F3))] := hD
  exact W.vret hx hb hr (fun t ht9 hW => ⟨⟨(F3), rfl, ⟨trivial, L_F3, K25_F3, K51_F3, K53_F3⟩, by rw [ht9]; exact hP.sub [0] rfl, va_K.moved hW.alike (hK.sub [] rfl), hD.sub [0] (by decide) rfl⟩, hS.F ht9⟩) hS.2.2 dX15_takeTape_46
set_option maxHeartbeats 4000000 in
set_option maxRecDepth 100000 in
theorem r_isDown_example (l : Launch) (dC : Nat → ClassId) (dI : Nat → Nat → Nat) (sz : Nat) (q : Nat) (fs : List Value) (L_fs : fs.length = 163) (K53_fs : fs[53]? = some (.int 0)) (K54_fs : fs[54]? = some (.int 0)) : Met l yX15_isDown (Cond.code yX15_isDown cX15_isDown 1 (some .boolean) :: tb) ({ frames := 0, cells := 0, slots := 0, locals := 0 }) (pcw [.ref q] (dC, dI) [(q, .inr (15, fs))] [] sz) (va_Qi (fun (r : Int32) => (fun (fs1 : List Value) => (r = 0) ∧ (fs1.length = 163) ∧ (fs1[51]? = some (.int 0)) ∧ (fs1[53]? = some (.int 0)) ∧ (fs1[54]? = some (.int 0)))) (bw (dC, dI) (va_A [(q, .inr (15, fs))] sz) (fun (fs1 : List Value) => [(q, .inr (15, fs1))]) (fun (fs1 : List Value) => [])) (va_A [(q, .inr (15, fs))] sz)) 0 0 (va_A [(q, .inr (15, fs))] sz) := by
  refine Met.ofW (cc := cX15_isDown) (maxL := 1) (ret := (some .boolean)) (by decide) rfl ?_
  intro p e s m args below meth c s₁ B hml hv
  obtain ⟨rfl, hsz, hP, hK, hD0⟩ := hv
  have hx := B.exec
  have hb := B.bytes
  have hr := B.returns
  have hts := atoms_spec (ws := Cond.code yX15_isDown cX15_isDown 1 (some .boolean) :: tb) B.pre
  have ht : ∀ w ∈ tb, w.before _ s = true := fun w h => hts w (List.mem_cons_of_mem _ h)
  have hown : s.vm.findClass RX15 = some m.cls := findClass_of_methodNamed B.named
  have hlocks := B.notSynchronized
  subst hsz
  have hD := hD0.self (sz := s.heap.size)
  generalize hAe : va_A [(q, .inr (15, fs))] s.heap.size = A at hD ⊢
  have hA : ∀ q : Nat, s.heap.size ≤ q → A q := fun q h => by rw [← hAe]; exact Or.inr h
  have hS : va_S A s.heap s.heap [] := va_S.rf
  have hl := lv_entry ([.ref q]) (n := 1) (Nat.le_of_ble_eq_true rfl)
  rw [lg_entry_eq]
  generalize (lg_sl ([.ref q]) ++ List.replicate (1 - (lg_sl ([.ref q])).length) Slot.unset).toArray = ls at hl ⊢
  have hl : lv_has ls 1 [(0, .ref q)] := hl
  have hP : va_P (dC, dI) cls [(q, .inr (15, fs))] s.heap := hP
  refine lv_aload_n hx hb dX15_isDown_0 rfl (lv_at hl 0 rfl) ?_
  refine lv_iconst (v := 0) hx hb dX15_isDown_1 (by decide) ?_
  refine va_put (D := (dC, dI)) (ci := 15) (v := .int 0) (ty := .int) (C := RX15) (T := TX15) (N := 163) hx hb ht uX15 tyX15 tkX15 nmX15 hown hK hP hD hS 0 rfl rfl 51 (by decide) (ht _ k_10_239) (fun _ h9 => h9) rfl (by decide +kernel) rfl rfl (by rw [L_fs]; decide) dX15_isDown_2 (fun H locs hP hD hS => ?_)
  obtain ⟨F1, eF1⟩ : ∃ g : List Value, g = fs.set 51 (.int 0) := ⟨_, rfl⟩
  rw [← eF1] at hP hD
  have K53_F1 : F1[53]? = some (.int 0) := by rw [eF1, List.getElem?_set_ne (by decide)]; exact K53_fs
  have K54_F1 : F1[54]? = some (.int 0) := by rw [eF1, List.getElem?_set_ne (by decide)]; exact K54_fs
  have K51_F1 : F1[51]? = some (.int 0) := by rw [eF1]; exact List.getElem?_set_self (by rw [L_fs]; decide)
  have L_F1 : F1.length = 163 := by rw [eF1, List.length_set]; exact L_fs
  have hP : va_P (dC, dI) cls [(q, .inr (15, F1))] H := hP
  have hD : va_D A [(q, .inr (15, F1))] := hD
  refine lv_aload_n hx hb dX15_isDown_5 rfl (lv_at hl 0 rfl) ?_
  refine va_get (D := (dC, dI)) (ci := 15) (v := .int 0) (C := RX15) (T := TX15) (N := 163) hx hb ht uX15 hown hK hP 0 rfl rfl 54 (by decide) (ht _ k_11_2) (fun _ h9 => h9) K54_F1 dX15_isDown_6 ?_
  exact W.zret (v := 0) hx hb hr rfl (fun t ht9 hW => ⟨⟨0, (F1), rfl, ⟨rfl, L_F1, K51_F1, K53_F1, K54_F1⟩, by rw [ht9]; exact hP.sub [0] rfl, va_K.moved hW.alike (hK.sub [] rfl), hD.sub [0] (by decide) rfl⟩, hS.F ht9⟩) hS.2.2 dX15_isDown_9
set_option maxHeartbeats 4000000 in
set_option maxRecDepth 100000 in
theorem r_example (l : Launch) (dC : Nat → ClassId) (dI : Nat → Nat → Nat) (sz : Nat) (q : Nat) (fs : List Value) (p0 : Int32) (L_fs : fs.length = 163) (K53_fs : fs[53]? = some (.int 0)) (K54_fs : fs[54]? = some (.int 0)) : Met l yX15_example (Cond.code yX15_example cX15_example 2 (some .int) :: tb) ({ frames := 2, cells := 0, slots := 0, locals := 51 }) (pcw [.ref q, .int p0] (dC, dI) [(q, .inr (15, fs))] [] sz) (va_Qi (fun (r : Int32) => (fun (_ : Unit) => r = -1)) (bw (dC, dI) (va_A [(q, .inr (15, fs))] sz) (fun (_ : Unit) => []) (fun (_ : Unit) => [])) (va_A [(q, .inr (15, fs))] sz)) 0 0 (va_A [(q, .inr (15, fs))] sz) := by
  refine Met.ofW (cc := cX15_example) (maxL := 2) (ret := (some .int)) (by decide) rfl ?_
  intro p e s m args below meth c s₁ B hml hv
  obtain ⟨rfl, hsz, hP, hK, hD0⟩ := hv
  have hx := B.exec
  have hb := B.bytes
  have hr := B.returns
  have hts := atoms_spec (ws := Cond.code yX15_example cX15_example 2 (some .int) :: tb) B.pre
  have ht : ∀ w ∈ tb, w.before _ s = true := fun w h => hts w (List.mem_cons_of_mem _ h)
  have hown : s.vm.findClass RX15 = some m.cls := findClass_of_methodNamed B.named
  have hlocks := B.notSynchronized
  subst hsz
  have hD := hD0.self (sz := s.heap.size)
  generalize hAe : va_A [(q, .inr (15, fs))] s.heap.size = A at hD ⊢
  have hA : ∀ q : Nat, s.heap.size ≤ q → A q := fun q h => by rw [← hAe]; exact Or.inr h
  have hS : va_S A s.heap s.heap [] := va_S.rf
  have hl := lv_entry ([.ref q, .int p0]) (n := 2) (Nat.le_of_ble_eq_true rfl)
  rw [lg_entry_eq]
  generalize (lg_sl ([.ref q, .int p0]) ++ List.replicate (2 - (lg_sl ([.ref q, .int p0])).length) Slot.unset).toArray = ls at hl ⊢
  have hl : lv_has ls 2 [(0, .ref q), (1, .int p0)] := hl
  have hP : va_P (dC, dI) cls [(q, .inr (15, fs))] s.heap := hP
  refine lv_aload_n hx hb dX15_example_0 rfl (lv_at hl 0 rfl) ?_
  refine ca_i (wr := []) (va_runV (As := []) (rest := []) ⟨hx, hb, hml, hown, ht⟩ (r_isDown_learn l dC dI s.heap.size q fs L_fs K53_fs K54_fs ) (cwV 0 ht (gdV k_12_228 k_12_225 k_12_227 ks_112 k_1_17) rfl rfl rfl (by decide +kernel) ⟨Nat.le_of_ble_eq_true rfl, Nat.le_of_ble_eq_true rfl⟩) ⟨pcw_blind, va_recv hK hP (ci := 15) (q0 := 0) rfl rfl, pcw_at hP hD hK [0] [] (by decide) rfl rfl rfl⟩ rfl rfl hl.1 rfl (lv_room (Nat.le_of_ble_eq_true rfl)) dX15_example_1 ⟨Nat.le_of_ble_eq_true rfl, Nat.le_of_ble_eq_true rfl⟩) hP hD hK hS hA [0] [] rfl rfl (by decide) (by decide) (fun r1 u H locs w2 hK hP hD hS => ?_)
  obtain ⟨F3, rfl⟩ : ∃ z, z = u := ⟨_, rfl⟩
  have hK : va_K (dC, dI) cls [] s := hK
  have hP : va_P (dC, dI) cls [(q, .inr (15, F3))] H := hP
  have hD : va_D A [(q, .inr (15, F3))] := hD
  obtain ⟨w2, K4, K5, K6, K7⟩ := w2
  obtain rfl : r1 = 0 := w2
  refine lv_if_eq (tgt := 10) hx hb dX15_example_4 (by decide) (fun _ => ?_) (fun c0 => absurd c0 (by decide))
  refine lv_aload_n hx hb dX15_example_10 rfl (lv_at hl 0 rfl) ?_
  refine ca_v (wr := []) (va_runV (As := []) (rest := []) ⟨hx, hb, hml, hown, ht⟩ (r_takeTape_learn l dC dI H.size q F3 K4 K6 ) (cwV 0 ht (gdV k_12_237 k_12_234 k_12_236 ks_113 k_1_17) rfl rfl rfl (by decide +kernel) ⟨Nat.le_of_ble_eq_true rfl, Nat.le_of_ble_eq_true rfl⟩) ⟨pcw_blind, va_recv hK hP (ci := 15) (q0 := 0) rfl rfl, pcw_at hP hD hK [0] [] (by decide) rfl rfl rfl⟩ rfl rfl hl.1 rfl (lv_room (Nat.le_of_ble_eq_true rfl)) dX15_example_11 ⟨Nat.le_of_ble_eq_true rfl, Nat.le_of_ble_eq_true rfl⟩) hP hD hK hS hA [0] [] rfl rfl (by decide) (by decide) (fun u H locs w9 hK hP hD hS => ?_)
  obtain ⟨F10, rfl⟩ : ∃ z, z = u := ⟨_, rfl⟩
  have hK : va_K (dC, dI) cls [] s := hK
  have hP : va_P (dC, dI) cls [(q, .inr (15, F10))] H := hP
  have hD : va_D A [(q, .inr (15, F10))] := hD
  obtain ⟨w9, K11, K12, K13, K14⟩ := w9
  refine lv_aload_n hx hb dX15_example_14 rfl (lv_at hl 0 rfl) ?_
  refine lv_iconst (v := 0) hx hb dX15_example_15 (by decide) ?_
  refine lv_iload_n hx hb dX15_example_16 rfl (lv_at hl 1 rfl) ?_
  refine lv_iconst (v := 1) hx hb dX15_example_17 (by decide) ?_
  refine ca_i (wr := []) (va_runV (As := [.int 0, .int p0, .int 1]) (rest := []) ⟨hx, hb, hml, hown, ht⟩ (r_example_ l dC dI H.size q F10 p0 K11 K12 ) (cwV 3 ht (gdV k_15_121 k_15_118 k_15_120 ks_216 k_1_17) rfl rfl rfl (by decide +kernel) ⟨Nat.le_of_ble_eq_true rfl, Nat.le_of_ble_eq_true rfl⟩) ⟨pcw_blind, va_recv hK hP (ci := 15) (q0 := 0) rfl rfl, pcw_at hP hD hK [0] [] (by decide) rfl rfl rfl⟩ rfl rfl hl.1 rfl (lv_room (Nat.le_of_ble_eq_true rfl)) dX15_example_18 ⟨Nat.le_of_ble_eq_true rfl, Nat.le_of_ble_eq_true rfl⟩) hP hD hK hS hA [0] [] rfl rfl (by decide) (by decide) (fun r15 u H locs w16 hK hP hD hS => ?_)
  have hK : va_K (dC, dI) cls [] s := hK
  have hP : va_P (dC, dI) cls [] H := hP
  have hD : va_D A [] := hD
  obtain rfl : r15 = (-1) := w16
  exact W.iret (v := (-1)) hx hb hr (fun t ht9 hW => ⟨⟨(-1), (), rfl, rfl, by rw [ht9]; exact hP.sub [] rfl, va_K.moved hW.alike (hK.sub [] rfl), hD.sub [] (by decide) rfl⟩, hS.F ht9⟩) hS.2.2 dX15_example_21
set_option maxHeartbeats 4000000 in
set_option maxRecDepth 100000 in
theorem r_isWordText (l : Launch) (dC : Nat → ClassId) (dI : Nat → Nat → Nat) (sz : Nat) (q : Nat) (fs : List Value) (L_fs : fs.length = 163) : Met l yX15_isWordText (Cond.code yX15_isWordText cX15_isWordText 5 (some .boolean) :: tb) ({ frames := 0, cells := 0, slots := 0, locals := 0 }) (pcw [.ref q, .int 0, .int 0] (dC, dI) [(q, .inr (15, fs))] [] sz) (va_Qi (fun (r : Int32) => (fun (_ : Unit) => r = 1)) (bw (dC, dI) (va_A [(q, .inr (15, fs))] sz) (fun (_ : Unit) => [(q, .inr (15, fs))]) (fun (_ : Unit) => [])) (va_A [(q, .inr (15, fs))] sz)) 0 0 (va_A [(q, .inr (15, fs))] sz) := by
  refine Met.ofW (cc := cX15_isWordText) (maxL := 5) (ret := (some .boolean)) (by decide) rfl ?_
  intro p e s m args below meth c s₁ B hml hv
  obtain ⟨rfl, hsz, hP, hK, hD0⟩ := hv
  have hx := B.exec
  have hb := B.bytes
  have hr := B.returns
  have hts := atoms_spec (ws := Cond.code yX15_isWordText cX15_isWordText 5 (some .boolean) :: tb) B.pre
  have ht : ∀ w ∈ tb, w.before _ s = true := fun w h => hts w (List.mem_cons_of_mem _ h)
  have hown : s.vm.findClass RX15 = some m.cls := findClass_of_methodNamed B.named
  have hlocks := B.notSynchronized
  subst hsz
  have hD := hD0.self (sz := s.heap.size)
  generalize hAe : va_A [(q, .inr (15, fs))] s.heap.size = A at hD ⊢
  have hA : ∀ q : Nat, s.heap.size ≤ q → A q := fun q h => by rw [← hAe]; exact Or.inr h
  have hS : va_S A s.heap s.heap [] := va_S.rf
  have hl := lv_entry ([.ref q, .int 0, .int 0]) (n := 5) (Nat.le_of_ble_eq_true rfl)
  rw [lg_entry_eq]
  generalize (lg_sl ([.ref q, .int 0, .int 0]) ++ List.replicate (5 - (lg_sl ([.ref q, .int 0, .int 0])).length) Slot.unset).toArray = ls at hl ⊢
  have hl : lv_has ls 5 [(0, .ref q), (1, .int 0), (2, .int 0)] := hl
  have hP : va_P (dC, dI) cls [(q, .inr (15, fs))] s.heap := hP
  refine lv_iconst (v := 1) hx hb dX15_isWordText_0 (by decide) ?_
  refine lv_istore_n (lv' := [(3, .int 1), (0, .ref q), (1, .int 0), (2, .int 0)]) hx hb dX15_isWordText_1 rfl hl (by decide) rfl (fun ls hl => ?_)
  refine lv_iload_n hx hb dX15_isWordText_2 rfl (lv_at hl 2 rfl) ?_
  refine lv_istore (lv' := [(4, .int 0), (3, .int 1), (0, .ref q), (1, .int 0), (2, .int 0)]) hx hb dX15_isWordText_3 hl (by decide) rfl (fun ls hl => ?_)
  refine lv_iload hx hb dX15_isWordText_5 (lv_at hl 0 rfl) ?_
  refine lv_iload_n hx hb dX15_isWordText_7 rfl (lv_at hl 4 rfl) ?_
  refine lv_icmp_ge (tgt := 40) hx hb dX15_isWordText_8 (by decide) (fun _ => ?_) (fun c0 => absurd c0 (by decide))
  refine lv_iload_n hx hb dX15_isWordText_40 rfl (lv_at hl 1 rfl) ?_
  exact W.zret (v := 1) hx hb hr rfl (fun t ht9 hW => ⟨⟨1, (), rfl, rfl, by rw [ht9]; exact hP.sub [0] rfl, va_K.moved hW.alike (hK.sub [] rfl), hD.sub [0] (by decide) rfl⟩, hS.F ht9⟩) hS.2.2 dX15_isWordText_41
set_option maxHeartbeats 4000000 in
set_option maxRecDepth 100000 in
theorem r_takeTape_apply (l : Launch) (dC : Nat → ClassId) (dI : Nat → Nat → Nat) (sz : Nat) (q : Nat) (fs : List Value) (L_fs : fs.length = 163) (K53_fs : fs[53]? = some (.int 0)) (K125_fs : fs[125]? = some (.int 0)) : Met l yX15_takeTape (Cond.code yX15_takeTape cX15_takeTape 2 none :: tb) ({ frames := 0, cells := 0, slots := 0, locals := 0 }) (pcw [.ref q] (dC, dI) [(q, .inr (15, fs))] [] sz) (va_Qv (fun (fs1 : List Value) => (True) ∧ (fs1.length = 163) ∧ (fs1[25]? = some (.int 0)) ∧ (fs1[51]? = some (.int 0)) ∧ (fs1[53]? = some (.int 0)) ∧ (fs1[125]? = some (.int 0))) (bw (dC, dI) (va_A [(q, .inr (15, fs))] sz) (fun (fs1 : List Value) => [(q, .inr (15, fs1))]) (fun (fs1 : List Value) => [])) (va_A [(q, .inr (15, fs))] sz)) 0 0 (va_A [(q, .inr (15, fs))] sz) := by
  refine Met.ofW (cc := cX15_takeTape) (maxL := 2) (ret := none) (by decide) rfl ?_
  intro p e s m args below meth c s₁ B hml hv
  obtain ⟨rfl, hsz, hP, hK, hD0⟩ := hv
  have hx := B.exec
  have hb := B.bytes
  have hr := B.returns
  have hts := atoms_spec (ws := Cond.code yX15_takeTape cX15_takeTape 2 none :: tb) B.pre
  have ht : ∀ w ∈ tb, w.before _ s = true := fun w h => hts w (List.mem_cons_of_mem _ h)
  have hown : s.vm.findClass RX15 = some m.cls := findClass_of_methodNamed B.named
  have hlocks := B.notSynchronized
  subst hsz
  have hD := hD0.self (sz := s.heap.size)
  generalize hAe : va_A [(q, .inr (15, fs))] s.heap.size = A at hD ⊢
  have hA : ∀ q : Nat, s.heap.size ≤ q → A q := fun q h => by rw [← hAe]; exact Or.inr h
  have hS : va_S A s.heap s.heap [] := va_S.rf
  have hl := lv_entry ([.ref q]) (n := 2) (Nat.le_of_ble_eq_true rfl)
  rw [lg_entry_eq]
  generalize (lg_sl ([.ref q]) ++ List.replicate (2 - (lg_sl ([.ref q])).length) Slot.unset).toArray = ls at hl ⊢
  have hl : lv_has ls 2 [(0, .ref q)] := hl
  have hP : va_P (dC, dI) cls [(q, .inr (15, fs))] s.heap := hP
  refine lv_aload_n hx hb dX15_takeTape_0 rfl (lv_at hl 0 rfl) ?_
  refine lv_iconst (v := 0) hx hb dX15_takeTape_1 (by decide) ?_
  refine va_put (D := (dC, dI)) (ci := 15) (v := .int 0) (ty := .int) (C := RX15) (T := TX15) (N := 163) hx hb ht uX15 tyX15 tkX15 nmX15 hown hK hP hD hS 0 rfl rfl 51 (by decide) (ht _ k_10_239) (fun _ h9 => h9) rfl (by decide +kernel) rfl rfl (by rw [L_fs]; decide) dX15_takeTape_2 (fun H locs hP hD hS => ?_)
  obtain ⟨F1, eF1⟩ : ∃ g : List Value, g = fs.set 51 (.int 0) := ⟨_, rfl⟩
  rw [← eF1] at hP hD
  have K53_F1 : F1[53]? = some (.int 0) := by rw [eF1, List.getElem?_set_ne (by decide)]; exact K53_fs
  have K125_F1 : F1[125]? = some (.int 0) := by rw [eF1, List.getElem?_set_ne (by decide)]; exact K125_fs
  have K51_F1 : F1[51]? = some (.int 0) := by rw [eF1]; exact List.getElem?_set_self (by rw [L_fs]; decide)
  have L_F1 : F1.length = 163 := by rw [eF1, List.length_set]; exact L_fs
  have hP : va_P (dC, dI) cls [(q, .inr (15, F1))] H := hP
  have hD : va_D A [(q, .inr (15, F1))] := hD
  refine lv_iconst (v := 0) hx hb dX15_takeTape_5 (by decide) ?_
  refine lv_istore_n (lv' := [(1, .int 0), (0, .ref q)]) hx hb dX15_takeTape_6 rfl hl (by decide) rfl (fun ls hl => ?_)
  refine lv_iload_n hx hb dX15_takeTape_7 rfl (lv_at hl 0 rfl) ?_
  refine lv_aload_n hx hb dX15_takeTape_8 rfl (lv_at hl 1 rfl) ?_
  refine va_get (D := (dC, dI)) (ci := 15) (v := .int 0) (C := RX15) (T := TX15) (N := 163) hx hb ht uX15 hown hK hP 0 rfl rfl 53 (by decide) (ht _ k_11_1) (fun _ h9 => h9) K53_F1 dX15_takeTape_9 ?_
  refine lv_icmp_ge (tgt := 33) hx hb dX15_takeTape_12 (by decide) (fun _ => ?_) (fun c0 => absurd c0 (by decide))
  refine lv_aload_n hx hb dX15_takeTape_33 rfl (lv_at hl 1 rfl) ?_
  refine lv_aload_n hx hb dX15_takeTape_34 rfl (lv_at hl 1 rfl) ?_
  refine va_get (D := (dC, dI)) (ci := 15) (v := .int 0) (C := RX15) (T := TX15) (N := 163) hx hb ht uX15 hown hK hP 0 rfl rfl 53 (by decide) (ht _ k_11_1) (fun _ h9 => h9) K53_F1 dX15_takeTape_35 ?_
  refine va_put (D := (dC, dI)) (ci := 15) (v := .int 0) (ty := .int) (C := RX15) (T := TX15) (N := 163) hx hb ht uX15 tyX15 tkX15 nmX15 hown hK hP hD hS 0 rfl rfl 25 (by decide) (ht _ k_10_213) (fun _ h9 => h9) rfl (by decide +kernel) rfl rfl (by rw [L_F1]; decide) dX15_takeTape_38 (fun H locs hP hD hS => ?_)
  obtain ⟨F2, eF2⟩ : ∃ g : List Value, g = F1.set 25 (.int 0) := ⟨_, rfl⟩
  rw [← eF2] at hP hD
  have K51_F2 : F2[51]? = some (.int 0) := by rw [eF2, List.getElem?_set_ne (by decide)]; exact K51_F1
  have K53_F2 : F2[53]? = some (.int 0) := by rw [eF2, List.getElem?_set_ne (by decide)]; exact K53_F1
  have K125_F2 : F2[125]? = some (.int 0) := by rw [eF2, List.getElem?_set_ne (by decide)]; exact K125_F1
  have K25_F2 : F2[25]? = some (.int 0) := by rw [eF2]; exact List.getElem?_set_self (by rw [L_F1]; decide)
  have L_F2 : F2.length = 163 := by rw [eF2, List.length_set]; exact L_F1
  have hP : va_P (dC, dI) cls [(q, .inr (15, F2))] H := hP
  have hD : va_D A [(q, .inr (15, F2))] := hD
  refine lv_aload_n hx hb dX15_takeTape_41 rfl (lv_at hl 1 rfl) ?_
  refine lv_iconst (v := 0) hx hb dX15_takeTape_42 (by decide) ?_
  refine va_put (D := (dC, dI)) (ci := 15) (v := .int 0) (ty := .int) (C := RX15) (T := TX15) (N := 163) hx hb ht uX15 tyX15 tkX15 nmX15 hown hK hP hD hS 0 rfl rfl 53 (by decide) (ht _ k_11_1) (fun _ h9 => h9) rfl (by decide +kernel) rfl rfl (by rw [L_F2]; decide) dX15_takeTape_43 (fun H locs hP hD hS => ?_)
  obtain ⟨F3, eF3⟩ : ∃ g : List Value, g = F2.set 53 (.int 0) := ⟨_, rfl⟩
  rw [← eF3] at hP hD
  have K25_F3 : F3[25]? = some (.int 0) := by rw [eF3, List.getElem?_set_ne (by decide)]; exact K25_F2
  have K51_F3 : F3[51]? = some (.int 0) := by rw [eF3, List.getElem?_set_ne (by decide)]; exact K51_F2
  have K125_F3 : F3[125]? = some (.int 0) := by rw [eF3, List.getElem?_set_ne (by decide)]; exact K125_F2
  have K53_F3 : F3[53]? = some (.int 0) := by rw [eF3]; exact List.getElem?_set_self (by rw [L_F2]; decide)
  have L_F3 : F3.length = 163 := by rw [eF3, List.length_set]; exact L_F2
  have hP : va_P (dC, dI) cls [(q, .inr (15, F3))] H := hP
  have hD : va_D A [(q, .inr (15, F3))] := hD
  exact W.vret hx hb hr (fun t ht9 hW => ⟨⟨(F3), rfl, ⟨trivial, L_F3, K25_F3, K51_F3, K53_F3, K125_F3⟩, by rw [ht9]; exact hP.sub [0] rfl, va_K.moved hW.alike (hK.sub [] rfl), hD.sub [0] (by decide) rfl⟩, hS.F ht9⟩) hS.2.2 dX15_takeTape_46
set_option maxHeartbeats 4000000 in
set_option maxRecDepth 100000 in
theorem r_isDown_apply (l : Launch) (dC : Nat → ClassId) (dI : Nat → Nat → Nat) (sz : Nat) (q : Nat) (fs : List Value) (L_fs : fs.length = 163) (K53_fs : fs[53]? = some (.int 0)) (K54_fs : fs[54]? = some (.int 0)) (K125_fs : fs[125]? = some (.int 0)) : Met l yX15_isDown (Cond.code yX15_isDown cX15_isDown 1 (some .boolean) :: tb) ({ frames := 0, cells := 0, slots := 0, locals := 0 }) (pcw [.ref q] (dC, dI) [(q, .inr (15, fs))] [] sz) (va_Qi (fun (r : Int32) => (fun (fs1 : List Value) => (r = 0) ∧ (fs1.length = 163) ∧ (fs1[51]? = some (.int 0)) ∧ (fs1[53]? = some (.int 0)) ∧ (fs1[54]? = some (.int 0)) ∧ (fs1[125]? = some (.int 0)))) (bw (dC, dI) (va_A [(q, .inr (15, fs))] sz) (fun (fs1 : List Value) => [(q, .inr (15, fs1))]) (fun (fs1 : List Value) => [])) (va_A [(q, .inr (15, fs))] sz)) 0 0 (va_A [(q, .inr (15, fs))] sz) := by
  refine Met.ofW (cc := cX15_isDown) (maxL := 1) (ret := (some .boolean)) (by decide) rfl ?_
  intro p e s m args below meth c s₁ B hml hv
  obtain ⟨rfl, hsz, hP, hK, hD0⟩ := hv
  have hx := B.exec
  have hb := B.bytes
  have hr := B.returns
  have hts := atoms_spec (ws := Cond.code yX15_isDown cX15_isDown 1 (some .boolean) :: tb) B.pre
  have ht : ∀ w ∈ tb, w.before _ s = true := fun w h => hts w (List.mem_cons_of_mem _ h)
  have hown : s.vm.findClass RX15 = some m.cls := findClass_of_methodNamed B.named
  have hlocks := B.notSynchronized
  subst hsz
  have hD := hD0.self (sz := s.heap.size)
  generalize hAe : va_A [(q, .inr (15, fs))] s.heap.size = A at hD ⊢
  have hA : ∀ q : Nat, s.heap.size ≤ q → A q := fun q h => by rw [← hAe]; exact Or.inr h
  have hS : va_S A s.heap s.heap [] := va_S.rf
  have hl := lv_entry ([.ref q]) (n := 1) (Nat.le_of_ble_eq_true rfl)
  rw [lg_entry_eq]
  generalize (lg_sl ([.ref q]) ++ List.replicate (1 - (lg_sl ([.ref q])).length) Slot.unset).toArray = ls at hl ⊢
  have hl : lv_has ls 1 [(0, .ref q)] := hl
  have hP : va_P (dC, dI) cls [(q, .inr (15, fs))] s.heap := hP
  refine lv_aload_n hx hb dX15_isDown_0 rfl (lv_at hl 0 rfl) ?_
  refine lv_iconst (v := 0) hx hb dX15_isDown_1 (by decide) ?_
  refine va_put (D := (dC, dI)) (ci := 15) (v := .int 0) (ty := .int) (C := RX15) (T := TX15) (N := 163) hx hb ht uX15 tyX15 tkX15 nmX15 hown hK hP hD hS 0 rfl rfl 51 (by decide) (ht _ k_10_239) (fun _ h9 => h9) rfl (by decide +kernel) rfl rfl (by rw [L_fs]; decide) dX15_isDown_2 (fun H locs hP hD hS => ?_)
  obtain ⟨F1, eF1⟩ : ∃ g : List Value, g = fs.set 51 (.int 0) := ⟨_, rfl⟩
  rw [← eF1] at hP hD
  have K53_F1 : F1[53]? = some (.int 0) := by rw [eF1, List.getElem?_set_ne (by decide)]; exact K53_fs
  have K54_F1 : F1[54]? = some (.int 0) := by rw [eF1, List.getElem?_set_ne (by decide)]; exact K54_fs
  have K125_F1 : F1[125]? = some (.int 0) := by rw [eF1, List.getElem?_set_ne (by decide)]; exact K125_fs
  have K51_F1 : F1[51]? = some (.int 0) := by rw [eF1]; exact List.getElem?_set_self (by rw [L_fs]; decide)
  have L_F1 : F1.length = 163 := by rw [eF1, List.length_set]; exact L_fs
  have hP : va_P (dC, dI) cls [(q, .inr (15, F1))] H := hP
  have hD : va_D A [(q, .inr (15, F1))] := hD
  refine lv_aload_n hx hb dX15_isDown_5 rfl (lv_at hl 0 rfl) ?_
  refine va_get (D := (dC, dI)) (ci := 15) (v := .int 0) (C := RX15) (T := TX15) (N := 163) hx hb ht uX15 hown hK hP 0 rfl rfl 54 (by decide) (ht _ k_11_2) (fun _ h9 => h9) K54_F1 dX15_isDown_6 ?_
  exact W.zret (v := 0) hx hb hr rfl (fun t ht9 hW => ⟨⟨0, (F1), rfl, ⟨rfl, L_F1, K51_F1, K53_F1, K54_F1, K125_F1⟩, by rw [ht9]; exact hP.sub [0] rfl, va_K.moved hW.alike (hK.sub [] rfl), hD.sub [0] (by decide) rfl⟩, hS.F ht9⟩) hS.2.2 dX15_isDown_9
set_option maxHeartbeats 4000000 in
set_option maxRecDepth 100000 in
theorem r_apply (l : Launch) (dC : Nat → ClassId) (dI : Nat → Nat → Nat) (sz : Nat) (q : Nat) (fs : List Value) (L_fs : fs.length = 163) (K53_fs : fs[53]? = some (.int 0)) (K54_fs : fs[54]? = some (.int 0)) (K125_fs : fs[125]? = some (.int 0)) : Met l yX15_apply (Cond.code yX15_apply cX15_apply 5 (some .int) :: tb) ({ frames := 1, cells := 0, slots := 0, locals := 24 }) (pcw [.ref q] (dC, dI) [(q, .inr (15, fs))] [] sz) (va_Qi (fun (r : Int32) => (fun (_ : Unit) => r = -2)) (bw (dC, dI) (va_A [(q, .inr (15, fs))] sz) (fun (_ : Unit) => []) (fun (_ : Unit) => [])) (va_A [(q, .inr (15, fs))] sz)) 0 0 (va_A [(q, .inr (15, fs))] sz) := by
  refine Met.ofW (cc := cX15_apply) (maxL := 5) (ret := (some .int)) (by decide) rfl ?_
  intro p e s m args below meth c s₁ B hml hv
  obtain ⟨rfl, hsz, hP, hK, hD0⟩ := hv
  have hx := B.exec
  have hb := B.bytes
  have hr := B.returns
  have hts := atoms_spec (ws := Cond.code yX15_apply cX15_apply 5 (some .int) :: tb) B.pre
  have ht : ∀ w ∈ tb, w.before _ s = true := fun w h => hts w (List.mem_cons_of_mem _ h)
  have hown : s.vm.findClass RX15 = some m.cls := findClass_of_methodNamed B.named
  have hlocks := B.notSynchronized
  subst hsz
  have hD := hD0.self (sz := s.heap.size)
  generalize hAe : va_A [(q, .inr (15, fs))] s.heap.size = A at hD ⊢
  have hA : ∀ q : Nat, s.heap.size ≤ q → A q := fun q h => by rw [← hAe]; exact Or.inr h
  have hS : va_S A s.heap s.heap [] := va_S.rf
  have hl := lv_entry ([.ref q]) (n := 5) (Nat.le_of_ble_eq_true rfl)
  rw [lg_entry_eq]
  generalize (lg_sl ([.ref q]) ++ List.replicate (5 - (lg_sl ([.ref q])).length) Slot.unset).toArray = ls at hl ⊢
  have hl : lv_has ls 5 [(0, .ref q)] := hl
  have hP : va_P (dC, dI) cls [(q, .inr (15, fs))] s.heap := hP
  refine lv_aload_n hx hb dX15_apply_0 rfl (lv_at hl 0 rfl) ?_
  refine ca_i (wr := []) (va_runV (As := []) (rest := []) ⟨hx, hb, hml, hown, ht⟩ (r_isDown_apply l dC dI s.heap.size q fs L_fs K53_fs K54_fs K125_fs ) (cwV 0 ht (gdV k_12_228 k_12_225 k_12_227 ks_112 k_1_17) rfl rfl rfl (by decide +kernel) ⟨Nat.le_of_ble_eq_true rfl, Nat.le_of_ble_eq_true rfl⟩) ⟨pcw_blind, va_recv hK hP (ci := 15) (q0 := 0) rfl rfl, pcw_at hP hD hK [0] [] (by decide) rfl rfl rfl⟩ rfl rfl hl.1 rfl (lv_room (Nat.le_of_ble_eq_true rfl)) dX15_apply_1 ⟨Nat.le_of_ble_eq_true rfl, Nat.le_of_ble_eq_true rfl⟩) hP hD hK hS hA [0] [] rfl rfl (by decide) (by decide) (fun r1 u H locs w2 hK hP hD hS => ?_)
  obtain ⟨F3, rfl⟩ : ∃ z, z = u := ⟨_, rfl⟩
  have hK : va_K (dC, dI) cls [] s := hK
  have hP : va_P (dC, dI) cls [(q, .inr (15, F3))] H := hP
  have hD : va_D A [(q, .inr (15, F3))] := hD
  obtain ⟨w2, K4, K5, K6, K7, K8⟩ := w2
  obtain rfl : r1 = 0 := w2
  refine lv_if_eq (tgt := 10) hx hb dX15_apply_4 (by decide) (fun _ => ?_) (fun c0 => absurd c0 (by decide))
  refine lv_aload_n hx hb dX15_apply_10 rfl (lv_at hl 0 rfl) ?_
  refine ca_v (wr := []) (va_runV (As := []) (rest := []) ⟨hx, hb, hml, hown, ht⟩ (r_takeTape_apply l dC dI H.size q F3 K4 K6 K8 ) (cwV 0 ht (gdV k_12_237 k_12_234 k_12_236 ks_113 k_1_17) rfl rfl rfl (by decide +kernel) ⟨Nat.le_of_ble_eq_true rfl, Nat.le_of_ble_eq_true rfl⟩) ⟨pcw_blind, va_recv hK hP (ci := 15) (q0 := 0) rfl rfl, pcw_at hP hD hK [0] [] (by decide) rfl rfl rfl⟩ rfl rfl hl.1 rfl (lv_room (Nat.le_of_ble_eq_true rfl)) dX15_apply_11 ⟨Nat.le_of_ble_eq_true rfl, Nat.le_of_ble_eq_true rfl⟩) hP hD hK hS hA [0] [] rfl rfl (by decide) (by decide) (fun u H locs w10 hK hP hD hS => ?_)
  obtain ⟨F11, rfl⟩ : ∃ z, z = u := ⟨_, rfl⟩
  have hK : va_K (dC, dI) cls [] s := hK
  have hP : va_P (dC, dI) cls [(q, .inr (15, F11))] H := hP
  have hD : va_D A [(q, .inr (15, F11))] := hD
  obtain ⟨w10, K12, K13, K14, K15, K16⟩ := w10
  refine lv_aload_n hx hb dX15_apply_14 rfl (lv_at hl 0 rfl) ?_
  refine va_get (D := (dC, dI)) (ci := 15) (v := .int 0) (C := RX15) (T := TX15) (N := 163) hx hb ht uX15 hown hK hP 0 rfl rfl 25 (by decide) (ht _ k_10_213) (fun _ h9 => h9) K13 dX15_apply_15 ?_
  refine lv_bipush (v := 10) hx hb dX15_apply_18 (by decide) ?_
  refine lv_icmp_gt (tgt := 35) hx hb dX15_apply_20 (by decide) (fun c0 => absurd c0 (by decide)) (fun _ => ?_)
  refine lv_aload_n hx hb dX15_apply_23 rfl (lv_at hl 0 rfl) ?_
  refine lv_iconst (v := 0) hx hb dX15_apply_24 (by decide) ?_
  refine lv_aload_n hx hb dX15_apply_25 rfl (lv_at hl 0 rfl) ?_
  refine va_get (D := (dC, dI)) (ci := 15) (v := .int 0) (C := RX15) (T := TX15) (N := 163) hx hb ht uX15 hown hK hP 0 rfl rfl 25 (by decide) (ht _ k_10_213) (fun _ h9 => h9) K13 dX15_apply_26 ?_
  refine ca_i (wr := []) (va_runV (As := [.int 0, .int 0]) (rest := []) ⟨hx, hb, hml, hown, ht⟩ (r_isWordText l dC dI H.size q F11 K12 ) (cwV 2 ht (gdV k_15_126 k_15_123 k_15_125 ks_217 k_1_17) rfl rfl rfl (by decide +kernel) ⟨Nat.le_of_ble_eq_true rfl, Nat.le_of_ble_eq_true rfl⟩) ⟨pcw_blind, va_recv hK hP (ci := 15) (q0 := 0) rfl rfl, pcw_at hP hD hK [0] [] (by decide) rfl rfl rfl⟩ rfl rfl hl.1 rfl (lv_room (Nat.le_of_ble_eq_true rfl)) dX15_apply_29 ⟨Nat.le_of_ble_eq_true rfl, Nat.le_of_ble_eq_true rfl⟩) hP hD hK hS hA [0] [] rfl rfl (by decide) (by decide) (fun r17 u H locs w18 hK hP hD hS => ?_)
  have hK : va_K (dC, dI) cls [] s := hK
  have hP : va_P (dC, dI) cls [(q, .inr (15, F11))] H := hP
  have hD : va_D A [(q, .inr (15, F11))] := hD
  obtain rfl : r17 = 1 := w18
  refine lv_if_ne (tgt := 37) hx hb dX15_apply_32 (by decide) (fun _ => ?_) (fun c0 => absurd c0 (by decide))
  refine lv_aload_n hx hb dX15_apply_37 rfl (lv_at hl 0 rfl) ?_
  refine va_get (D := (dC, dI)) (ci := 15) (v := .int 0) (C := RX15) (T := TX15) (N := 163) hx hb ht uX15 hown hK hP 0 rfl rfl 125 (by decide) (ht _ k_11_73) (fun _ h9 => h9) K16 dX15_apply_38 ?_
  refine lv_if_ne (tgt := 47) hx hb dX15_apply_41 (by decide) (fun c0 => absurd c0 (by decide)) (fun _ => ?_)
  refine lv_bipush (v := (-2)) hx hb dX15_apply_44 (by decide) ?_
  exact W.iret (v := (-2)) hx hb hr (fun t ht9 hW => ⟨⟨(-2), (), rfl, rfl, by rw [ht9]; exact hP.sub [] rfl, va_K.moved hW.alike (hK.sub [] rfl), hD.sub [] (by decide) rfl⟩, hS.F ht9⟩) hS.2.2 dX15_apply_46
set_option maxHeartbeats 4000000 in
set_option maxRecDepth 100000 in
theorem r_blocksFor (l : Launch) (dC : Nat → ClassId) (dI : Nat → Nat → Nat) (sz : Nat)   : Met l yX15_blocksFor (Cond.code yX15_blocksFor cX15_blocksFor 1 (some .int) :: tb) ({ frames := 0, cells := 0, slots := 0, locals := 0 }) (pcw [.int 4] (dC, dI) [] [] sz) (va_Qi (fun (r : Int32) => (fun (_ : Unit) => r = 1)) (bw (dC, dI) (va_A [] sz) (fun (_ : Unit) => []) (fun (_ : Unit) => [])) (va_A [] sz)) 0 0 (va_A [] sz) := by
  refine Met.ofW (cc := cX15_blocksFor) (maxL := 1) (ret := (some .int)) (by decide) rfl ?_
  intro p e s m args below meth c s₁ B hml hv
  obtain ⟨rfl, hsz, hP, hK, hD0⟩ := hv
  have hx := B.exec
  have hb := B.bytes
  have hr := B.returns
  have hts := atoms_spec (ws := Cond.code yX15_blocksFor cX15_blocksFor 1 (some .int) :: tb) B.pre
  have ht : ∀ w ∈ tb, w.before _ s = true := fun w h => hts w (List.mem_cons_of_mem _ h)
  have hown : s.vm.findClass RX15 = some m.cls := findClass_of_methodNamed B.named
  have hlocks := B.notSynchronized
  subst hsz
  have hD := hD0.self (sz := s.heap.size)
  generalize hAe : va_A [] s.heap.size = A at hD ⊢
  have hA : ∀ q : Nat, s.heap.size ≤ q → A q := fun q h => by rw [← hAe]; exact Or.inr h
  have hS : va_S A s.heap s.heap [] := va_S.rf
  have hl := lv_entry ([.int 4]) (n := 1) (Nat.le_of_ble_eq_true rfl)
  rw [lg_entry_eq]
  generalize (lg_sl ([.int 4]) ++ List.replicate (1 - (lg_sl ([.int 4])).length) Slot.unset).toArray = ls at hl ⊢
  have hl : lv_has ls 1 [(0, .int 4)] := hl
  have hP : va_P (dC, dI) cls [] s.heap := hP
  refine lv_iload_n hx hb dX15_blocksFor_0 rfl (lv_at hl 0 rfl) ?_
  refine lv_bipush (v := 121) hx hb dX15_blocksFor_1 (by decide) ?_
  refine lv_iadd hx hb dX15_blocksFor_3 ?_
  refine tk_i (y := 125) (by decide) ?_
  refine lv_iconst (v := 1) hx hb dX15_blocksFor_4 (by decide) ?_
  refine lv_isub hx hb dX15_blocksFor_5 ?_
  refine tk_i (y := 124) (by decide) ?_
  refine lv_bipush (v := 121) hx hb dX15_blocksFor_6 (by decide) ?_
  refine lv_idiv hx hb dX15_blocksFor_8 (by decide) ?_
  refine tk_i (y := 1) (by decide) ?_
  exact W.iret (v := 1) hx hb hr (fun t ht9 hW => ⟨⟨1, (), rfl, rfl, by rw [ht9]; exact hP.sub [] rfl, va_K.moved hW.alike (hK.sub [] rfl), hD.sub [] (by decide) rfl⟩, hS.F ht9⟩) hS.2.2 dX15_blocksFor_9
set_option maxHeartbeats 4000000 in
set_option maxRecDepth 100000 in
theorem r_hasRoom (l : Launch) (dC : Nat → ClassId) (dI : Nat → Nat → Nat) (sz : Nat) (q : Nat) (fs : List Value) (L_fs : fs.length = 163) (K156_fs : fs[156]? = some (.int 0)) (K160_fs : fs[160]? = some (.int 0)) : Met l yX15_hasRoom (Cond.code yX15_hasRoom cX15_hasRoom 2 (some .boolean) :: tb) ({ frames := 1, cells := 0, slots := 0, locals := 20 }) (pcw [.ref q, .int 1] (dC, dI) [(q, .inr (15, fs))] [] sz) (va_Qi (fun (r : Int32) => (fun (_ : Unit) => r = 1)) (bw (dC, dI) (va_A [(q, .inr (15, fs))] sz) (fun (_ : Unit) => [(q, .inr (15, fs))]) (fun (_ : Unit) => [])) (va_A [(q, .inr (15, fs))] sz)) 0 0 (va_A [(q, .inr (15, fs))] sz) := by
  refine Met.ofW (cc := cX15_hasRoom) (maxL := 2) (ret := (some .boolean)) (by decide) rfl ?_
  intro p e s m args below meth c s₁ B hml hv
  obtain ⟨rfl, hsz, hP, hK, hD0⟩ := hv
  have hx := B.exec
  have hb := B.bytes
  have hr := B.returns
  have hts := atoms_spec (ws := Cond.code yX15_hasRoom cX15_hasRoom 2 (some .boolean) :: tb) B.pre
  have ht : ∀ w ∈ tb, w.before _ s = true := fun w h => hts w (List.mem_cons_of_mem _ h)
  have hown : s.vm.findClass RX15 = some m.cls := findClass_of_methodNamed B.named
  have hlocks := B.notSynchronized
  subst hsz
  have hD := hD0.self (sz := s.heap.size)
  generalize hAe : va_A [(q, .inr (15, fs))] s.heap.size = A at hD ⊢
  have hA : ∀ q : Nat, s.heap.size ≤ q → A q := fun q h => by rw [← hAe]; exact Or.inr h
  have hS : va_S A s.heap s.heap [] := va_S.rf
  have hl := lv_entry ([.ref q, .int 1]) (n := 2) (Nat.le_of_ble_eq_true rfl)
  rw [lg_entry_eq]
  generalize (lg_sl ([.ref q, .int 1]) ++ List.replicate (2 - (lg_sl ([.ref q, .int 1])).length) Slot.unset).toArray = ls at hl ⊢
  have hl : lv_has ls 2 [(0, .ref q), (1, .int 1)] := hl
  have hP : va_P (dC, dI) cls [(q, .inr (15, fs))] s.heap := hP
  refine lv_aload_n hx hb dX15_hasRoom_0 rfl (lv_at hl 0 rfl) ?_
  refine va_get (D := (dC, dI)) (ci := 15) (v := .int 0) (C := RX15) (T := TX15) (N := 163) hx hb ht uX15 hown hK hP 0 rfl rfl 156 (by decide) (ht _ k_11_104) (fun _ h9 => h9) K156_fs dX15_hasRoom_1 ?_
  refine lv_iload_n hx hb dX15_hasRoom_4 rfl (lv_at hl 1 rfl) ?_
  refine lv_iadd hx hb dX15_hasRoom_5 ?_
  refine tk_i (y := 1) (by decide) ?_
  refine lv_iconst (v := 3) hx hb dX15_hasRoom_6 (by decide) ?_
  refine lv_iadd hx hb dX15_hasRoom_7 ?_
  refine tk_i (y := 4) (by decide) ?_
  refine ca_i (wr := [(q, .inr (15, fs))]) (va_runS (As := [.int 4]) (rest := []) ⟨hx, hb, hml, hown, ht⟩ (r_blocksFor l dC dI s.heap.size   ) (cwS 1 ht (gdS k_13_194 k_13_192 k_13_193 k_1_17) rfl rfl rfl (by decide +kernel) ⟨Nat.le_of_ble_eq_true rfl, Nat.le_of_ble_eq_true rfl⟩) ⟨pcw_blind, pcw_at hP hD hK [] [] (by decide) rfl rfl rfl⟩ rfl rfl hl.1 rfl (lv_room (Nat.le_of_ble_eq_true rfl)) dX15_hasRoom_8 ⟨Nat.le_of_ble_eq_true rfl, Nat.le_of_ble_eq_true rfl⟩) hP hD hK hS hA [] [0] rfl rfl (by decide) (by decide) (fun r1 u H locs w2 hK hP hD hS => ?_)
  have hK : va_K (dC, dI) cls [] s := hK
  have hP : va_P (dC, dI) cls [(q, .inr (15, fs))] H := hP
  have hD : va_D A [(q, .inr (15, fs))] := hD
  obtain rfl : r1 = 1 := w2
  refine lv_sipush (v := 200) hx hb dX15_hasRoom_11 (by decide) ?_
  refine lv_aload_n hx hb dX15_hasRoom_14 rfl (lv_at hl 0 rfl) ?_
  refine va_get (D := (dC, dI)) (ci := 15) (v := .int 0) (C := RX15) (T := TX15) (N := 163) hx hb ht uX15 hown hK hP 0 rfl rfl 160 (by decide) (ht _ k_11_108) (fun _ h9 => h9) K160_fs dX15_hasRoom_15 ?_
  refine lv_isub hx hb dX15_hasRoom_18 ?_
  refine tk_i (y := 200) (by decide) ?_
  refine lv_icmp_gt (tgt := 26) hx hb dX15_hasRoom_19 (by decide) (fun c0 => absurd c0 (by decide)) (fun _ => ?_)
  refine lv_iconst (v := 1) hx hb dX15_hasRoom_22 (by decide) ?_
  refine lv_goto (tgt := 27) hx hb dX15_hasRoom_23 (by decide) ?_
  exact W.zret (v := 1) hx hb hr rfl (fun t ht9 hW => ⟨⟨1, (), rfl, rfl, by rw [ht9]; exact hP.sub [0] rfl, va_K.moved hW.alike (hK.sub [] rfl), hD.sub [0] (by decide) rfl⟩, hS.F ht9⟩) hS.2.2 dX15_hasRoom_27
set_option maxHeartbeats 4000000 in
set_option maxRecDepth 100000 in
theorem r_record (l : Launch) (dC : Nat → ClassId) (dI : Nat → Nat → Nat) (sz : Nat) (q : Nat) (fs : List Value) (wa : Nat) (cA : ClassId) (fa : Nat → Int32) (md : Nat) (cM : ClassId) (fm : Nat → Int32) (w1 : Nat) (w2 : Nat) (w3 : Nat) (L_fs : fs.length = 163) (K128_fs : fs[128]? = some (.int 0)) (K129_fs : fs[129]? = some (.ref w1)) (K130_fs : fs[130]? = some (.ref w2)) (K131_fs : fs[131]? = some (.ref w3)) (K154_fs : fs[154]? = some (.int 0)) (K155_fs : fs[155]? = some (.ref wa)) (K156_fs : fs[156]? = some (.int 0)) : Met l yX15_record (Cond.code yX15_record cX15_record 6 none :: tb) ({ frames := 0, cells := 0, slots := 0, locals := 0 }) (pcw [.ref q, .int 4, .ref md, .int 0, .int 1] (dC, dI) [(q, .inr (15, fs)), (wa, .inl (cA, 24204, .inl fa)), (md, .inl (cM, 4000, .inl fm))] [(cA, .int), (cM, .int)] sz) (va_Qv (fun (fs1 : List Value) => (True) ∧ (fs1.length = 163) ∧ (fs1[128]? = some (.int 0)) ∧ (fs1[129]? = some (.ref w1)) ∧ (fs1[130]? = some (.ref w2)) ∧ (fs1[131]? = some (.ref w3))) (bw (dC, dI) (va_A [(q, .inr (15, fs)), (wa, .inl (cA, 24204, .inl fa)), (md, .inl (cM, 4000, .inl fm))] sz) (fun (fs1 : List Value) => [(q, .inr (15, fs1))]) (fun (fs1 : List Value) => [])) (va_A [(q, .inr (15, fs)), (wa, .inl (cA, 24204, .inl fa)), (md, .inl (cM, 4000, .inl fm))] sz)) 0 0 (va_A [(q, .inr (15, fs)), (wa, .inl (cA, 24204, .inl fa)), (md, .inl (cM, 4000, .inl fm))] sz) := by
  refine Met.ofW (cc := cX15_record) (maxL := 6) (ret := none) (by decide) rfl ?_
  intro p e s m args below meth c s₁ B hml hv
  obtain ⟨rfl, hsz, hP, hK, hD0⟩ := hv
  have hx := B.exec
  have hb := B.bytes
  have hr := B.returns
  have hts := atoms_spec (ws := Cond.code yX15_record cX15_record 6 none :: tb) B.pre
  have ht : ∀ w ∈ tb, w.before _ s = true := fun w h => hts w (List.mem_cons_of_mem _ h)
  have hown : s.vm.findClass RX15 = some m.cls := findClass_of_methodNamed B.named
  have hlocks := B.notSynchronized
  subst hsz
  have hD := hD0.self (sz := s.heap.size)
  generalize hAe : va_A [(q, .inr (15, fs)), (wa, .inl (cA, 24204, .inl fa)), (md, .inl (cM, 4000, .inl fm))] s.heap.size = A at hD ⊢
  have hA : ∀ q : Nat, s.heap.size ≤ q → A q := fun q h => by rw [← hAe]; exact Or.inr h
  have hS : va_S A s.heap s.heap [] := va_S.rf
  have hl := lv_entry ([.ref q, .int 4, .ref md, .int 0, .int 1]) (n := 6) (Nat.le_of_ble_eq_true rfl)
  rw [lg_entry_eq]
  generalize (lg_sl ([.ref q, .int 4, .ref md, .int 0, .int 1]) ++ List.replicate (6 - (lg_sl ([.ref q, .int 4, .ref md, .int 0, .int 1])).length) Slot.unset).toArray = ls at hl ⊢
  have hl : lv_has ls 6 [(0, .ref q), (1, .int 4), (2, .ref md), (3, .int 0), (4, .int 1)] := hl
  have hP : va_P (dC, dI) cls [(q, .inr (15, fs)), (wa, .inl (cA, 24204, .inl fa)), (md, .inl (cM, 4000, .inl fm))] s.heap := hP
  refine lv_aload_n hx hb dX15_record_0 rfl (lv_at hl 0 rfl) ?_
  refine va_get (D := (dC, dI)) (ci := 15) (v := .ref wa) (C := RX15) (T := TX15) (N := 163) hx hb ht uX15 hown hK hP 0 rfl rfl 155 (by decide) (ht _ k_11_103) (fun _ h9 => h9) K155_fs dX15_record_1 ?_
  refine lv_aload_n hx hb dX15_record_4 rfl (lv_at hl 0 rfl) ?_
  refine va_get (D := (dC, dI)) (ci := 15) (v := .int 0) (C := RX15) (T := TX15) (N := 163) hx hb ht uX15 hown hK hP 0 rfl rfl 156 (by decide) (ht _ k_11_104) (fun _ h9 => h9) K156_fs dX15_record_5 ?_
  refine lv_iload_n hx hb dX15_record_8 rfl (lv_at hl 1 rfl) ?_
  refine va_iast (i := 0) (x := 4) hx hb hK hP hD hS 1 0 rfl rfl (by unfold vp_in; decide) dX15_record_9 (fun H locs hP hD hS => ?_)
  obtain ⟨f1, ef1⟩ : ∃ g : Nat → Int32, g = upd fa (0 : Int32).toNatClampNeg 4 := ⟨_, rfl⟩
  rw [← ef1] at hP hD
  have hP : va_P (dC, dI) cls [(q, .inr (15, fs)), (wa, .inl (cA, 24204, .inl f1)), (md, .inl (cM, 4000, .inl fm))] H := hP
  have hD : va_D A [(q, .inr (15, fs)), (wa, .inl (cA, 24204, .inl f1)), (md, .inl (cM, 4000, .inl fm))] := hD
  refine lv_aload_n hx hb dX15_record_10 rfl (lv_at hl 0 rfl) ?_
  refine va_get (D := (dC, dI)) (ci := 15) (v := .ref wa) (C := RX15) (T := TX15) (N := 163) hx hb ht uX15 hown hK hP 0 rfl rfl 155 (by decide) (ht _ k_11_103) (fun _ h9 => h9) K155_fs dX15_record_11 ?_
  refine lv_aload_n hx hb dX15_record_14 rfl (lv_at hl 0 rfl) ?_
  refine va_get (D := (dC, dI)) (ci := 15) (v := .int 0) (C := RX15) (T := TX15) (N := 163) hx hb ht uX15 hown hK hP 0 rfl rfl 156 (by decide) (ht _ k_11_104) (fun _ h9 => h9) K156_fs dX15_record_15 ?_
  refine lv_iconst (v := 1) hx hb dX15_record_18 (by decide) ?_
  refine lv_iadd hx hb dX15_record_19 ?_
  refine tk_i (y := 1) (by decide) ?_
  refine lv_iload hx hb dX15_record_20 (lv_at hl 4 rfl) ?_
  refine lv_iload_n hx hb dX15_record_22 rfl (lv_at hl 3 rfl) ?_
  refine lv_isub hx hb dX15_record_23 ?_
  refine tk_i (y := 1) (by decide) ?_
  refine lv_bipush (v := 8) hx hb dX15_record_24 (by decide) ?_
  refine lv_ishr hx hb dX15_record_26 ?_
  refine tk_i (y := 0) (by decide) ?_
  refine va_iast (i := 1) (x := 0) hx hb hK hP hD hS 1 0 rfl rfl (by unfold vp_in; decide) dX15_record_27 (fun H locs hP hD hS => ?_)
  obtain ⟨f2, ef2⟩ : ∃ g : Nat → Int32, g = upd f1 (1 : Int32).toNatClampNeg 0 := ⟨_, rfl⟩
  rw [← ef2] at hP hD
  have hP : va_P (dC, dI) cls [(q, .inr (15, fs)), (wa, .inl (cA, 24204, .inl f2)), (md, .inl (cM, 4000, .inl fm))] H := hP
  have hD : va_D A [(q, .inr (15, fs)), (wa, .inl (cA, 24204, .inl f2)), (md, .inl (cM, 4000, .inl fm))] := hD
  refine lv_aload_n hx hb dX15_record_28 rfl (lv_at hl 0 rfl) ?_
  refine va_get (D := (dC, dI)) (ci := 15) (v := .ref wa) (C := RX15) (T := TX15) (N := 163) hx hb ht uX15 hown hK hP 0 rfl rfl 155 (by decide) (ht _ k_11_103) (fun _ h9 => h9) K155_fs dX15_record_29 ?_
  refine lv_aload_n hx hb dX15_record_32 rfl (lv_at hl 0 rfl) ?_
  refine va_get (D := (dC, dI)) (ci := 15) (v := .int 0) (C := RX15) (T := TX15) (N := 163) hx hb ht uX15 hown hK hP 0 rfl rfl 156 (by decide) (ht _ k_11_104) (fun _ h9 => h9) K156_fs dX15_record_33 ?_
  refine lv_iconst (v := 2) hx hb dX15_record_36 (by decide) ?_
  refine lv_iadd hx hb dX15_record_37 ?_
  refine tk_i (y := 2) (by decide) ?_
  refine lv_iload hx hb dX15_record_38 (lv_at hl 4 rfl) ?_
  refine lv_iload_n hx hb dX15_record_40 rfl (lv_at hl 3 rfl) ?_
  refine lv_isub hx hb dX15_record_41 ?_
  refine tk_i (y := 1) (by decide) ?_
  refine lv_sipush (v := 255) hx hb dX15_record_42 (by decide) ?_
  refine lv_iand hx hb dX15_record_45 ?_
  refine tk_i (y := 1) (by decide) ?_
  refine va_iast (i := 2) (x := 1) hx hb hK hP hD hS 1 0 rfl rfl (by unfold vp_in; decide) dX15_record_46 (fun H locs hP hD hS => ?_)
  obtain ⟨f3, ef3⟩ : ∃ g : Nat → Int32, g = upd f2 (2 : Int32).toNatClampNeg 1 := ⟨_, rfl⟩
  rw [← ef3] at hP hD
  have hP : va_P (dC, dI) cls [(q, .inr (15, fs)), (wa, .inl (cA, 24204, .inl f3)), (md, .inl (cM, 4000, .inl fm))] H := hP
  have hD : va_D A [(q, .inr (15, fs)), (wa, .inl (cA, 24204, .inl f3)), (md, .inl (cM, 4000, .inl fm))] := hD
  refine lv_iload_n hx hb dX15_record_47 rfl (lv_at hl 3 rfl) ?_
  refine lv_istore (lv' := [(5, .int 0), (0, .ref q), (1, .int 4), (2, .ref md), (3, .int 0), (4, .int 1)]) hx hb dX15_record_48 hl (by decide) rfl (fun ls hl => ?_)
  refine lv_iload hx hb dX15_record_50 (lv_at hl 0 rfl) ?_
  refine lv_iload hx hb dX15_record_52 (lv_at hl 5 rfl) ?_
  refine lv_icmp_ge (tgt := 83) hx hb dX15_record_54 (by decide) (fun c0 => absurd c0 (by decide)) (fun _ => ?_)
  refine lv_aload_n hx hb dX15_record_57 rfl (lv_at hl 1 rfl) ?_
  refine va_get (D := (dC, dI)) (ci := 15) (v := .ref wa) (C := RX15) (T := TX15) (N := 163) hx hb ht uX15 hown hK hP 0 rfl rfl 155 (by decide) (ht _ k_11_103) (fun _ h9 => h9) K155_fs dX15_record_58 ?_
  refine lv_aload_n hx hb dX15_record_61 rfl (lv_at hl 1 rfl) ?_
  refine va_get (D := (dC, dI)) (ci := 15) (v := .int 0) (C := RX15) (T := TX15) (N := 163) hx hb ht uX15 hown hK hP 0 rfl rfl 156 (by decide) (ht _ k_11_104) (fun _ h9 => h9) K156_fs dX15_record_62 ?_
  refine lv_iconst (v := 3) hx hb dX15_record_65 (by decide) ?_
  refine lv_iadd hx hb dX15_record_66 ?_
  refine tk_i (y := 3) (by decide) ?_
  refine lv_iload hx hb dX15_record_67 (lv_at hl 0 rfl) ?_
  refine lv_iadd hx hb dX15_record_69 ?_
  refine tk_i (y := 3) (by decide) ?_
  refine lv_iload_n hx hb dX15_record_70 rfl (lv_at hl 4 rfl) ?_
  refine lv_isub hx hb dX15_record_71 ?_
  refine tk_i (y := 3) (by decide) ?_
  refine lv_aload_n hx hb dX15_record_72 rfl (lv_at hl 3 rfl) ?_
  refine lv_iload hx hb dX15_record_73 (lv_at hl 0 rfl) ?_
  refine va_iald hx hb hK hP 2 1 rfl rfl (by unfold vp_in; decide) dX15_record_75 ?_
  refine tk_i (y := fm 0) (by first | rfl | decide) ?_
  refine lv_topi (fun x4 ex4 => ?_)
  refine va_iast (i := 3) (x := x4) hx hb hK hP hD hS 1 0 rfl rfl (by unfold vp_in; decide) dX15_record_76 (fun H locs hP hD hS => ?_)
  obtain ⟨f5, ef5⟩ : ∃ g : Nat → Int32, g = upd f3 (3 : Int32).toNatClampNeg x4 := ⟨_, rfl⟩
  rw [← ef5] at hP hD
  have hP : va_P (dC, dI) cls [(q, .inr (15, fs)), (wa, .inl (cA, 24204, .inl f5)), (md, .inl (cM, 4000, .inl fm))] H := hP
  have hD : va_D A [(q, .inr (15, fs)), (wa, .inl (cA, 24204, .inl f5)), (md, .inl (cM, 4000, .inl fm))] := hD
  refine lv_iinc (v := 1) (lv' := [(5, .int 1), (0, .ref q), (1, .int 4), (2, .ref md), (3, .int 0), (4, .int 1)]) hx hb dX15_record_77 hl (k := 0) rfl (by decide) (by decide) rfl (fun ls hl => ?_)
  refine lv_goto (tgt := 50) hx hb dX15_record_80 (by decide) ?_
  refine lv_iload hx hb dX15_record_50 (lv_at hl 0 rfl) ?_
  refine lv_iload hx hb dX15_record_52 (lv_at hl 5 rfl) ?_
  refine lv_icmp_ge (tgt := 83) hx hb dX15_record_54 (by decide) (fun _ => ?_) (fun c0 => absurd c0 (by decide))
  refine lv_aload_n hx hb dX15_record_83 rfl (lv_at hl 1 rfl) ?_
  refine lv_dup hx hb dX15_record_84 rfl ?_
  refine va_get (D := (dC, dI)) (ci := 15) (v := .int 0) (C := RX15) (T := TX15) (N := 163) hx hb ht uX15 hown hK hP 0 rfl rfl 156 (by decide) (ht _ k_11_104) (fun _ h9 => h9) K156_fs dX15_record_85 ?_
  refine lv_iconst (v := 3) hx hb dX15_record_88 (by decide) ?_
  refine lv_iload hx hb dX15_record_89 (lv_at hl 5 rfl) ?_
  refine lv_iadd hx hb dX15_record_91 ?_
  refine tk_i (y := 4) (by decide) ?_
  refine lv_iload_n hx hb dX15_record_92 rfl (lv_at hl 4 rfl) ?_
  refine lv_isub hx hb dX15_record_93 ?_
  refine tk_i (y := 4) (by decide) ?_
  refine lv_iadd hx hb dX15_record_94 ?_
  refine tk_i (y := 4) (by decide) ?_
  refine va_put (D := (dC, dI)) (ci := 15) (v := .int 4) (ty := .int) (C := RX15) (T := TX15) (N := 163) hx hb ht uX15 tyX15 tkX15 nmX15 hown hK hP hD hS 0 rfl rfl 156 (by decide) (ht _ k_11_104) (fun _ h9 => h9) rfl (by decide +kernel) rfl rfl (by rw [L_fs]; decide) dX15_record_95 (fun H locs hP hD hS => ?_)
  obtain ⟨F6, eF6⟩ : ∃ g : List Value, g = fs.set 156 (.int 4) := ⟨_, rfl⟩
  rw [← eF6] at hP hD
  have K128_F6 : F6[128]? = some (.int 0) := by rw [eF6, List.getElem?_set_ne (by decide)]; exact K128_fs
  have K129_F6 : F6[129]? = some (.ref w1) := by rw [eF6, List.getElem?_set_ne (by decide)]; exact K129_fs
  have K130_F6 : F6[130]? = some (.ref w2) := by rw [eF6, List.getElem?_set_ne (by decide)]; exact K130_fs
  have K131_F6 : F6[131]? = some (.ref w3) := by rw [eF6, List.getElem?_set_ne (by decide)]; exact K131_fs
  have K154_F6 : F6[154]? = some (.int 0) := by rw [eF6, List.getElem?_set_ne (by decide)]; exact K154_fs
  have K155_F6 : F6[155]? = some (.ref wa) := by rw [eF6, List.getElem?_set_ne (by decide)]; exact K155_fs
  have K156_F6 : F6[156]? = some (.int 4) := by rw [eF6]; exact List.getElem?_set_self (by rw [L_fs]; decide)
  have L_F6 : F6.length = 163 := by rw [eF6, List.length_set]; exact L_fs
  have hP : va_P (dC, dI) cls [(q, .inr (15, F6)), (wa, .inl (cA, 24204, .inl f5)), (md, .inl (cM, 4000, .inl fm))] H := hP
  have hD : va_D A [(q, .inr (15, F6)), (wa, .inl (cA, 24204, .inl f5)), (md, .inl (cM, 4000, .inl fm))] := hD
  refine lv_aload_n hx hb dX15_record_98 rfl (lv_at hl 1 rfl) ?_
  refine lv_dup hx hb dX15_record_99 rfl ?_
  refine va_get (D := (dC, dI)) (ci := 15) (v := .int 0) (C := RX15) (T := TX15) (N := 163) hx hb ht uX15 hown hK hP 0 rfl rfl 154 (by decide) (ht _ k_11_102) (fun _ h9 => h9) K154_F6 dX15_record_100 ?_
  refine lv_iconst (v := 1) hx hb dX15_record_103 (by decide) ?_
  refine lv_iadd hx hb dX15_record_104 ?_
  refine tk_i (y := 1) (by decide) ?_
  refine va_put (D := (dC, dI)) (ci := 15) (v := .int 1) (ty := .int) (C := RX15) (T := TX15) (N := 163) hx hb ht uX15 tyX15 tkX15 nmX15 hown hK hP hD hS 0 rfl rfl 154 (by decide) (ht _ k_11_102) (fun _ h9 => h9) rfl (by decide +kernel) rfl rfl (by rw [L_F6]; decide) dX15_record_105 (fun H locs hP hD hS => ?_)
  obtain ⟨F7, eF7⟩ : ∃ g : List Value, g = F6.set 154 (.int 1) := ⟨_, rfl⟩
  rw [← eF7] at hP hD
  have K128_F7 : F7[128]? = some (.int 0) := by rw [eF7, List.getElem?_set_ne (by decide)]; exact K128_F6
  have K129_F7 : F7[129]? = some (.ref w1) := by rw [eF7, List.getElem?_set_ne (by decide)]; exact K129_F6
  have K130_F7 : F7[130]? = some (.ref w2) := by rw [eF7, List.getElem?_set_ne (by decide)]; exact K130_F6
  have K131_F7 : F7[131]? = some (.ref w3) := by rw [eF7, List.getElem?_set_ne (by decide)]; exact K131_F6
  have K155_F7 : F7[155]? = some (.ref wa) := by rw [eF7, List.getElem?_set_ne (by decide)]; exact K155_F6
  have K156_F7 : F7[156]? = some (.int 4) := by rw [eF7, List.getElem?_set_ne (by decide)]; exact K156_F6
  have K154_F7 : F7[154]? = some (.int 1) := by rw [eF7]; exact List.getElem?_set_self (by rw [L_F6]; decide)
  have L_F7 : F7.length = 163 := by rw [eF7, List.length_set]; exact L_F6
  have hP : va_P (dC, dI) cls [(q, .inr (15, F7)), (wa, .inl (cA, 24204, .inl f5)), (md, .inl (cM, 4000, .inl fm))] H := hP
  have hD : va_D A [(q, .inr (15, F7)), (wa, .inl (cA, 24204, .inl f5)), (md, .inl (cM, 4000, .inl fm))] := hD
  exact W.vret hx hb hr (fun t ht9 hW => ⟨⟨(F7), rfl, ⟨trivial, L_F7, K128_F7, K129_F7, K130_F7, K131_F7⟩, by rw [ht9]; exact hP.sub [0] rfl, va_K.moved hW.alike (hK.sub [] rfl), hD.sub [0] (by decide) rfl⟩, hS.F ht9⟩) hS.2.2 dX15_record_108
set_option maxHeartbeats 4000000 in
set_option maxRecDepth 100000 in
theorem r_word_ (l : Launch) (dC : Nat → ClassId) (dI : Nat → Nat → Nat) (sz : Nat) (q : Nat) (fs : List Value) (wa : Nat) (cA : ClassId) (fa : Nat → Int32) (md : Nat) (cM : ClassId) (fm : Nat → Int32) (w1 : Nat) (w2 : Nat) (w3 : Nat) (d1 : ClassId) (g1 : Nat → Int32) (d2 : ClassId) (g2 : Nat → Int32) (d3 : ClassId) (g3 : Nat → Int32) (p0 : Int32) (L_fs : fs.length = 163) (K18_fs : fs[18]? = some (.ref md)) (K25_fs : fs[25]? = some (.int 0)) (K128_fs : fs[128]? = some (.int 0)) (K129_fs : fs[129]? = some (.ref w1)) (K130_fs : fs[130]? = some (.ref w2)) (K131_fs : fs[131]? = some (.ref w3)) (K154_fs : fs[154]? = some (.int 0)) (K155_fs : fs[155]? = some (.ref wa)) (K156_fs : fs[156]? = some (.int 0)) (K160_fs : fs[160]? = some (.int 0)) : Met l yX15_word_ (Cond.code yX15_word_ cX15_word_ 9 (some .int) :: tb) ({ frames := 2, cells := 0, slots := 0, locals := 41 }) (pcw [.ref q, .int 0, .int p0, .int 1] (dC, dI) [(q, .inr (15, fs)), (wa, .inl (cA, 24204, .inl fa)), (md, .inl (cM, 4000, .inl fm)), (w1, .inl (d1, 20, .inl g1)), (w2, .inl (d2, 20, .inl g2)), (w3, .inl (d3, 20, .inl g3))] [(cA, .int), (cM, .int), (d1, .int), (d2, .int), (d3, .boolean)] sz) (va_Qi (fun (r : Int32) => (fun (_ : Unit) => r = 1)) (bw (dC, dI) (va_A [(q, .inr (15, fs)), (wa, .inl (cA, 24204, .inl fa)), (md, .inl (cM, 4000, .inl fm)), (w1, .inl (d1, 20, .inl g1)), (w2, .inl (d2, 20, .inl g2)), (w3, .inl (d3, 20, .inl g3))] sz) (fun (_ : Unit) => []) (fun (_ : Unit) => [])) (va_A [(q, .inr (15, fs)), (wa, .inl (cA, 24204, .inl fa)), (md, .inl (cM, 4000, .inl fm)), (w1, .inl (d1, 20, .inl g1)), (w2, .inl (d2, 20, .inl g2)), (w3, .inl (d3, 20, .inl g3))] sz)) 0 0 (va_A [(q, .inr (15, fs)), (wa, .inl (cA, 24204, .inl fa)), (md, .inl (cM, 4000, .inl fm)), (w1, .inl (d1, 20, .inl g1)), (w2, .inl (d2, 20, .inl g2)), (w3, .inl (d3, 20, .inl g3))] sz) := by
  refine Met.ofW (cc := cX15_word_) (maxL := 9) (ret := (some .int)) (by decide) rfl ?_
  intro p e s m args below meth c s₁ B hml hv
  obtain ⟨rfl, hsz, hP, hK, hD0⟩ := hv
  have hx := B.exec
  have hb := B.bytes
  have hr := B.returns
  have hts := atoms_spec (ws := Cond.code yX15_word_ cX15_word_ 9 (some .int) :: tb) B.pre
  have ht : ∀ w ∈ tb, w.before _ s = true := fun w h => hts w (List.mem_cons_of_mem _ h)
  have hown : s.vm.findClass RX15 = some m.cls := findClass_of_methodNamed B.named
  have hlocks := B.notSynchronized
  subst hsz
  have hD := hD0.self (sz := s.heap.size)
  generalize hAe : va_A [(q, .inr (15, fs)), (wa, .inl (cA, 24204, .inl fa)), (md, .inl (cM, 4000, .inl fm)), (w1, .inl (d1, 20, .inl g1)), (w2, .inl (d2, 20, .inl g2)), (w3, .inl (d3, 20, .inl g3))] s.heap.size = A at hD ⊢
  have hA : ∀ q : Nat, s.heap.size ≤ q → A q := fun q h => by rw [← hAe]; exact Or.inr h
  have hS : va_S A s.heap s.heap [] := va_S.rf
  have hl := lv_entry ([.ref q, .int 0, .int p0, .int 1]) (n := 9) (Nat.le_of_ble_eq_true rfl)
  rw [lg_entry_eq]
  generalize (lg_sl ([.ref q, .int 0, .int p0, .int 1]) ++ List.replicate (9 - (lg_sl ([.ref q, .int 0, .int p0, .int 1])).length) Slot.unset).toArray = ls at hl ⊢
  have hl : lv_has ls 9 [(0, .ref q), (1, .int 0), (2, .int p0), (3, .int 1)] := hl
  have hP : va_P (dC, dI) cls [(q, .inr (15, fs)), (wa, .inl (cA, 24204, .inl fa)), (md, .inl (cM, 4000, .inl fm)), (w1, .inl (d1, 20, .inl g1)), (w2, .inl (d2, 20, .inl g2)), (w3, .inl (d3, 20, .inl g3))] s.heap := hP
  refine lv_aload_n hx hb dX15_word__0 rfl (lv_at hl 0 rfl) ?_
  refine va_get (D := (dC, dI)) (ci := 15) (v := .int 0) (C := RX15) (T := TX15) (N := 163) hx hb ht uX15 hown hK hP 0 rfl rfl 25 (by decide) (ht _ k_10_213) (fun _ h9 => h9) K25_fs dX15_word__1 ?_
  refine lv_iload_n hx hb dX15_word__4 rfl (lv_at hl 1 rfl) ?_
  refine lv_isub hx hb dX15_word__5 ?_
  refine tk_i (y := 0) (by decide) ?_
  refine lv_istore (lv' := [(4, .int 0), (0, .ref q), (1, .int 0), (2, .int p0), (3, .int 1)]) hx hb dX15_word__6 hl (by decide) rfl (fun ls hl => ?_)
  refine lv_iload hx hb dX15_word__8 (lv_at hl 0 rfl) ?_
  refine lv_bipush (v := 8) hx hb dX15_word__10 (by decide) ?_
  refine lv_icmp_gt (tgt := 19) hx hb dX15_word__12 (by decide) (fun c0 => absurd c0 (by decide)) (fun _ => ?_)
  refine lv_iconst (v := 1) hx hb dX15_word__15 (by decide) ?_
  refine lv_goto (tgt := 20) hx hb dX15_word__16 (by decide) ?_
  refine lv_istore (lv' := [(5, .int 1), (4, .int 0), (0, .ref q), (1, .int 0), (2, .int p0), (3, .int 1)]) hx hb dX15_word__20 hl (by decide) rfl (fun ls hl => ?_)
  refine lv_iconst (v := 0) hx hb dX15_word__22 (by decide) ?_
  refine lv_istore (lv' := [(6, .int 0), (5, .int 1), (4, .int 0), (0, .ref q), (1, .int 0), (2, .int p0), (3, .int 1)]) hx hb dX15_word__23 hl (by decide) rfl (fun ls hl => ?_)
  refine lv_iconst (v := 0) hx hb dX15_word__25 (by decide) ?_
  refine lv_istore (lv' := [(7, .int 0), (6, .int 0), (5, .int 1), (4, .int 0), (0, .ref q), (1, .int 0), (2, .int p0), (3, .int 1)]) hx hb dX15_word__26 hl (by decide) rfl (fun ls hl => ?_)
  refine lv_iload hx hb dX15_word__28 (lv_at hl 0 rfl) ?_
  refine lv_iload hx hb dX15_word__30 (lv_at hl 3 rfl) ?_
  refine lv_icmp_ge (tgt := 98) hx hb dX15_word__32 (by decide) (fun _ => ?_) (fun c0 => absurd c0 (by decide))
  refine lv_iload hx hb dX15_word__98 (lv_at hl 2 rfl) ?_
  refine lv_if_ne (tgt := 105) hx hb dX15_word__100 (by decide) (fun _ => ?_) (fun c0 => absurd c0 (by decide))
  refine lv_iconst (v := 0) hx hb dX15_word__105 (by decide) ?_
  refine lv_istore (lv' := [(7, .int 0), (6, .int 0), (5, .int 1), (4, .int 0), (0, .ref q), (1, .int 0), (2, .int p0), (3, .int 1)]) hx hb dX15_word__106 hl (by decide) rfl (fun ls hl => ?_)
  refine lv_iload hx hb dX15_word__108 (lv_at hl 0 rfl) ?_
  refine lv_aload_n hx hb dX15_word__110 rfl (lv_at hl 4 rfl) ?_
  refine va_get (D := (dC, dI)) (ci := 15) (v := .int 0) (C := RX15) (T := TX15) (N := 163) hx hb ht uX15 hown hK hP 0 rfl rfl 128 (by decide) (ht _ k_11_76) (fun _ h9 => h9) K128_fs dX15_word__111 ?_
  refine lv_icmp_ge (tgt := 168) hx hb dX15_word__114 (by decide) (fun _ => ?_) (fun c0 => absurd c0 (by decide))
  refine lv_aload_n hx hb dX15_word__168 rfl (lv_at hl 4 rfl) ?_
  refine va_get (D := (dC, dI)) (ci := 15) (v := .int 0) (C := RX15) (T := TX15) (N := 163) hx hb ht uX15 hown hK hP 0 rfl rfl 128 (by decide) (ht _ k_11_76) (fun _ h9 => h9) K128_fs dX15_word__169 ?_
  refine lv_bipush (v := 20) hx hb dX15_word__172 (by decide) ?_
  refine lv_icmp_eq (tgt := 192) hx hb dX15_word__174 (by decide) (fun c0 => absurd c0 (by decide)) (fun _ => ?_)
  refine lv_iload_n hx hb dX15_word__177 rfl (lv_at hl 7 rfl) ?_
  refine lv_if_eq (tgt := 195) hx hb dX15_word__178 (by decide) (fun c0 => absurd c0 (by decide)) (fun _ => ?_)
  refine lv_aload_n hx hb dX15_word__181 rfl (lv_at hl 4 rfl) ?_
  refine lv_iload hx hb dX15_word__182 (lv_at hl 3 rfl) ?_
  refine lv_iconst (v := 1) hx hb dX15_word__184 (by decide) ?_
  refine lv_iadd hx hb dX15_word__185 ?_
  refine tk_i (y := 1) (by decide) ?_
  refine ca_i (wr := [(wa, .inl (cA, 24204, .inl fa)), (md, .inl (cM, 4000, .inl fm)), (w1, .inl (d1, 20, .inl g1)), (w2, .inl (d2, 20, .inl g2)), (w3, .inl (d3, 20, .inl g3))]) (va_runV (As := [.int 1]) (rest := []) ⟨hx, hb, hml, hown, ht⟩ (r_hasRoom l dC dI s.heap.size q fs L_fs K156_fs K160_fs ) (cwV 1 ht (gdV k_13_191 k_13_188 k_13_190 ks_148 k_1_17) rfl rfl rfl (by decide +kernel) ⟨Nat.le_of_ble_eq_true rfl, Nat.le_of_ble_eq_true rfl⟩) ⟨pcw_blind, va_recv hK hP (ci := 15) (q0 := 0) rfl rfl, pcw_at hP hD hK [0] [] (by decide) rfl rfl rfl⟩ rfl rfl hl.1 rfl (lv_room (Nat.le_of_ble_eq_true rfl)) dX15_word__186 ⟨Nat.le_of_ble_eq_true rfl, Nat.le_of_ble_eq_true rfl⟩) hP hD hK hS hA [0] [1, 2, 3, 4, 5] rfl rfl (by decide) (by decide) (fun r1 u H locs w2 hK hP hD hS => ?_)
  have hK : va_K (dC, dI) cls [(cA, .int), (cM, .int), (d1, .int), (d2, .int), (d3, .boolean)] s := hK
  have hP : va_P (dC, dI) cls [(wa, .inl (cA, 24204, .inl fa)), (md, .inl (cM, 4000, .inl fm)), (w1, .inl (d1, 20, .inl g1)), (w2, .inl (d2, 20, .inl g2)), (w3, .inl (d3, 20, .inl g3)), (q, .inr (15, fs))] H := hP
  have hD : va_D A [(wa, .inl (cA, 24204, .inl fa)), (md, .inl (cM, 4000, .inl fm)), (w1, .inl (d1, 20, .inl g1)), (w2, .inl (d2, 20, .inl g2)), (w3, .inl (d3, 20, .inl g3)), (q, .inr (15, fs))] := hD
  obtain rfl : r1 = 1 := w2
  refine lv_if_ne (tgt := 195) hx hb dX15_word__189 (by decide) (fun _ => ?_) (fun c0 => absurd c0 (by decide))
  refine lv_iload_n hx hb dX15_word__195 rfl (lv_at hl 7 rfl) ?_
  refine lv_if_eq (tgt := 262) hx hb dX15_word__196 (by decide) (fun c0 => absurd c0 (by decide)) (fun _ => ?_)
  refine lv_aload_n hx hb dX15_word__199 rfl (lv_at hl 4 rfl) ?_
  refine va_get (D := (dC, dI)) (ci := 15) (v := .ref md) (C := RX15) (T := TX15) (N := 163) hx hb ht uX15 hown hK hP 5 rfl rfl 18 (by decide) (ht _ k_10_206) (fun _ h9 => h9) K18_fs dX15_word__200 ?_
  refine lv_iconst (v := 0) hx hb dX15_word__203 (by decide) ?_
  refine lv_iload_n hx hb dX15_word__204 rfl (lv_at hl 6 rfl) ?_
  refine lv_if_eq (tgt := 212) hx hb dX15_word__205 (by decide) (fun b3 => ?_) (fun b3 => ?_)
  · refine lv_iconst (v := 0) hx hb dX15_word__212 (by decide) ?_
    refine va_iast (i := 0) (x := 0) hx hb hK hP hD hS 1 1 rfl rfl (by unfold vp_in; decide) dX15_word__213 (fun H locs hP hD hS => ?_)
    obtain ⟨f4, ef4⟩ : ∃ g : Nat → Int32, g = upd fm (0 : Int32).toNatClampNeg 0 := ⟨_, rfl⟩
    rw [← ef4] at hP hD
    have hP : va_P (dC, dI) cls [(wa, .inl (cA, 24204, .inl fa)), (md, .inl (cM, 4000, .inl f4)), (w1, .inl (d1, 20, .inl g1)), (w2, .inl (d2, 20, .inl g2)), (w3, .inl (d3, 20, .inl g3)), (q, .inr (15, fs))] H := hP
    have hD : va_D A [(wa, .inl (cA, 24204, .inl fa)), (md, .inl (cM, 4000, .inl f4)), (w1, .inl (d1, 20, .inl g1)), (w2, .inl (d2, 20, .inl g2)), (w3, .inl (d3, 20, .inl g3)), (q, .inr (15, fs))] := hD
    refine lv_iconst (v := 0) hx hb dX15_word__214 (by decide) ?_
    refine lv_istore (lv' := [(7, .int 0), (6, .int 0), (5, .int 1), (4, .int 0), (0, .ref q), (1, .int 0), (2, .int p0), (3, .int 1)]) hx hb dX15_word__215 hl (by decide) rfl (fun ls hl => ?_)
    refine lv_iload hx hb dX15_word__217 (lv_at hl 0 rfl) ?_
    refine lv_iload hx hb dX15_word__219 (lv_at hl 3 rfl) ?_
    refine lv_icmp_ge (tgt := 248) hx hb dX15_word__221 (by decide) (fun _ => ?_) (fun c0 => absurd c0 (by decide))
    refine lv_aload_n hx hb dX15_word__248 rfl (lv_at hl 4 rfl) ?_
    refine lv_iconst (v := 4) hx hb dX15_word__249 (by decide) ?_
    refine lv_aload_n hx hb dX15_word__250 rfl (lv_at hl 4 rfl) ?_
    refine va_get (D := (dC, dI)) (ci := 15) (v := .ref md) (C := RX15) (T := TX15) (N := 163) hx hb ht uX15 hown hK hP 5 rfl rfl 18 (by decide) (ht _ k_10_206) (fun _ h9 => h9) K18_fs dX15_word__251 ?_
    refine lv_iconst (v := 0) hx hb dX15_word__254 (by decide) ?_
    refine lv_iload hx hb dX15_word__255 (lv_at hl 3 rfl) ?_
    refine lv_iconst (v := 1) hx hb dX15_word__257 (by decide) ?_
    refine lv_iadd hx hb dX15_word__258 ?_
    refine tk_i (y := 1) (by decide) ?_
    refine ca_v (wr := [(w1, .inl (d1, 20, .inl g1)), (w2, .inl (d2, 20, .inl g2)), (w3, .inl (d3, 20, .inl g3))]) (va_runV (As := [.int 4, .ref md, .int 0, .int 1]) (rest := []) ⟨hx, hb, hml, hown, ht⟩ (r_record l dC dI H.size q fs wa cA fa md cM f4 w1 w2 w3 L_fs K128_fs K129_fs K130_fs K131_fs K154_fs K155_fs K156_fs ) (cwV 4 ht (gdV k_13_198 k_13_195 k_13_197 ks_149 k_1_17) rfl rfl rfl (by decide +kernel) ⟨Nat.le_of_ble_eq_true rfl, Nat.le_of_ble_eq_true rfl⟩) ⟨pcw_blind, va_recv hK hP (ci := 15) (q0 := 5) rfl rfl, pcw_at hP hD hK [5, 0, 1] [0, 1] (by decide) rfl rfl rfl⟩ rfl rfl hl.1 rfl (lv_room (Nat.le_of_ble_eq_true rfl)) dX15_word__259 ⟨Nat.le_of_ble_eq_true rfl, Nat.le_of_ble_eq_true rfl⟩) hP hD hK hS hA [5, 0, 1] [2, 3, 4] rfl rfl (by decide) (by decide) (fun u H locs w6 hK hP hD hS => ?_)
    obtain ⟨F7, rfl⟩ : ∃ z, z = u := ⟨_, rfl⟩
    have hK : va_K (dC, dI) cls [(cA, .int), (cM, .int), (d1, .int), (d2, .int), (d3, .boolean)] s := hK
    have hP : va_P (dC, dI) cls [(w1, .inl (d1, 20, .inl g1)), (w2, .inl (d2, 20, .inl g2)), (w3, .inl (d3, 20, .inl g3)), (q, .inr (15, F7))] H := hP
    have hD : va_D A [(w1, .inl (d1, 20, .inl g1)), (w2, .inl (d2, 20, .inl g2)), (w3, .inl (d3, 20, .inl g3)), (q, .inr (15, F7))] := hD
    obtain ⟨w6, K8, K9, K10, K11, K12⟩ := w6
    refine lv_aload_n hx hb dX15_word__262 rfl (lv_at hl 4 rfl) ?_
    refine va_get (D := (dC, dI)) (ci := 15) (v := .ref w1) (C := RX15) (T := TX15) (N := 163) hx hb ht uX15 hown hK hP 3 rfl rfl 129 (by decide) (ht _ k_11_77) (fun _ h9 => h9) K10 dX15_word__263 ?_
    refine lv_aload_n hx hb dX15_word__266 rfl (lv_at hl 4 rfl) ?_
    refine va_get (D := (dC, dI)) (ci := 15) (v := .int 0) (C := RX15) (T := TX15) (N := 163) hx hb ht uX15 hown hK hP 3 rfl rfl 128 (by decide) (ht _ k_11_76) (fun _ h9 => h9) K9 dX15_word__267 ?_
    refine lv_iload hx hb dX15_word__270 (lv_at hl 3 rfl) ?_
    refine va_iast (i := 0) (x := 0) hx hb hK hP hD hS 0 2 rfl rfl (by unfold vp_in; decide) dX15_word__272 (fun H locs hP hD hS => ?_)
    obtain ⟨f13, ef13⟩ : ∃ g : Nat → Int32, g = upd g1 (0 : Int32).toNatClampNeg 0 := ⟨_, rfl⟩
    rw [← ef13] at hP hD
    have hP : va_P (dC, dI) cls [(w1, .inl (d1, 20, .inl f13)), (w2, .inl (d2, 20, .inl g2)), (w3, .inl (d3, 20, .inl g3)), (q, .inr (15, F7))] H := hP
    have hD : va_D A [(w1, .inl (d1, 20, .inl f13)), (w2, .inl (d2, 20, .inl g2)), (w3, .inl (d3, 20, .inl g3)), (q, .inr (15, F7))] := hD
    refine lv_aload_n hx hb dX15_word__273 rfl (lv_at hl 4 rfl) ?_
    refine va_get (D := (dC, dI)) (ci := 15) (v := .ref w2) (C := RX15) (T := TX15) (N := 163) hx hb ht uX15 hown hK hP 3 rfl rfl 130 (by decide) (ht _ k_11_78) (fun _ h9 => h9) K11 dX15_word__274 ?_
    refine lv_aload_n hx hb dX15_word__277 rfl (lv_at hl 4 rfl) ?_
    refine va_get (D := (dC, dI)) (ci := 15) (v := .int 0) (C := RX15) (T := TX15) (N := 163) hx hb ht uX15 hown hK hP 3 rfl rfl 128 (by decide) (ht _ k_11_76) (fun _ h9 => h9) K9 dX15_word__278 ?_
    refine lv_iload hx hb dX15_word__281 (lv_at hl 1 rfl) ?_
    refine va_iast (i := 0) (x := 0) hx hb hK hP hD hS 1 3 rfl rfl (by unfold vp_in; decide) dX15_word__283 (fun H locs hP hD hS => ?_)
    obtain ⟨f14, ef14⟩ : ∃ g : Nat → Int32, g = upd g2 (0 : Int32).toNatClampNeg 0 := ⟨_, rfl⟩
    rw [← ef14] at hP hD
    have hP : va_P (dC, dI) cls [(w1, .inl (d1, 20, .inl f13)), (w2, .inl (d2, 20, .inl f14)), (w3, .inl (d3, 20, .inl g3)), (q, .inr (15, F7))] H := hP
    have hD : va_D A [(w1, .inl (d1, 20, .inl f13)), (w2, .inl (d2, 20, .inl f14)), (w3, .inl (d3, 20, .inl g3)), (q, .inr (15, F7))] := hD
    refine lv_aload_n hx hb dX15_word__284 rfl (lv_at hl 4 rfl) ?_
    refine va_get (D := (dC, dI)) (ci := 15) (v := .ref w3) (C := RX15) (T := TX15) (N := 163) hx hb ht uX15 hown hK hP 3 rfl rfl 131 (by decide) (ht _ k_11_79) (fun _ h9 => h9) K12 dX15_word__285 ?_
    refine lv_aload_n hx hb dX15_word__288 rfl (lv_at hl 4 rfl) ?_
    refine va_get (D := (dC, dI)) (ci := 15) (v := .int 0) (C := RX15) (T := TX15) (N := 163) hx hb ht uX15 hown hK hP 3 rfl rfl 128 (by decide) (ht _ k_11_76) (fun _ h9 => h9) K9 dX15_word__289 ?_
    refine lv_iload_n hx hb dX15_word__292 rfl (lv_at hl 6 rfl) ?_
    refine va_zast (i := 0) (x := p0) hx hb hK hP hD hS 2 4 rfl rfl (by unfold vp_in; decide) dX15_word__293 (fun H locs hP hD hS => ?_)
    obtain ⟨f15, ef15⟩ : ∃ g : Nat → Int32, g = upd g3 (0 : Int32).toNatClampNeg (vp_nar .boolean p0) := ⟨_, rfl⟩
    rw [← ef15] at hP hD
    have hP : va_P (dC, dI) cls [(w1, .inl (d1, 20, .inl f13)), (w2, .inl (d2, 20, .inl f14)), (w3, .inl (d3, 20, .inl f15)), (q, .inr (15, F7))] H := hP
    have hD : va_D A [(w1, .inl (d1, 20, .inl f13)), (w2, .inl (d2, 20, .inl f14)), (w3, .inl (d3, 20, .inl f15)), (q, .inr (15, F7))] := hD
    refine lv_aload_n hx hb dX15_word__294 rfl (lv_at hl 4 rfl) ?_
    refine lv_dup hx hb dX15_word__295 rfl ?_
    refine va_get (D := (dC, dI)) (ci := 15) (v := .int 0) (C := RX15) (T := TX15) (N := 163) hx hb ht uX15 hown hK hP 3 rfl rfl 128 (by decide) (ht _ k_11_76) (fun _ h9 => h9) K9 dX15_word__296 ?_
    refine lv_iconst (v := 1) hx hb dX15_word__299 (by decide) ?_
    refine lv_iadd hx hb dX15_word__300 ?_
    refine tk_i (y := 1) (by decide) ?_
    refine va_put (D := (dC, dI)) (ci := 15) (v := .int 1) (ty := .int) (C := RX15) (T := TX15) (N := 163) hx hb ht uX15 tyX15 tkX15 nmX15 hown hK hP hD hS 3 rfl rfl 128 (by decide) (ht _ k_11_76) (fun _ h9 => h9) rfl (by decide +kernel) rfl rfl (by rw [K8]; decide) dX15_word__301 (fun H locs hP hD hS => ?_)
    obtain ⟨F16, eF16⟩ : ∃ g : List Value, g = F7.set 128 (.int 1) := ⟨_, rfl⟩
    rw [← eF16] at hP hD
    have K129_F16 : F16[129]? = some (.ref w1) := by rw [eF16, List.getElem?_set_ne (by decide)]; exact K10
    have K130_F16 : F16[130]? = some (.ref w2) := by rw [eF16, List.getElem?_set_ne (by decide)]; exact K11
    have K131_F16 : F16[131]? = some (.ref w3) := by rw [eF16, List.getElem?_set_ne (by decide)]; exact K12
    have K128_F16 : F16[128]? = some (.int 1) := by rw [eF16]; exact List.getElem?_set_self (by rw [K8]; decide)
    have L_F16 : F16.length = 163 := by rw [eF16, List.length_set]; exact K8
    have hP : va_P (dC, dI) cls [(w1, .inl (d1, 20, .inl f13)), (w2, .inl (d2, 20, .inl f14)), (w3, .inl (d3, 20, .inl f15)), (q, .inr (15, F16))] H := hP
    have hD : va_D A [(w1, .inl (d1, 20, .inl f13)), (w2, .inl (d2, 20, .inl f14)), (w3, .inl (d3, 20, .inl f15)), (q, .inr (15, F16))] := hD
    refine lv_aload_n hx hb dX15_word__304 rfl (lv_at hl 4 rfl) ?_
    refine va_get (D := (dC, dI)) (ci := 15) (v := .int 1) (C := RX15) (T := TX15) (N := 163) hx hb ht uX15 hown hK hP 3 rfl rfl 128 (by decide) (ht _ k_11_76) (fun _ h9 => h9) K128_F16 dX15_word__305 ?_
    exact W.iret (v := 1) hx hb hr (fun t ht9 hW => ⟨⟨1, (), rfl, rfl, by rw [ht9]; exact hP.sub [] rfl, va_K.moved hW.alike (hK.sub [] rfl), hD.sub [] (by decide) rfl⟩, hS.F ht9⟩) hS.2.2 dX15_word__308
  · refine lv_iconst (v := 1) hx hb dX15_word__208 (by decide) ?_
    refine lv_goto (tgt := 213) hx hb dX15_word__209 (by decide) ?_
    refine va_iast (i := 0) (x := 1) hx hb hK hP hD hS 1 1 rfl rfl (by unfold vp_in; decide) dX15_word__213 (fun H locs hP hD hS => ?_)
    obtain ⟨f17, ef17⟩ : ∃ g : Nat → Int32, g = upd fm (0 : Int32).toNatClampNeg 1 := ⟨_, rfl⟩
    rw [← ef17] at hP hD
    have hP : va_P (dC, dI) cls [(wa, .inl (cA, 24204, .inl fa)), (md, .inl (cM, 4000, .inl f17)), (w1, .inl (d1, 20, .inl g1)), (w2, .inl (d2, 20, .inl g2)), (w3, .inl (d3, 20, .inl g3)), (q, .inr (15, fs))] H := hP
    have hD : va_D A [(wa, .inl (cA, 24204, .inl fa)), (md, .inl (cM, 4000, .inl f17)), (w1, .inl (d1, 20, .inl g1)), (w2, .inl (d2, 20, .inl g2)), (w3, .inl (d3, 20, .inl g3)), (q, .inr (15, fs))] := hD
    refine lv_iconst (v := 0) hx hb dX15_word__214 (by decide) ?_
    refine lv_istore (lv' := [(7, .int 0), (6, .int 0), (5, .int 1), (4, .int 0), (0, .ref q), (1, .int 0), (2, .int p0), (3, .int 1)]) hx hb dX15_word__215 hl (by decide) rfl (fun ls hl => ?_)
    refine lv_iload hx hb dX15_word__217 (lv_at hl 0 rfl) ?_
    refine lv_iload hx hb dX15_word__219 (lv_at hl 3 rfl) ?_
    refine lv_icmp_ge (tgt := 248) hx hb dX15_word__221 (by decide) (fun _ => ?_) (fun c0 => absurd c0 (by decide))
    refine lv_aload_n hx hb dX15_word__248 rfl (lv_at hl 4 rfl) ?_
    refine lv_iconst (v := 4) hx hb dX15_word__249 (by decide) ?_
    refine lv_aload_n hx hb dX15_word__250 rfl (lv_at hl 4 rfl) ?_
    refine va_get (D := (dC, dI)) (ci := 15) (v := .ref md) (C := RX15) (T := TX15) (N := 163) hx hb ht uX15 hown hK hP 5 rfl rfl 18 (by decide) (ht _ k_10_206) (fun _ h9 => h9) K18_fs dX15_word__251 ?_
    refine lv_iconst (v := 0) hx hb dX15_word__254 (by decide) ?_
    refine lv_iload hx hb dX15_word__255 (lv_at hl 3 rfl) ?_
    refine lv_iconst (v := 1) hx hb dX15_word__257 (by decide) ?_
    refine lv_iadd hx hb dX15_word__258 ?_
    refine tk_i (y := 1) (by decide) ?_
    refine ca_v (wr := [(w1, .inl (d1, 20, .inl g1)), (w2, .inl (d2, 20, .inl g2)), (w3, .inl (d3, 20, .inl g3))]) (va_runV (As := [.int 4, .ref md, .int 0, .int 1]) (rest := []) ⟨hx, hb, hml, hown, ht⟩ (r_record l dC dI H.size q fs wa cA fa md cM f17 w1 w2 w3 L_fs K128_fs K129_fs K130_fs K131_fs K154_fs K155_fs K156_fs ) (cwV 4 ht (gdV k_13_198 k_13_195 k_13_197 ks_149 k_1_17) rfl rfl rfl (by decide +kernel) ⟨Nat.le_of_ble_eq_true rfl, Nat.le_of_ble_eq_true rfl⟩) ⟨pcw_blind, va_recv hK hP (ci := 15) (q0 := 5) rfl rfl, pcw_at hP hD hK [5, 0, 1] [0, 1] (by decide) rfl rfl rfl⟩ rfl rfl hl.1 rfl (lv_room (Nat.le_of_ble_eq_true rfl)) dX15_word__259 ⟨Nat.le_of_ble_eq_true rfl, Nat.le_of_ble_eq_true rfl⟩) hP hD hK hS hA [5, 0, 1] [2, 3, 4] rfl rfl (by decide) (by decide) (fun u H locs w19 hK hP hD hS => ?_)
    obtain ⟨F20, rfl⟩ : ∃ z, z = u := ⟨_, rfl⟩
    have hK : va_K (dC, dI) cls [(cA, .int), (cM, .int), (d1, .int), (d2, .int), (d3, .boolean)] s := hK
    have hP : va_P (dC, dI) cls [(w1, .inl (d1, 20, .inl g1)), (w2, .inl (d2, 20, .inl g2)), (w3, .inl (d3, 20, .inl g3)), (q, .inr (15, F20))] H := hP
    have hD : va_D A [(w1, .inl (d1, 20, .inl g1)), (w2, .inl (d2, 20, .inl g2)), (w3, .inl (d3, 20, .inl g3)), (q, .inr (15, F20))] := hD
    obtain ⟨w19, K21, K22, K23, K24, K25⟩ := w19
    refine lv_aload_n hx hb dX15_word__262 rfl (lv_at hl 4 rfl) ?_
    refine va_get (D := (dC, dI)) (ci := 15) (v := .ref w1) (C := RX15) (T := TX15) (N := 163) hx hb ht uX15 hown hK hP 3 rfl rfl 129 (by decide) (ht _ k_11_77) (fun _ h9 => h9) K23 dX15_word__263 ?_
    refine lv_aload_n hx hb dX15_word__266 rfl (lv_at hl 4 rfl) ?_
    refine va_get (D := (dC, dI)) (ci := 15) (v := .int 0) (C := RX15) (T := TX15) (N := 163) hx hb ht uX15 hown hK hP 3 rfl rfl 128 (by decide) (ht _ k_11_76) (fun _ h9 => h9) K22 dX15_word__267 ?_
    refine lv_iload hx hb dX15_word__270 (lv_at hl 3 rfl) ?_
    refine va_iast (i := 0) (x := 0) hx hb hK hP hD hS 0 2 rfl rfl (by unfold vp_in; decide) dX15_word__272 (fun H locs hP hD hS => ?_)
    obtain ⟨f26, ef26⟩ : ∃ g : Nat → Int32, g = upd g1 (0 : Int32).toNatClampNeg 0 := ⟨_, rfl⟩
    rw [← ef26] at hP hD
    have hP : va_P (dC, dI) cls [(w1, .inl (d1, 20, .inl f26)), (w2, .inl (d2, 20, .inl g2)), (w3, .inl (d3, 20, .inl g3)), (q, .inr (15, F20))] H := hP
    have hD : va_D A [(w1, .inl (d1, 20, .inl f26)), (w2, .inl (d2, 20, .inl g2)), (w3, .inl (d3, 20, .inl g3)), (q, .inr (15, F20))] := hD
    refine lv_aload_n hx hb dX15_word__273 rfl (lv_at hl 4 rfl) ?_
    refine va_get (D := (dC, dI)) (ci := 15) (v := .ref w2) (C := RX15) (T := TX15) (N := 163) hx hb ht uX15 hown hK hP 3 rfl rfl 130 (by decide) (ht _ k_11_78) (fun _ h9 => h9) K24 dX15_word__274 ?_
    refine lv_aload_n hx hb dX15_word__277 rfl (lv_at hl 4 rfl) ?_
    refine va_get (D := (dC, dI)) (ci := 15) (v := .int 0) (C := RX15) (T := TX15) (N := 163) hx hb ht uX15 hown hK hP 3 rfl rfl 128 (by decide) (ht _ k_11_76) (fun _ h9 => h9) K22 dX15_word__278 ?_
    refine lv_iload hx hb dX15_word__281 (lv_at hl 1 rfl) ?_
    refine va_iast (i := 0) (x := 0) hx hb hK hP hD hS 1 3 rfl rfl (by unfold vp_in; decide) dX15_word__283 (fun H locs hP hD hS => ?_)
    obtain ⟨f27, ef27⟩ : ∃ g : Nat → Int32, g = upd g2 (0 : Int32).toNatClampNeg 0 := ⟨_, rfl⟩
    rw [← ef27] at hP hD
    have hP : va_P (dC, dI) cls [(w1, .inl (d1, 20, .inl f26)), (w2, .inl (d2, 20, .inl f27)), (w3, .inl (d3, 20, .inl g3)), (q, .inr (15, F20))] H := hP
    have hD : va_D A [(w1, .inl (d1, 20, .inl f26)), (w2, .inl (d2, 20, .inl f27)), (w3, .inl (d3, 20, .inl g3)), (q, .inr (15, F20))] := hD
    refine lv_aload_n hx hb dX15_word__284 rfl (lv_at hl 4 rfl) ?_
    refine va_get (D := (dC, dI)) (ci := 15) (v := .ref w3) (C := RX15) (T := TX15) (N := 163) hx hb ht uX15 hown hK hP 3 rfl rfl 131 (by decide) (ht _ k_11_79) (fun _ h9 => h9) K25 dX15_word__285 ?_
    refine lv_aload_n hx hb dX15_word__288 rfl (lv_at hl 4 rfl) ?_
    refine va_get (D := (dC, dI)) (ci := 15) (v := .int 0) (C := RX15) (T := TX15) (N := 163) hx hb ht uX15 hown hK hP 3 rfl rfl 128 (by decide) (ht _ k_11_76) (fun _ h9 => h9) K22 dX15_word__289 ?_
    refine lv_iload_n hx hb dX15_word__292 rfl (lv_at hl 6 rfl) ?_
    refine va_zast (i := 0) (x := p0) hx hb hK hP hD hS 2 4 rfl rfl (by unfold vp_in; decide) dX15_word__293 (fun H locs hP hD hS => ?_)
    obtain ⟨f28, ef28⟩ : ∃ g : Nat → Int32, g = upd g3 (0 : Int32).toNatClampNeg (vp_nar .boolean p0) := ⟨_, rfl⟩
    rw [← ef28] at hP hD
    have hP : va_P (dC, dI) cls [(w1, .inl (d1, 20, .inl f26)), (w2, .inl (d2, 20, .inl f27)), (w3, .inl (d3, 20, .inl f28)), (q, .inr (15, F20))] H := hP
    have hD : va_D A [(w1, .inl (d1, 20, .inl f26)), (w2, .inl (d2, 20, .inl f27)), (w3, .inl (d3, 20, .inl f28)), (q, .inr (15, F20))] := hD
    refine lv_aload_n hx hb dX15_word__294 rfl (lv_at hl 4 rfl) ?_
    refine lv_dup hx hb dX15_word__295 rfl ?_
    refine va_get (D := (dC, dI)) (ci := 15) (v := .int 0) (C := RX15) (T := TX15) (N := 163) hx hb ht uX15 hown hK hP 3 rfl rfl 128 (by decide) (ht _ k_11_76) (fun _ h9 => h9) K22 dX15_word__296 ?_
    refine lv_iconst (v := 1) hx hb dX15_word__299 (by decide) ?_
    refine lv_iadd hx hb dX15_word__300 ?_
    refine tk_i (y := 1) (by decide) ?_
    refine va_put (D := (dC, dI)) (ci := 15) (v := .int 1) (ty := .int) (C := RX15) (T := TX15) (N := 163) hx hb ht uX15 tyX15 tkX15 nmX15 hown hK hP hD hS 3 rfl rfl 128 (by decide) (ht _ k_11_76) (fun _ h9 => h9) rfl (by decide +kernel) rfl rfl (by rw [K21]; decide) dX15_word__301 (fun H locs hP hD hS => ?_)
    obtain ⟨F29, eF29⟩ : ∃ g : List Value, g = F20.set 128 (.int 1) := ⟨_, rfl⟩
    rw [← eF29] at hP hD
    have K129_F29 : F29[129]? = some (.ref w1) := by rw [eF29, List.getElem?_set_ne (by decide)]; exact K23
    have K130_F29 : F29[130]? = some (.ref w2) := by rw [eF29, List.getElem?_set_ne (by decide)]; exact K24
    have K131_F29 : F29[131]? = some (.ref w3) := by rw [eF29, List.getElem?_set_ne (by decide)]; exact K25
    have K128_F29 : F29[128]? = some (.int 1) := by rw [eF29]; exact List.getElem?_set_self (by rw [K21]; decide)
    have L_F29 : F29.length = 163 := by rw [eF29, List.length_set]; exact K21
    have hP : va_P (dC, dI) cls [(w1, .inl (d1, 20, .inl f26)), (w2, .inl (d2, 20, .inl f27)), (w3, .inl (d3, 20, .inl f28)), (q, .inr (15, F29))] H := hP
    have hD : va_D A [(w1, .inl (d1, 20, .inl f26)), (w2, .inl (d2, 20, .inl f27)), (w3, .inl (d3, 20, .inl f28)), (q, .inr (15, F29))] := hD
    refine lv_aload_n hx hb dX15_word__304 rfl (lv_at hl 4 rfl) ?_
    refine va_get (D := (dC, dI)) (ci := 15) (v := .int 1) (C := RX15) (T := TX15) (N := 163) hx hb ht uX15 hown hK hP 3 rfl rfl 128 (by decide) (ht _ k_11_76) (fun _ h9 => h9) K128_F29 dX15_word__305 ?_
    exact W.iret (v := 1) hx hb hr (fun t ht9 hW => ⟨⟨1, (), rfl, rfl, by rw [ht9]; exact hP.sub [] rfl, va_K.moved hW.alike (hK.sub [] rfl), hD.sub [] (by decide) rfl⟩, hS.F ht9⟩) hS.2.2 dX15_word__308
set_option maxHeartbeats 4000000 in
set_option maxRecDepth 100000 in
theorem r_takeTape_word (l : Launch) (dC : Nat → ClassId) (dI : Nat → Nat → Nat) (sz : Nat) (q : Nat) (fs : List Value) (wa : Nat) (md : Nat) (w1 : Nat) (w2 : Nat) (w3 : Nat) (L_fs : fs.length = 163) (K18_fs : fs[18]? = some (.ref md)) (K53_fs : fs[53]? = some (.int 0)) (K128_fs : fs[128]? = some (.int 0)) (K129_fs : fs[129]? = some (.ref w1)) (K130_fs : fs[130]? = some (.ref w2)) (K131_fs : fs[131]? = some (.ref w3)) (K154_fs : fs[154]? = some (.int 0)) (K155_fs : fs[155]? = some (.ref wa)) (K156_fs : fs[156]? = some (.int 0)) (K160_fs : fs[160]? = some (.int 0)) : Met l yX15_takeTape (Cond.code yX15_takeTape cX15_takeTape 2 none :: tb) ({ frames := 0, cells := 0, slots := 0, locals := 0 }) (pcw [.ref q] (dC, dI) [(q, .inr (15, fs))] [] sz) (va_Qv (fun (fs1 : List Value) => (True) ∧ (fs1.length = 163) ∧ (fs1[18]? = some (.ref md)) ∧ (fs1[25]? = some (.int 0)) ∧ (fs1[51]? = some (.int 0)) ∧ (fs1[53]? = some (.int 0)) ∧ (fs1[128]? = some (.int 0)) ∧ (fs1[129]? = some (.ref w1)) ∧ (fs1[130]? = some (.ref w2)) ∧ (fs1[131]? = some (.ref w3)) ∧ (fs1[154]? = some (.int 0)) ∧ (fs1[155]? = some (.ref wa)) ∧ (fs1[156]? = some (.int 0)) ∧ (fs1[160]? = some (.int 0))) (bw (dC, dI) (va_A [(q, .inr (15, fs))] sz) (fun (fs1 : List Value) => [(q, .inr (15, fs1))]) (fun (fs1 : List Value) => [])) (va_A [(q, .inr (15, fs))] sz)) 0 0 (va_A [(q, .inr (15, fs))] sz) := by
  refine Met.ofW (cc := cX15_takeTape) (maxL := 2) (ret := none) (by decide) rfl ?_
  intro p e s m args below meth c s₁ B hml hv
  obtain ⟨rfl, hsz, hP, hK, hD0⟩ := hv
  have hx := B.exec
  have hb := B.bytes
  have hr := B.returns
  have hts := atoms_spec (ws := Cond.code yX15_takeTape cX15_takeTape 2 none :: tb) B.pre
  have ht : ∀ w ∈ tb, w.before _ s = true := fun w h => hts w (List.mem_cons_of_mem _ h)
  have hown : s.vm.findClass RX15 = some m.cls := findClass_of_methodNamed B.named
  have hlocks := B.notSynchronized
  subst hsz
  have hD := hD0.self (sz := s.heap.size)
  generalize hAe : va_A [(q, .inr (15, fs))] s.heap.size = A at hD ⊢
  have hA : ∀ q : Nat, s.heap.size ≤ q → A q := fun q h => by rw [← hAe]; exact Or.inr h
  have hS : va_S A s.heap s.heap [] := va_S.rf
  have hl := lv_entry ([.ref q]) (n := 2) (Nat.le_of_ble_eq_true rfl)
  rw [lg_entry_eq]
  generalize (lg_sl ([.ref q]) ++ List.replicate (2 - (lg_sl ([.ref q])).length) Slot.unset).toArray = ls at hl ⊢
  have hl : lv_has ls 2 [(0, .ref q)] := hl
  have hP : va_P (dC, dI) cls [(q, .inr (15, fs))] s.heap := hP
  refine lv_aload_n hx hb dX15_takeTape_0 rfl (lv_at hl 0 rfl) ?_
  refine lv_iconst (v := 0) hx hb dX15_takeTape_1 (by decide) ?_
  refine va_put (D := (dC, dI)) (ci := 15) (v := .int 0) (ty := .int) (C := RX15) (T := TX15) (N := 163) hx hb ht uX15 tyX15 tkX15 nmX15 hown hK hP hD hS 0 rfl rfl 51 (by decide) (ht _ k_10_239) (fun _ h9 => h9) rfl (by decide +kernel) rfl rfl (by rw [L_fs]; decide) dX15_takeTape_2 (fun H locs hP hD hS => ?_)
  obtain ⟨F1, eF1⟩ : ∃ g : List Value, g = fs.set 51 (.int 0) := ⟨_, rfl⟩
  rw [← eF1] at hP hD
  have K18_F1 : F1[18]? = some (.ref md) := by rw [eF1, List.getElem?_set_ne (by decide)]; exact K18_fs
  have K53_F1 : F1[53]? = some (.int 0) := by rw [eF1, List.getElem?_set_ne (by decide)]; exact K53_fs
  have K128_F1 : F1[128]? = some (.int 0) := by rw [eF1, List.getElem?_set_ne (by decide)]; exact K128_fs
  have K129_F1 : F1[129]? = some (.ref w1) := by rw [eF1, List.getElem?_set_ne (by decide)]; exact K129_fs
  have K130_F1 : F1[130]? = some (.ref w2) := by rw [eF1, List.getElem?_set_ne (by decide)]; exact K130_fs
  have K131_F1 : F1[131]? = some (.ref w3) := by rw [eF1, List.getElem?_set_ne (by decide)]; exact K131_fs
  have K154_F1 : F1[154]? = some (.int 0) := by rw [eF1, List.getElem?_set_ne (by decide)]; exact K154_fs
  have K155_F1 : F1[155]? = some (.ref wa) := by rw [eF1, List.getElem?_set_ne (by decide)]; exact K155_fs
  have K156_F1 : F1[156]? = some (.int 0) := by rw [eF1, List.getElem?_set_ne (by decide)]; exact K156_fs
  have K160_F1 : F1[160]? = some (.int 0) := by rw [eF1, List.getElem?_set_ne (by decide)]; exact K160_fs
  have K51_F1 : F1[51]? = some (.int 0) := by rw [eF1]; exact List.getElem?_set_self (by rw [L_fs]; decide)
  have L_F1 : F1.length = 163 := by rw [eF1, List.length_set]; exact L_fs
  have hP : va_P (dC, dI) cls [(q, .inr (15, F1))] H := hP
  have hD : va_D A [(q, .inr (15, F1))] := hD
  refine lv_iconst (v := 0) hx hb dX15_takeTape_5 (by decide) ?_
  refine lv_istore_n (lv' := [(1, .int 0), (0, .ref q)]) hx hb dX15_takeTape_6 rfl hl (by decide) rfl (fun ls hl => ?_)
  refine lv_iload_n hx hb dX15_takeTape_7 rfl (lv_at hl 0 rfl) ?_
  refine lv_aload_n hx hb dX15_takeTape_8 rfl (lv_at hl 1 rfl) ?_
  refine va_get (D := (dC, dI)) (ci := 15) (v := .int 0) (C := RX15) (T := TX15) (N := 163) hx hb ht uX15 hown hK hP 0 rfl rfl 53 (by decide) (ht _ k_11_1) (fun _ h9 => h9) K53_F1 dX15_takeTape_9 ?_
  refine lv_icmp_ge (tgt := 33) hx hb dX15_takeTape_12 (by decide) (fun _ => ?_) (fun c0 => absurd c0 (by decide))
  refine lv_aload_n hx hb dX15_takeTape_33 rfl (lv_at hl 1 rfl) ?_
  refine lv_aload_n hx hb dX15_takeTape_34 rfl (lv_at hl 1 rfl) ?_
  refine va_get (D := (dC, dI)) (ci := 15) (v := .int 0) (C := RX15) (T := TX15) (N := 163) hx hb ht uX15 hown hK hP 0 rfl rfl 53 (by decide) (ht _ k_11_1) (fun _ h9 => h9) K53_F1 dX15_takeTape_35 ?_
  refine va_put (D := (dC, dI)) (ci := 15) (v := .int 0) (ty := .int) (C := RX15) (T := TX15) (N := 163) hx hb ht uX15 tyX15 tkX15 nmX15 hown hK hP hD hS 0 rfl rfl 25 (by decide) (ht _ k_10_213) (fun _ h9 => h9) rfl (by decide +kernel) rfl rfl (by rw [L_F1]; decide) dX15_takeTape_38 (fun H locs hP hD hS => ?_)
  obtain ⟨F2, eF2⟩ : ∃ g : List Value, g = F1.set 25 (.int 0) := ⟨_, rfl⟩
  rw [← eF2] at hP hD
  have K18_F2 : F2[18]? = some (.ref md) := by rw [eF2, List.getElem?_set_ne (by decide)]; exact K18_F1
  have K51_F2 : F2[51]? = some (.int 0) := by rw [eF2, List.getElem?_set_ne (by decide)]; exact K51_F1
  have K53_F2 : F2[53]? = some (.int 0) := by rw [eF2, List.getElem?_set_ne (by decide)]; exact K53_F1
  have K128_F2 : F2[128]? = some (.int 0) := by rw [eF2, List.getElem?_set_ne (by decide)]; exact K128_F1
  have K129_F2 : F2[129]? = some (.ref w1) := by rw [eF2, List.getElem?_set_ne (by decide)]; exact K129_F1
  have K130_F2 : F2[130]? = some (.ref w2) := by rw [eF2, List.getElem?_set_ne (by decide)]; exact K130_F1
  have K131_F2 : F2[131]? = some (.ref w3) := by rw [eF2, List.getElem?_set_ne (by decide)]; exact K131_F1
  have K154_F2 : F2[154]? = some (.int 0) := by rw [eF2, List.getElem?_set_ne (by decide)]; exact K154_F1
  have K155_F2 : F2[155]? = some (.ref wa) := by rw [eF2, List.getElem?_set_ne (by decide)]; exact K155_F1
  have K156_F2 : F2[156]? = some (.int 0) := by rw [eF2, List.getElem?_set_ne (by decide)]; exact K156_F1
  have K160_F2 : F2[160]? = some (.int 0) := by rw [eF2, List.getElem?_set_ne (by decide)]; exact K160_F1
  have K25_F2 : F2[25]? = some (.int 0) := by rw [eF2]; exact List.getElem?_set_self (by rw [L_F1]; decide)
  have L_F2 : F2.length = 163 := by rw [eF2, List.length_set]; exact L_F1
  have hP : va_P (dC, dI) cls [(q, .inr (15, F2))] H := hP
  have hD : va_D A [(q, .inr (15, F2))] := hD
  refine lv_aload_n hx hb dX15_takeTape_41 rfl (lv_at hl 1 rfl) ?_
  refine lv_iconst (v := 0) hx hb dX15_takeTape_42 (by decide) ?_
  refine va_put (D := (dC, dI)) (ci := 15) (v := .int 0) (ty := .int) (C := RX15) (T := TX15) (N := 163) hx hb ht uX15 tyX15 tkX15 nmX15 hown hK hP hD hS 0 rfl rfl 53 (by decide) (ht _ k_11_1) (fun _ h9 => h9) rfl (by decide +kernel) rfl rfl (by rw [L_F2]; decide) dX15_takeTape_43 (fun H locs hP hD hS => ?_)
  obtain ⟨F3, eF3⟩ : ∃ g : List Value, g = F2.set 53 (.int 0) := ⟨_, rfl⟩
  rw [← eF3] at hP hD
  have K18_F3 : F3[18]? = some (.ref md) := by rw [eF3, List.getElem?_set_ne (by decide)]; exact K18_F2
  have K25_F3 : F3[25]? = some (.int 0) := by rw [eF3, List.getElem?_set_ne (by decide)]; exact K25_F2
  have K51_F3 : F3[51]? = some (.int 0) := by rw [eF3, List.getElem?_set_ne (by decide)]; exact K51_F2
  have K128_F3 : F3[128]? = some (.int 0) := by rw [eF3, List.getElem?_set_ne (by decide)]; exact K128_F2
  have K129_F3 : F3[129]? = some (.ref w1) := by rw [eF3, List.getElem?_set_ne (by decide)]; exact K129_F2
  have K130_F3 : F3[130]? = some (.ref w2) := by rw [eF3, List.getElem?_set_ne (by decide)]; exact K130_F2
  have K131_F3 : F3[131]? = some (.ref w3) := by rw [eF3, List.getElem?_set_ne (by decide)]; exact K131_F2
  have K154_F3 : F3[154]? = some (.int 0) := by rw [eF3, List.getElem?_set_ne (by decide)]; exact K154_F2
  have K155_F3 : F3[155]? = some (.ref wa) := by rw [eF3, List.getElem?_set_ne (by decide)]; exact K155_F2
  have K156_F3 : F3[156]? = some (.int 0) := by rw [eF3, List.getElem?_set_ne (by decide)]; exact K156_F2
  have K160_F3 : F3[160]? = some (.int 0) := by rw [eF3, List.getElem?_set_ne (by decide)]; exact K160_F2
  have K53_F3 : F3[53]? = some (.int 0) := by rw [eF3]; exact List.getElem?_set_self (by rw [L_F2]; decide)
  have L_F3 : F3.length = 163 := by rw [eF3, List.length_set]; exact L_F2
  have hP : va_P (dC, dI) cls [(q, .inr (15, F3))] H := hP
  have hD : va_D A [(q, .inr (15, F3))] := hD
  exact W.vret hx hb hr (fun t ht9 hW => ⟨⟨(F3), rfl, ⟨trivial, L_F3, K18_F3, K25_F3, K51_F3, K53_F3, K128_F3, K129_F3, K130_F3, K131_F3, K154_F3, K155_F3, K156_F3, K160_F3⟩, by rw [ht9]; exact hP.sub [0] rfl, va_K.moved hW.alike (hK.sub [] rfl), hD.sub [0] (by decide) rfl⟩, hS.F ht9⟩) hS.2.2 dX15_takeTape_46
set_option maxHeartbeats 4000000 in
set_option maxRecDepth 100000 in
theorem r_isDown_word (l : Launch) (dC : Nat → ClassId) (dI : Nat → Nat → Nat) (sz : Nat) (q : Nat) (fs : List Value) (wa : Nat) (md : Nat) (w1 : Nat) (w2 : Nat) (w3 : Nat) (L_fs : fs.length = 163) (K18_fs : fs[18]? = some (.ref md)) (K53_fs : fs[53]? = some (.int 0)) (K54_fs : fs[54]? = some (.int 0)) (K128_fs : fs[128]? = some (.int 0)) (K129_fs : fs[129]? = some (.ref w1)) (K130_fs : fs[130]? = some (.ref w2)) (K131_fs : fs[131]? = some (.ref w3)) (K154_fs : fs[154]? = some (.int 0)) (K155_fs : fs[155]? = some (.ref wa)) (K156_fs : fs[156]? = some (.int 0)) (K160_fs : fs[160]? = some (.int 0)) : Met l yX15_isDown (Cond.code yX15_isDown cX15_isDown 1 (some .boolean) :: tb) ({ frames := 0, cells := 0, slots := 0, locals := 0 }) (pcw [.ref q] (dC, dI) [(q, .inr (15, fs))] [] sz) (va_Qi (fun (r : Int32) => (fun (fs1 : List Value) => (r = 0) ∧ (fs1.length = 163) ∧ (fs1[18]? = some (.ref md)) ∧ (fs1[51]? = some (.int 0)) ∧ (fs1[53]? = some (.int 0)) ∧ (fs1[54]? = some (.int 0)) ∧ (fs1[128]? = some (.int 0)) ∧ (fs1[129]? = some (.ref w1)) ∧ (fs1[130]? = some (.ref w2)) ∧ (fs1[131]? = some (.ref w3)) ∧ (fs1[154]? = some (.int 0)) ∧ (fs1[155]? = some (.ref wa)) ∧ (fs1[156]? = some (.int 0)) ∧ (fs1[160]? = some (.int 0)))) (bw (dC, dI) (va_A [(q, .inr (15, fs))] sz) (fun (fs1 : List Value) => [(q, .inr (15, fs1))]) (fun (fs1 : List Value) => [])) (va_A [(q, .inr (15, fs))] sz)) 0 0 (va_A [(q, .inr (15, fs))] sz) := by
  refine Met.ofW (cc := cX15_isDown) (maxL := 1) (ret := (some .boolean)) (by decide) rfl ?_
  intro p e s m args below meth c s₁ B hml hv
  obtain ⟨rfl, hsz, hP, hK, hD0⟩ := hv
  have hx := B.exec
  have hb := B.bytes
  have hr := B.returns
  have hts := atoms_spec (ws := Cond.code yX15_isDown cX15_isDown 1 (some .boolean) :: tb) B.pre
  have ht : ∀ w ∈ tb, w.before _ s = true := fun w h => hts w (List.mem_cons_of_mem _ h)
  have hown : s.vm.findClass RX15 = some m.cls := findClass_of_methodNamed B.named
  have hlocks := B.notSynchronized
  subst hsz
  have hD := hD0.self (sz := s.heap.size)
  generalize hAe : va_A [(q, .inr (15, fs))] s.heap.size = A at hD ⊢
  have hA : ∀ q : Nat, s.heap.size ≤ q → A q := fun q h => by rw [← hAe]; exact Or.inr h
  have hS : va_S A s.heap s.heap [] := va_S.rf
  have hl := lv_entry ([.ref q]) (n := 1) (Nat.le_of_ble_eq_true rfl)
  rw [lg_entry_eq]
  generalize (lg_sl ([.ref q]) ++ List.replicate (1 - (lg_sl ([.ref q])).length) Slot.unset).toArray = ls at hl ⊢
  have hl : lv_has ls 1 [(0, .ref q)] := hl
  have hP : va_P (dC, dI) cls [(q, .inr (15, fs))] s.heap := hP
  refine lv_aload_n hx hb dX15_isDown_0 rfl (lv_at hl 0 rfl) ?_
  refine lv_iconst (v := 0) hx hb dX15_isDown_1 (by decide) ?_
  refine va_put (D := (dC, dI)) (ci := 15) (v := .int 0) (ty := .int) (C := RX15) (T := TX15) (N := 163) hx hb ht uX15 tyX15 tkX15 nmX15 hown hK hP hD hS 0 rfl rfl 51 (by decide) (ht _ k_10_239) (fun _ h9 => h9) rfl (by decide +kernel) rfl rfl (by rw [L_fs]; decide) dX15_isDown_2 (fun H locs hP hD hS => ?_)
  obtain ⟨F1, eF1⟩ : ∃ g : List Value, g = fs.set 51 (.int 0) := ⟨_, rfl⟩
  rw [← eF1] at hP hD
  have K18_F1 : F1[18]? = some (.ref md) := by rw [eF1, List.getElem?_set_ne (by decide)]; exact K18_fs
  have K53_F1 : F1[53]? = some (.int 0) := by rw [eF1, List.getElem?_set_ne (by decide)]; exact K53_fs
  have K54_F1 : F1[54]? = some (.int 0) := by rw [eF1, List.getElem?_set_ne (by decide)]; exact K54_fs
  have K128_F1 : F1[128]? = some (.int 0) := by rw [eF1, List.getElem?_set_ne (by decide)]; exact K128_fs
  have K129_F1 : F1[129]? = some (.ref w1) := by rw [eF1, List.getElem?_set_ne (by decide)]; exact K129_fs
  have K130_F1 : F1[130]? = some (.ref w2) := by rw [eF1, List.getElem?_set_ne (by decide)]; exact K130_fs
  have K131_F1 : F1[131]? = some (.ref w3) := by rw [eF1, List.getElem?_set_ne (by decide)]; exact K131_fs
  have K154_F1 : F1[154]? = some (.int 0) := by rw [eF1, List.getElem?_set_ne (by decide)]; exact K154_fs
  have K155_F1 : F1[155]? = some (.ref wa) := by rw [eF1, List.getElem?_set_ne (by decide)]; exact K155_fs
  have K156_F1 : F1[156]? = some (.int 0) := by rw [eF1, List.getElem?_set_ne (by decide)]; exact K156_fs
  have K160_F1 : F1[160]? = some (.int 0) := by rw [eF1, List.getElem?_set_ne (by decide)]; exact K160_fs
  have K51_F1 : F1[51]? = some (.int 0) := by rw [eF1]; exact List.getElem?_set_self (by rw [L_fs]; decide)
  have L_F1 : F1.length = 163 := by rw [eF1, List.length_set]; exact L_fs
  have hP : va_P (dC, dI) cls [(q, .inr (15, F1))] H := hP
  have hD : va_D A [(q, .inr (15, F1))] := hD
  refine lv_aload_n hx hb dX15_isDown_5 rfl (lv_at hl 0 rfl) ?_
  refine va_get (D := (dC, dI)) (ci := 15) (v := .int 0) (C := RX15) (T := TX15) (N := 163) hx hb ht uX15 hown hK hP 0 rfl rfl 54 (by decide) (ht _ k_11_2) (fun _ h9 => h9) K54_F1 dX15_isDown_6 ?_
  exact W.zret (v := 0) hx hb hr rfl (fun t ht9 hW => ⟨⟨0, (F1), rfl, ⟨rfl, L_F1, K18_F1, K51_F1, K53_F1, K54_F1, K128_F1, K129_F1, K130_F1, K131_F1, K154_F1, K155_F1, K156_F1, K160_F1⟩, by rw [ht9]; exact hP.sub [0] rfl, va_K.moved hW.alike (hK.sub [] rfl), hD.sub [0] (by decide) rfl⟩, hS.F ht9⟩) hS.2.2 dX15_isDown_9
set_option maxHeartbeats 4000000 in
set_option maxRecDepth 100000 in
theorem r_word (l : Launch) (dC : Nat → ClassId) (dI : Nat → Nat → Nat) (sz : Nat) (q : Nat) (fs : List Value) (wa : Nat) (md : Nat) (w1 : Nat) (w2 : Nat) (w3 : Nat) (cA : ClassId) (fa : Nat → Int32) (cM : ClassId) (fm : Nat → Int32) (d1 : ClassId) (g1 : Nat → Int32) (d2 : ClassId) (g2 : Nat → Int32) (d3 : ClassId) (g3 : Nat → Int32) (p0 : Int32) (L_fs : fs.length = 163) (K18_fs : fs[18]? = some (.ref md)) (K53_fs : fs[53]? = some (.int 0)) (K54_fs : fs[54]? = some (.int 0)) (K128_fs : fs[128]? = some (.int 0)) (K129_fs : fs[129]? = some (.ref w1)) (K130_fs : fs[130]? = some (.ref w2)) (K131_fs : fs[131]? = some (.ref w3)) (K154_fs : fs[154]? = some (.int 0)) (K155_fs : fs[155]? = some (.ref wa)) (K156_fs : fs[156]? = some (.int 0)) (K160_fs : fs[160]? = some (.int 0)) : Met l yX15_word (Cond.code yX15_word cX15_word 2 (some .int) :: tb) ({ frames := 3, cells := 0, slots := 0, locals := 69 }) (pcw [.ref q, .int p0] (dC, dI) [(q, .inr (15, fs)), (wa, .inl (cA, 24204, .inl fa)), (md, .inl (cM, 4000, .inl fm)), (w1, .inl (d1, 20, .inl g1)), (w2, .inl (d2, 20, .inl g2)), (w3, .inl (d3, 20, .inl g3))] [(cA, .int), (cM, .int), (d1, .int), (d2, .int), (d3, .boolean)] sz) (va_Qi (fun (r : Int32) => (fun (_ : Unit) => r = 1)) (bw (dC, dI) (va_A [(q, .inr (15, fs)), (wa, .inl (cA, 24204, .inl fa)), (md, .inl (cM, 4000, .inl fm)), (w1, .inl (d1, 20, .inl g1)), (w2, .inl (d2, 20, .inl g2)), (w3, .inl (d3, 20, .inl g3))] sz) (fun (_ : Unit) => []) (fun (_ : Unit) => [])) (va_A [(q, .inr (15, fs)), (wa, .inl (cA, 24204, .inl fa)), (md, .inl (cM, 4000, .inl fm)), (w1, .inl (d1, 20, .inl g1)), (w2, .inl (d2, 20, .inl g2)), (w3, .inl (d3, 20, .inl g3))] sz)) 0 0 (va_A [(q, .inr (15, fs)), (wa, .inl (cA, 24204, .inl fa)), (md, .inl (cM, 4000, .inl fm)), (w1, .inl (d1, 20, .inl g1)), (w2, .inl (d2, 20, .inl g2)), (w3, .inl (d3, 20, .inl g3))] sz) := by
  refine Met.ofW (cc := cX15_word) (maxL := 2) (ret := (some .int)) (by decide) rfl ?_
  intro p e s m args below meth c s₁ B hml hv
  obtain ⟨rfl, hsz, hP, hK, hD0⟩ := hv
  have hx := B.exec
  have hb := B.bytes
  have hr := B.returns
  have hts := atoms_spec (ws := Cond.code yX15_word cX15_word 2 (some .int) :: tb) B.pre
  have ht : ∀ w ∈ tb, w.before _ s = true := fun w h => hts w (List.mem_cons_of_mem _ h)
  have hown : s.vm.findClass RX15 = some m.cls := findClass_of_methodNamed B.named
  have hlocks := B.notSynchronized
  subst hsz
  have hD := hD0.self (sz := s.heap.size)
  generalize hAe : va_A [(q, .inr (15, fs)), (wa, .inl (cA, 24204, .inl fa)), (md, .inl (cM, 4000, .inl fm)), (w1, .inl (d1, 20, .inl g1)), (w2, .inl (d2, 20, .inl g2)), (w3, .inl (d3, 20, .inl g3))] s.heap.size = A at hD ⊢
  have hA : ∀ q : Nat, s.heap.size ≤ q → A q := fun q h => by rw [← hAe]; exact Or.inr h
  have hS : va_S A s.heap s.heap [] := va_S.rf
  have hl := lv_entry ([.ref q, .int p0]) (n := 2) (Nat.le_of_ble_eq_true rfl)
  rw [lg_entry_eq]
  generalize (lg_sl ([.ref q, .int p0]) ++ List.replicate (2 - (lg_sl ([.ref q, .int p0])).length) Slot.unset).toArray = ls at hl ⊢
  have hl : lv_has ls 2 [(0, .ref q), (1, .int p0)] := hl
  have hP : va_P (dC, dI) cls [(q, .inr (15, fs)), (wa, .inl (cA, 24204, .inl fa)), (md, .inl (cM, 4000, .inl fm)), (w1, .inl (d1, 20, .inl g1)), (w2, .inl (d2, 20, .inl g2)), (w3, .inl (d3, 20, .inl g3))] s.heap := hP
  refine lv_aload_n hx hb dX15_word_0 rfl (lv_at hl 0 rfl) ?_
  refine ca_i (wr := [(wa, .inl (cA, 24204, .inl fa)), (md, .inl (cM, 4000, .inl fm)), (w1, .inl (d1, 20, .inl g1)), (w2, .inl (d2, 20, .inl g2)), (w3, .inl (d3, 20, .inl g3))]) (va_runV (As := []) (rest := []) ⟨hx, hb, hml, hown, ht⟩ (r_isDown_word l dC dI s.heap.size q fs wa md w1 w2 w3 L_fs K18_fs K53_fs K54_fs K128_fs K129_fs K130_fs K131_fs K154_fs K155_fs K156_fs K160_fs ) (cwV 0 ht (gdV k_12_228 k_12_225 k_12_227 ks_112 k_1_17) rfl rfl rfl (by decide +kernel) ⟨Nat.le_of_ble_eq_true rfl, Nat.le_of_ble_eq_true rfl⟩) ⟨pcw_blind, va_recv hK hP (ci := 15) (q0 := 0) rfl rfl, pcw_at hP hD hK [0] [] (by decide) rfl rfl rfl⟩ rfl rfl hl.1 rfl (lv_room (Nat.le_of_ble_eq_true rfl)) dX15_word_1 ⟨Nat.le_of_ble_eq_true rfl, Nat.le_of_ble_eq_true rfl⟩) hP hD hK hS hA [0] [1, 2, 3, 4, 5] rfl rfl (by decide) (by decide) (fun r1 u H locs w2 hK hP hD hS => ?_)
  obtain ⟨F3, rfl⟩ : ∃ z, z = u := ⟨_, rfl⟩
  have hK : va_K (dC, dI) cls [(cA, .int), (cM, .int), (d1, .int), (d2, .int), (d3, .boolean)] s := hK
  have hP : va_P (dC, dI) cls [(wa, .inl (cA, 24204, .inl fa)), (md, .inl (cM, 4000, .inl fm)), (w1, .inl (d1, 20, .inl g1)), (w2, .inl (d2, 20, .inl g2)), (w3, .inl (d3, 20, .inl g3)), (q, .inr (15, F3))] H := hP
  have hD : va_D A [(wa, .inl (cA, 24204, .inl fa)), (md, .inl (cM, 4000, .inl fm)), (w1, .inl (d1, 20, .inl g1)), (w2, .inl (d2, 20, .inl g2)), (w3, .inl (d3, 20, .inl g3)), (q, .inr (15, F3))] := hD
  obtain ⟨w2, K4, K5, K6, K7, K8, K9, K10, K11, K12, K13, K14, K15, K16⟩ := w2
  obtain rfl : r1 = 0 := w2
  refine lv_if_eq (tgt := 10) hx hb dX15_word_4 (by decide) (fun _ => ?_) (fun c0 => absurd c0 (by decide))
  refine lv_aload_n hx hb dX15_word_10 rfl (lv_at hl 0 rfl) ?_
  refine ca_v (wr := [(wa, .inl (cA, 24204, .inl fa)), (md, .inl (cM, 4000, .inl fm)), (w1, .inl (d1, 20, .inl g1)), (w2, .inl (d2, 20, .inl g2)), (w3, .inl (d3, 20, .inl g3))]) (va_runV (As := []) (rest := []) ⟨hx, hb, hml, hown, ht⟩ (r_takeTape_word l dC dI H.size q F3 wa md w1 w2 w3 K4 K5 K7 K9 K10 K11 K12 K13 K14 K15 K16 ) (cwV 0 ht (gdV k_12_237 k_12_234 k_12_236 ks_113 k_1_17) rfl rfl rfl (by decide +kernel) ⟨Nat.le_of_ble_eq_true rfl, Nat.le_of_ble_eq_true rfl⟩) ⟨pcw_blind, va_recv hK hP (ci := 15) (q0 := 5) rfl rfl, pcw_at hP hD hK [5] [] (by decide) rfl rfl rfl⟩ rfl rfl hl.1 rfl (lv_room (Nat.le_of_ble_eq_true rfl)) dX15_word_11 ⟨Nat.le_of_ble_eq_true rfl, Nat.le_of_ble_eq_true rfl⟩) hP hD hK hS hA [5] [0, 1, 2, 3, 4] rfl rfl (by decide) (by decide) (fun u H locs w18 hK hP hD hS => ?_)
  obtain ⟨F19, rfl⟩ : ∃ z, z = u := ⟨_, rfl⟩
  have hK : va_K (dC, dI) cls [(cA, .int), (cM, .int), (d1, .int), (d2, .int), (d3, .boolean)] s := hK
  have hP : va_P (dC, dI) cls [(wa, .inl (cA, 24204, .inl fa)), (md, .inl (cM, 4000, .inl fm)), (w1, .inl (d1, 20, .inl g1)), (w2, .inl (d2, 20, .inl g2)), (w3, .inl (d3, 20, .inl g3)), (q, .inr (15, F19))] H := hP
  have hD : va_D A [(wa, .inl (cA, 24204, .inl fa)), (md, .inl (cM, 4000, .inl fm)), (w1, .inl (d1, 20, .inl g1)), (w2, .inl (d2, 20, .inl g2)), (w3, .inl (d3, 20, .inl g3)), (q, .inr (15, F19))] := hD
  obtain ⟨w18, K20, K21, K22, K23, K24, K25, K26, K27, K28, K29, K30, K31, K32⟩ := w18
  refine lv_aload_n hx hb dX15_word_14 rfl (lv_at hl 0 rfl) ?_
  refine lv_iconst (v := 0) hx hb dX15_word_15 (by decide) ?_
  refine lv_iload_n hx hb dX15_word_16 rfl (lv_at hl 1 rfl) ?_
  refine lv_iconst (v := 1) hx hb dX15_word_17 (by decide) ?_
  refine ca_i (wr := []) (va_runV (As := [.int 0, .int p0, .int 1]) (rest := []) ⟨hx, hb, hml, hown, ht⟩ (r_word_ l dC dI H.size q F19 wa cA fa md cM fm w1 w2 w3 d1 g1 d2 g2 d3 g3 p0 K20 K21 K22 K25 K26 K27 K28 K29 K30 K31 K32 ) (cwV 3 ht (gdV k_15_212 k_15_209 k_15_211 ks_231 k_1_17) rfl rfl rfl (by decide +kernel) ⟨Nat.le_of_ble_eq_true rfl, Nat.le_of_ble_eq_true rfl⟩) ⟨pcw_blind, va_recv hK hP (ci := 15) (q0 := 5) rfl rfl, pcw_at hP hD hK [5, 0, 1, 2, 3, 4] [0, 1, 2, 3, 4] (by decide) rfl rfl rfl⟩ rfl rfl hl.1 rfl (lv_room (Nat.le_of_ble_eq_true rfl)) dX15_word_18 ⟨Nat.le_of_ble_eq_true rfl, Nat.le_of_ble_eq_true rfl⟩) hP hD hK hS hA [5, 0, 1, 2, 3, 4] [] rfl rfl (by decide) (by decide) (fun r33 u H locs w34 hK hP hD hS => ?_)
  have hK : va_K (dC, dI) cls [(cA, .int), (cM, .int), (d1, .int), (d2, .int), (d3, .boolean)] s := hK
  have hP : va_P (dC, dI) cls [] H := hP
  have hD : va_D A [] := hD
  obtain rfl : r33 = 1 := w34
  exact W.iret (v := 1) hx hb hr (fun t ht9 hW => ⟨⟨1, (), rfl, rfl, by rw [ht9]; exact hP.sub [] rfl, va_K.moved hW.alike (hK.sub [] rfl), hD.sub [] (by decide) rfl⟩, hS.F ht9⟩) hS.2.2 dX15_word_21
set_option maxHeartbeats 4000000 in
set_option maxRecDepth 100000 in
theorem r_fits (l : Launch) (dC : Nat → ClassId) (dI : Nat → Nat → Nat) (sz : Nat) (q : Nat) (fs : List Value) (tr : Nat) (mu : Nat) (mc : Nat) (go : Nat) (c2 : ClassId) (f2 : Nat → Int32) (L_fs : fs.length = 163) (K128_fs : fs[128]? = some (.int 0)) (K132_fs : fs[132]? = some (.ref tr)) (K133_fs : fs[133]? = some (.ref mu)) (K135_fs : fs[135]? = some (.ref mc)) (K136_fs : fs[136]? = some (.ref go)) : Met l yX15_fits (Cond.code yX15_fits cX15_fits 5 (some .boolean) :: tb) ({ frames := 0, cells := 0, slots := 0, locals := 0 }) (pcw [.ref q, .int 1] (dC, dI) [(q, .inr (15, fs)), (mu, .inl (c2, 5, .inl f2))] [(c2, .int)] sz) (va_Qi (fun (r : Int32) => (fun (h2 : Nat → Int32) => r = 1)) (bw (dC, dI) (va_A [(q, .inr (15, fs)), (mu, .inl (c2, 5, .inl f2))] sz) (fun (h2 : Nat → Int32) => [(q, .inr (15, fs)), (mu, .inl (c2, 5, .inl h2))]) (fun (h2 : Nat → Int32) => [(c2, .int)])) (va_A [(q, .inr (15, fs)), (mu, .inl (c2, 5, .inl f2))] sz)) 0 0 (va_A [(q, .inr (15, fs)), (mu, .inl (c2, 5, .inl f2))] sz) := by
  refine Met.ofW (cc := cX15_fits) (maxL := 5) (ret := (some .boolean)) (by decide) rfl ?_
  intro p e s m args below meth c s₁ B hml hv
  obtain ⟨rfl, hsz, hP, hK, hD0⟩ := hv
  have hx := B.exec
  have hb := B.bytes
  have hr := B.returns
  have hts := atoms_spec (ws := Cond.code yX15_fits cX15_fits 5 (some .boolean) :: tb) B.pre
  have ht : ∀ w ∈ tb, w.before _ s = true := fun w h => hts w (List.mem_cons_of_mem _ h)
  have hown : s.vm.findClass RX15 = some m.cls := findClass_of_methodNamed B.named
  have hlocks := B.notSynchronized
  subst hsz
  have hD := hD0.self (sz := s.heap.size)
  generalize hAe : va_A [(q, .inr (15, fs)), (mu, .inl (c2, 5, .inl f2))] s.heap.size = A at hD ⊢
  have hA : ∀ q : Nat, s.heap.size ≤ q → A q := fun q h => by rw [← hAe]; exact Or.inr h
  have hS : va_S A s.heap s.heap [] := va_S.rf
  have hl := lv_entry ([.ref q, .int 1]) (n := 5) (Nat.le_of_ble_eq_true rfl)
  rw [lg_entry_eq]
  generalize (lg_sl ([.ref q, .int 1]) ++ List.replicate (5 - (lg_sl ([.ref q, .int 1])).length) Slot.unset).toArray = ls at hl ⊢
  have hl : lv_has ls 5 [(0, .ref q), (1, .int 1)] := hl
  have hP : va_P (dC, dI) cls [(q, .inr (15, fs)), (mu, .inl (c2, 5, .inl f2))] s.heap := hP
  refine lv_iconst (v := 0) hx hb dX15_fits_0 (by decide) ?_
  refine lv_istore_n (lv' := [(2, .int 0), (0, .ref q), (1, .int 1)]) hx hb dX15_fits_1 rfl hl (by decide) rfl (fun ls hl => ?_)
  refine lv_iload_n hx hb dX15_fits_2 rfl (lv_at hl 0 rfl) ?_
  refine lv_iload_n hx hb dX15_fits_3 rfl (lv_at hl 2 rfl) ?_
  refine lv_icmp_ge (tgt := 20) hx hb dX15_fits_4 (by decide) (fun c0 => absurd c0 (by decide)) (fun _ => ?_)
  refine lv_aload_n hx hb dX15_fits_7 rfl (lv_at hl 1 rfl) ?_
  refine va_get (D := (dC, dI)) (ci := 15) (v := .ref mu) (C := RX15) (T := TX15) (N := 163) hx hb ht uX15 hown hK hP 0 rfl rfl 133 (by decide) (ht _ k_11_81) (fun _ h9 => h9) K133_fs dX15_fits_8 ?_
  refine lv_iload_n hx hb dX15_fits_11 rfl (lv_at hl 0 rfl) ?_
  refine lv_iconst (v := 0) hx hb dX15_fits_12 (by decide) ?_
  refine va_iast (i := 0) (x := 0) hx hb hK hP hD hS 1 0 rfl rfl (by unfold vp_in; decide) dX15_fits_13 (fun H locs hP hD hS => ?_)
  obtain ⟨f1, ef1⟩ : ∃ g : Nat → Int32, g = upd f2 (0 : Int32).toNatClampNeg 0 := ⟨_, rfl⟩
  rw [← ef1] at hP hD
  have hP : va_P (dC, dI) cls [(q, .inr (15, fs)), (mu, .inl (c2, 5, .inl f1))] H := hP
  have hD : va_D A [(q, .inr (15, fs)), (mu, .inl (c2, 5, .inl f1))] := hD
  refine lv_iinc (v := 1) (lv' := [(2, .int 1), (0, .ref q), (1, .int 1)]) hx hb dX15_fits_14 hl (k := 0) rfl (by decide) (by decide) rfl (fun ls hl => ?_)
  refine lv_goto (tgt := 2) hx hb dX15_fits_17 (by decide) ?_
  refine lv_iload_n hx hb dX15_fits_2 rfl (lv_at hl 0 rfl) ?_
  refine lv_iload_n hx hb dX15_fits_3 rfl (lv_at hl 2 rfl) ?_
  refine lv_icmp_ge (tgt := 20) hx hb dX15_fits_4 (by decide) (fun _ => ?_) (fun c0 => absurd c0 (by decide))
  refine lv_iconst (v := 0) hx hb dX15_fits_20 (by decide) ?_
  refine lv_istore_n (lv' := [(2, .int 0), (0, .ref q), (1, .int 1)]) hx hb dX15_fits_21 rfl hl (by decide) rfl (fun ls hl => ?_)
  refine lv_iload_n hx hb dX15_fits_22 rfl (lv_at hl 0 rfl) ?_
  refine lv_aload_n hx hb dX15_fits_23 rfl (lv_at hl 1 rfl) ?_
  refine va_get (D := (dC, dI)) (ci := 15) (v := .int 0) (C := RX15) (T := TX15) (N := 163) hx hb ht uX15 hown hK hP 0 rfl rfl 128 (by decide) (ht _ k_11_76) (fun _ h9 => h9) K128_fs dX15_fits_24 ?_
  refine lv_icmp_ge (tgt := 125) hx hb dX15_fits_27 (by decide) (fun _ => ?_) (fun c0 => absurd c0 (by decide))
  refine lv_iconst (v := 1) hx hb dX15_fits_125 (by decide) ?_
  exact W.zret (v := 1) hx hb hr rfl (fun t ht9 hW => ⟨⟨1, (f1), rfl, rfl, by rw [ht9]; exact hP.sub [0, 1] rfl, va_K.moved hW.alike (hK.sub [0] rfl), hD.sub [0, 1] (by decide) rfl⟩, hS.F ht9⟩) hS.2.2 dX15_fits_126
set_option maxHeartbeats 4000000 in
set_option maxRecDepth 100000 in
theorem r_tryMachine_2 (l : Launch) (dC : Nat → ClassId) (dI : Nat → Nat → Nat) (sz : Nat) (q : Nat) (fs : List Value) (tr : Nat) (mu : Nat) (mc : Nat) (go : Nat) (c1 : ClassId) (f1 : Nat → Int32) (c2 : ClassId) (f2 : Nat → Int32) (L_fs : fs.length = 163) (K128_fs : fs[128]? = some (.int 0)) (K132_fs : fs[132]? = some (.ref tr)) (K133_fs : fs[133]? = some (.ref mu)) (K135_fs : fs[135]? = some (.ref mc)) (K136_fs : fs[136]? = some (.ref go)) : Met l yX15_tryMachine (Cond.code yX15_tryMachine cX15_tryMachine 5 (some .boolean) :: tb) ({ frames := 1, cells := 0, slots := 0, locals := 24 }) (pcw [.ref q, .int 1, .int 2, .int 1] (dC, dI) [(q, .inr (15, fs)), (tr, .inl (c1, 10, .inl f1)), (mu, .inl (c2, 5, .inl f2))] [(c1, .int), (c2, .int)] sz) (va_Qi (fun (r : Int32) => (fun (u : (Nat → Int32) × (Nat → Int32)) => match u with | (h1, h2) => r = 1)) (bw (dC, dI) (va_A [(q, .inr (15, fs)), (tr, .inl (c1, 10, .inl f1)), (mu, .inl (c2, 5, .inl f2))] sz) (fun (u : (Nat → Int32) × (Nat → Int32)) => match u with | (h1, h2) => [(q, .inr (15, fs)), (tr, .inl (c1, 10, .inl h1)), (mu, .inl (c2, 5, .inl h2))]) (fun (u : (Nat → Int32) × (Nat → Int32)) => match u with | (h1, h2) => [(c1, .int), (c2, .int)])) (va_A [(q, .inr (15, fs)), (tr, .inl (c1, 10, .inl f1)), (mu, .inl (c2, 5, .inl f2))] sz)) 0 0 (va_A [(q, .inr (15, fs)), (tr, .inl (c1, 10, .inl f1)), (mu, .inl (c2, 5, .inl f2))] sz) := by
  refine Met.ofW (cc := cX15_tryMachine) (maxL := 5) (ret := (some .boolean)) (by decide) rfl ?_
  intro p e s m args below meth c s₁ B hml hv
  obtain ⟨rfl, hsz, hP, hK, hD0⟩ := hv
  have hx := B.exec
  have hb := B.bytes
  have hr := B.returns
  have hts := atoms_spec (ws := Cond.code yX15_tryMachine cX15_tryMachine 5 (some .boolean) :: tb) B.pre
  have ht : ∀ w ∈ tb, w.before _ s = true := fun w h => hts w (List.mem_cons_of_mem _ h)
  have hown : s.vm.findClass RX15 = some m.cls := findClass_of_methodNamed B.named
  have hlocks := B.notSynchronized
  subst hsz
  have hD := hD0.self (sz := s.heap.size)
  generalize hAe : va_A [(q, .inr (15, fs)), (tr, .inl (c1, 10, .inl f1)), (mu, .inl (c2, 5, .inl f2))] s.heap.size = A at hD ⊢
  have hA : ∀ q : Nat, s.heap.size ≤ q → A q := fun q h => by rw [← hAe]; exact Or.inr h
  have hS : va_S A s.heap s.heap [] := va_S.rf
  have hl := lv_entry ([.ref q, .int 1, .int 2, .int 1]) (n := 5) (Nat.le_of_ble_eq_true rfl)
  rw [lg_entry_eq]
  generalize (lg_sl ([.ref q, .int 1, .int 2, .int 1]) ++ List.replicate (5 - (lg_sl ([.ref q, .int 1, .int 2, .int 1])).length) Slot.unset).toArray = ls at hl ⊢
  have hl : lv_has ls 5 [(0, .ref q), (1, .int 1), (2, .int 2), (3, .int 1)] := hl
  have hP : va_P (dC, dI) cls [(q, .inr (15, fs)), (tr, .inl (c1, 10, .inl f1)), (mu, .inl (c2, 5, .inl f2))] s.heap := hP
  refine lv_aload_n hx hb dX15_tryMachine_0 rfl (lv_at hl 0 rfl) ?_
  refine lv_iload_n hx hb dX15_tryMachine_1 rfl (lv_at hl 1 rfl) ?_
  refine ca_i (wr := [(tr, .inl (c1, 10, .inl f1))]) (va_runV (As := [.int 1]) (rest := []) ⟨hx, hb, hml, hown, ht⟩ (r_fits l dC dI s.heap.size q fs tr mu mc go c2 f2 L_fs K128_fs K132_fs K133_fs K135_fs K136_fs ) (cwV 1 ht (gdV k_15_228 k_15_225 k_15_227 ks_233 k_1_17) rfl rfl rfl (by decide +kernel) ⟨Nat.le_of_ble_eq_true rfl, Nat.le_of_ble_eq_true rfl⟩) ⟨pcw_blind, va_recv hK hP (ci := 15) (q0 := 0) rfl rfl, pcw_at hP hD hK [0, 2] [1] (by decide) rfl rfl rfl⟩ rfl rfl hl.1 rfl (lv_room (Nat.le_of_ble_eq_true rfl)) dX15_tryMachine_2 ⟨Nat.le_of_ble_eq_true rfl, Nat.le_of_ble_eq_true rfl⟩) hP hD hK hS hA [0, 2] [1] rfl rfl (by decide) (by decide) (fun r1 u H locs w2 hK hP hD hS => ?_)
  obtain ⟨y3, rfl⟩ : ∃ z, z = u := ⟨_, rfl⟩
  have hK : va_K (dC, dI) cls [(c1, .int), (c2, .int), (c2, .int)] s := hK
  have hP : va_P (dC, dI) cls [(tr, .inl (c1, 10, .inl f1)), (q, .inr (15, fs)), (mu, .inl (c2, 5, .inl y3))] H := hP
  have hD : va_D A [(tr, .inl (c1, 10, .inl f1)), (q, .inr (15, fs)), (mu, .inl (c2, 5, .inl y3))] := hD
  obtain rfl : r1 = 1 := w2
  refine lv_if_ne (tgt := 10) hx hb dX15_tryMachine_5 (by decide) (fun _ => ?_) (fun c0 => absurd c0 (by decide))
  refine lv_iload_n hx hb dX15_tryMachine_10 rfl (lv_at hl 2 rfl) ?_
  refine lv_iconst (v := 2) hx hb dX15_tryMachine_11 (by decide) ?_
  refine lv_iload_n hx hb dX15_tryMachine_12 rfl (lv_at hl 1 rfl) ?_
  refine lv_imul hx hb dX15_tryMachine_13 ?_
  refine tk_i (y := 2) (by decide) ?_
  refine lv_icmp_ne (tgt := 28) hx hb dX15_tryMachine_14 (by decide) (fun c0 => absurd c0 (by decide)) (fun _ => ?_)
  refine lv_iload_n hx hb dX15_tryMachine_17 rfl (lv_at hl 3 rfl) ?_
  refine lv_iload_n hx hb dX15_tryMachine_18 rfl (lv_at hl 1 rfl) ?_
  refine lv_icmp_ne (tgt := 26) hx hb dX15_tryMachine_19 (by decide) (fun c0 => absurd c0 (by decide)) (fun _ => ?_)
  refine lv_iconst (v := 1) hx hb dX15_tryMachine_22 (by decide) ?_
  refine lv_goto (tgt := 27) hx hb dX15_tryMachine_23 (by decide) ?_
  exact W.zret (v := 1) hx hb hr rfl (fun t ht9 hW => ⟨⟨1, (f1, y3), rfl, rfl, by rw [ht9]; exact hP.sub [1, 0, 2] rfl, va_K.moved hW.alike (hK.sub [0, 1] rfl), hD.sub [1, 0, 2] (by decide) rfl⟩, hS.F ht9⟩) hS.2.2 dX15_tryMachine_27
set_option maxHeartbeats 4000000 in
set_option maxRecDepth 100000 in
theorem r_tryMachine_1 (l : Launch) (dC : Nat → ClassId) (dI : Nat → Nat → Nat) (sz : Nat) (q : Nat) (fs : List Value) (tr : Nat) (mu : Nat) (mc : Nat) (go : Nat) (c1 : ClassId) (f1 : Nat → Int32) (c2 : ClassId) (f2 : Nat → Int32) (L_fs : fs.length = 163) (K128_fs : fs[128]? = some (.int 0)) (K132_fs : fs[132]? = some (.ref tr)) (K133_fs : fs[133]? = some (.ref mu)) (K135_fs : fs[135]? = some (.ref mc)) (K136_fs : fs[136]? = some (.ref go)) : Met l yX15_tryMachine (Cond.code yX15_tryMachine cX15_tryMachine 5 (some .boolean) :: tb) ({ frames := 2, cells := 0, slots := 0, locals := 48 }) (pcw [.ref q, .int 1, .int 1, .int 1] (dC, dI) [(q, .inr (15, fs)), (tr, .inl (c1, 10, .inl f1)), (mu, .inl (c2, 5, .inl f2))] [(c1, .int), (c2, .int)] sz) (va_Qi (fun (r : Int32) => (fun (u : (Nat → Int32) × (Nat → Int32)) => match u with | (h1, h2) => r = 1)) (bw (dC, dI) (va_A [(q, .inr (15, fs)), (tr, .inl (c1, 10, .inl f1)), (mu, .inl (c2, 5, .inl f2))] sz) (fun (u : (Nat → Int32) × (Nat → Int32)) => match u with | (h1, h2) => [(q, .inr (15, fs)), (tr, .inl (c1, 10, .inl h1)), (mu, .inl (c2, 5, .inl h2))]) (fun (u : (Nat → Int32) × (Nat → Int32)) => match u with | (h1, h2) => [(c1, .int), (c2, .int)])) (va_A [(q, .inr (15, fs)), (tr, .inl (c1, 10, .inl f1)), (mu, .inl (c2, 5, .inl f2))] sz)) 0 0 (va_A [(q, .inr (15, fs)), (tr, .inl (c1, 10, .inl f1)), (mu, .inl (c2, 5, .inl f2))] sz) := by
  refine Met.ofW (cc := cX15_tryMachine) (maxL := 5) (ret := (some .boolean)) (by decide) rfl ?_
  intro p e s m args below meth c s₁ B hml hv
  obtain ⟨rfl, hsz, hP, hK, hD0⟩ := hv
  have hx := B.exec
  have hb := B.bytes
  have hr := B.returns
  have hts := atoms_spec (ws := Cond.code yX15_tryMachine cX15_tryMachine 5 (some .boolean) :: tb) B.pre
  have ht : ∀ w ∈ tb, w.before _ s = true := fun w h => hts w (List.mem_cons_of_mem _ h)
  have hown : s.vm.findClass RX15 = some m.cls := findClass_of_methodNamed B.named
  have hlocks := B.notSynchronized
  subst hsz
  have hD := hD0.self (sz := s.heap.size)
  generalize hAe : va_A [(q, .inr (15, fs)), (tr, .inl (c1, 10, .inl f1)), (mu, .inl (c2, 5, .inl f2))] s.heap.size = A at hD ⊢
  have hA : ∀ q : Nat, s.heap.size ≤ q → A q := fun q h => by rw [← hAe]; exact Or.inr h
  have hS : va_S A s.heap s.heap [] := va_S.rf
  have hl := lv_entry ([.ref q, .int 1, .int 1, .int 1]) (n := 5) (Nat.le_of_ble_eq_true rfl)
  rw [lg_entry_eq]
  generalize (lg_sl ([.ref q, .int 1, .int 1, .int 1]) ++ List.replicate (5 - (lg_sl ([.ref q, .int 1, .int 1, .int 1])).length) Slot.unset).toArray = ls at hl ⊢
  have hl : lv_has ls 5 [(0, .ref q), (1, .int 1), (2, .int 1), (3, .int 1)] := hl
  have hP : va_P (dC, dI) cls [(q, .inr (15, fs)), (tr, .inl (c1, 10, .inl f1)), (mu, .inl (c2, 5, .inl f2))] s.heap := hP
  refine lv_aload_n hx hb dX15_tryMachine_0 rfl (lv_at hl 0 rfl) ?_
  refine lv_iload_n hx hb dX15_tryMachine_1 rfl (lv_at hl 1 rfl) ?_
  refine ca_i (wr := [(tr, .inl (c1, 10, .inl f1))]) (va_runV (As := [.int 1]) (rest := []) ⟨hx, hb, hml, hown, ht⟩ (r_fits l dC dI s.heap.size q fs tr mu mc go c2 f2 L_fs K128_fs K132_fs K133_fs K135_fs K136_fs ) (cwV 1 ht (gdV k_15_228 k_15_225 k_15_227 ks_233 k_1_17) rfl rfl rfl (by decide +kernel) ⟨Nat.le_of_ble_eq_true rfl, Nat.le_of_ble_eq_true rfl⟩) ⟨pcw_blind, va_recv hK hP (ci := 15) (q0 := 0) rfl rfl, pcw_at hP hD hK [0, 2] [1] (by decide) rfl rfl rfl⟩ rfl rfl hl.1 rfl (lv_room (Nat.le_of_ble_eq_true rfl)) dX15_tryMachine_2 ⟨Nat.le_of_ble_eq_true rfl, Nat.le_of_ble_eq_true rfl⟩) hP hD hK hS hA [0, 2] [1] rfl rfl (by decide) (by decide) (fun r1 u H locs w2 hK hP hD hS => ?_)
  obtain ⟨y3, rfl⟩ : ∃ z, z = u := ⟨_, rfl⟩
  have hK : va_K (dC, dI) cls [(c1, .int), (c2, .int), (c2, .int)] s := hK
  have hP : va_P (dC, dI) cls [(tr, .inl (c1, 10, .inl f1)), (q, .inr (15, fs)), (mu, .inl (c2, 5, .inl y3))] H := hP
  have hD : va_D A [(tr, .inl (c1, 10, .inl f1)), (q, .inr (15, fs)), (mu, .inl (c2, 5, .inl y3))] := hD
  obtain rfl : r1 = 1 := w2
  refine lv_if_ne (tgt := 10) hx hb dX15_tryMachine_5 (by decide) (fun _ => ?_) (fun c0 => absurd c0 (by decide))
  refine lv_iload_n hx hb dX15_tryMachine_10 rfl (lv_at hl 2 rfl) ?_
  refine lv_iconst (v := 2) hx hb dX15_tryMachine_11 (by decide) ?_
  refine lv_iload_n hx hb dX15_tryMachine_12 rfl (lv_at hl 1 rfl) ?_
  refine lv_imul hx hb dX15_tryMachine_13 ?_
  refine tk_i (y := 2) (by decide) ?_
  refine lv_icmp_ne (tgt := 28) hx hb dX15_tryMachine_14 (by decide) (fun _ => ?_) (fun c0 => absurd c0 (by decide))
  refine lv_iload_n hx hb dX15_tryMachine_28 rfl (lv_at hl 2 rfl) ?_
  refine lv_iconst (v := 2) hx hb dX15_tryMachine_29 (by decide) ?_
  refine lv_idiv hx hb dX15_tryMachine_30 (by decide) ?_
  refine tk_i (y := 0) (by decide) ?_
  refine lv_iload_n hx hb dX15_tryMachine_31 rfl (lv_at hl 3 rfl) ?_
  refine lv_icmp_lt (tgt := 37) hx hb dX15_tryMachine_32 (by decide) (fun _ => ?_) (fun c0 => absurd c0 (by decide))
  refine lv_iconst (v := 0) hx hb dX15_tryMachine_37 (by decide) ?_
  refine lv_istore (lv' := [(4, .int 0), (0, .ref q), (1, .int 1), (2, .int 1), (3, .int 1)]) hx hb dX15_tryMachine_38 hl (by decide) rfl (fun ls hl => ?_)
  refine lv_iload hx hb dX15_tryMachine_40 (lv_at hl 0 rfl) ?_
  refine lv_iload_n hx hb dX15_tryMachine_42 rfl (lv_at hl 4 rfl) ?_
  refine lv_icmp_gt (tgt := 92) hx hb dX15_tryMachine_43 (by decide) (fun c0 => absurd c0 (by decide)) (fun _ => ?_)
  refine lv_iload hx hb dX15_tryMachine_46 (lv_at hl 0 rfl) ?_
  refine lv_iload_n hx hb dX15_tryMachine_48 rfl (lv_at hl 2 rfl) ?_
  refine lv_icmp_ge (tgt := 92) hx hb dX15_tryMachine_49 (by decide) (fun c0 => absurd c0 (by decide)) (fun _ => ?_)
  refine lv_aload_n hx hb dX15_tryMachine_52 rfl (lv_at hl 1 rfl) ?_
  refine va_get (D := (dC, dI)) (ci := 15) (v := .ref tr) (C := RX15) (T := TX15) (N := 163) hx hb ht uX15 hown hK hP 1 rfl rfl 132 (by decide) (ht _ k_11_80) (fun _ h9 => h9) K132_fs dX15_tryMachine_53 ?_
  refine lv_iload_n hx hb dX15_tryMachine_56 rfl (lv_at hl 3 rfl) ?_
  refine lv_iload hx hb dX15_tryMachine_57 (lv_at hl 0 rfl) ?_
  refine va_iast (i := 1) (x := 0) hx hb hK hP hD hS 0 0 rfl rfl (by unfold vp_in; decide) dX15_tryMachine_59 (fun H locs hP hD hS => ?_)
  obtain ⟨f4, ef4⟩ : ∃ g : Nat → Int32, g = upd f1 (1 : Int32).toNatClampNeg 0 := ⟨_, rfl⟩
  rw [← ef4] at hP hD
  have hP : va_P (dC, dI) cls [(tr, .inl (c1, 10, .inl f4)), (q, .inr (15, fs)), (mu, .inl (c2, 5, .inl y3))] H := hP
  have hD : va_D A [(tr, .inl (c1, 10, .inl f4)), (q, .inr (15, fs)), (mu, .inl (c2, 5, .inl y3))] := hD
  refine lv_aload_n hx hb dX15_tryMachine_60 rfl (lv_at hl 1 rfl) ?_
  refine lv_iload_n hx hb dX15_tryMachine_61 rfl (lv_at hl 2 rfl) ?_
  refine lv_iload_n hx hb dX15_tryMachine_62 rfl (lv_at hl 3 rfl) ?_
  refine lv_iconst (v := 1) hx hb dX15_tryMachine_63 (by decide) ?_
  refine lv_iadd hx hb dX15_tryMachine_64 ?_
  refine tk_i (y := 2) (by decide) ?_
  refine lv_iload hx hb dX15_tryMachine_65 (lv_at hl 0 rfl) ?_
  refine lv_iload_n hx hb dX15_tryMachine_67 rfl (lv_at hl 4 rfl) ?_
  refine lv_icmp_ne (tgt := 77) hx hb dX15_tryMachine_68 (by decide) (fun _ => ?_) (fun c0 => absurd c0 (by decide))
  refine lv_iload_n hx hb dX15_tryMachine_77 rfl (lv_at hl 4 rfl) ?_
  refine ca_i (wr := []) (va_runV (As := [.int 1, .int 2, .int 1]) (rest := []) ⟨hx, hb, hml, hown, ht⟩ (r_tryMachine_2 l dC dI H.size q fs tr mu mc go c1 f4 c2 y3 L_fs K128_fs K132_fs K133_fs K135_fs K136_fs ) (cwV 3 ht (gdV k_15_224 k_15_221 k_15_223 ks_232 k_1_17) rfl rfl rfl (by decide +kernel) ⟨Nat.le_of_ble_eq_true rfl, Nat.le_of_ble_eq_true rfl⟩) ⟨pcw_blind, va_recv hK hP (ci := 15) (q0 := 1) rfl rfl, pcw_at hP hD hK [1, 0, 2] [0, 1] (by decide) rfl rfl rfl⟩ rfl rfl hl.1 rfl (lv_room (Nat.le_of_ble_eq_true rfl)) dX15_tryMachine_78 ⟨Nat.le_of_ble_eq_true rfl, Nat.le_of_ble_eq_true rfl⟩) hP hD hK hS hA [1, 0, 2] [] rfl rfl (by decide) (by decide) (fun r5 u H locs w6 hK hP hD hS => ?_)
  obtain ⟨y7, y8⟩ := u
  have hK : va_K (dC, dI) cls [(c1, .int), (c2, .int), (c2, .int), (c1, .int), (c2, .int)] s := hK
  have hP : va_P (dC, dI) cls [(q, .inr (15, fs)), (tr, .inl (c1, 10, .inl y7)), (mu, .inl (c2, 5, .inl y8))] H := hP
  have hD : va_D A [(q, .inr (15, fs)), (tr, .inl (c1, 10, .inl y7)), (mu, .inl (c2, 5, .inl y8))] := hD
  obtain rfl : r5 = 1 := w6
  refine lv_if_eq (tgt := 86) hx hb dX15_tryMachine_81 (by decide) (fun c0 => absurd c0 (by decide)) (fun _ => ?_)
  refine lv_iconst (v := 1) hx hb dX15_tryMachine_84 (by decide) ?_
  exact W.zret (v := 1) hx hb hr rfl (fun t ht9 hW => ⟨⟨1, (y7, y8), rfl, rfl, by rw [ht9]; exact hP.sub [0, 1, 2] rfl, va_K.moved hW.alike (hK.sub [0, 1] rfl), hD.sub [0, 1, 2] (by decide) rfl⟩, hS.F ht9⟩) hS.2.2 dX15_tryMachine_85
set_option maxHeartbeats 4000000 in
set_option maxRecDepth 100000 in
theorem r_tryMachine_0 (l : Launch) (dC : Nat → ClassId) (dI : Nat → Nat → Nat) (sz : Nat) (q : Nat) (fs : List Value) (tr : Nat) (mu : Nat) (mc : Nat) (go : Nat) (c1 : ClassId) (f1 : Nat → Int32) (c2 : ClassId) (f2 : Nat → Int32) (L_fs : fs.length = 163) (K128_fs : fs[128]? = some (.int 0)) (K132_fs : fs[132]? = some (.ref tr)) (K133_fs : fs[133]? = some (.ref mu)) (K135_fs : fs[135]? = some (.ref mc)) (K136_fs : fs[136]? = some (.ref go)) : Met l yX15_tryMachine (Cond.code yX15_tryMachine cX15_tryMachine 5 (some .boolean) :: tb) ({ frames := 3, cells := 0, slots := 0, locals := 72 }) (pcw [.ref q, .int 1, .int 0, .int 1] (dC, dI) [(q, .inr (15, fs)), (tr, .inl (c1, 10, .inl f1)), (mu, .inl (c2, 5, .inl f2))] [(c1, .int), (c2, .int)] sz) (va_Qi (fun (r : Int32) => (fun (u : (Nat → Int32) × (Nat → Int32)) => match u with | (h1, h2) => r = 1)) (bw (dC, dI) (va_A [(q, .inr (15, fs)), (tr, .inl (c1, 10, .inl f1)), (mu, .inl (c2, 5, .inl f2))] sz) (fun (u : (Nat → Int32) × (Nat → Int32)) => match u with | (h1, h2) => [(q, .inr (15, fs)), (tr, .inl (c1, 10, .inl h1)), (mu, .inl (c2, 5, .inl h2))]) (fun (u : (Nat → Int32) × (Nat → Int32)) => match u with | (h1, h2) => [(c1, .int), (c2, .int)])) (va_A [(q, .inr (15, fs)), (tr, .inl (c1, 10, .inl f1)), (mu, .inl (c2, 5, .inl f2))] sz)) 0 0 (va_A [(q, .inr (15, fs)), (tr, .inl (c1, 10, .inl f1)), (mu, .inl (c2, 5, .inl f2))] sz) := by
  refine Met.ofW (cc := cX15_tryMachine) (maxL := 5) (ret := (some .boolean)) (by decide) rfl ?_
  intro p e s m args below meth c s₁ B hml hv
  obtain ⟨rfl, hsz, hP, hK, hD0⟩ := hv
  have hx := B.exec
  have hb := B.bytes
  have hr := B.returns
  have hts := atoms_spec (ws := Cond.code yX15_tryMachine cX15_tryMachine 5 (some .boolean) :: tb) B.pre
  have ht : ∀ w ∈ tb, w.before _ s = true := fun w h => hts w (List.mem_cons_of_mem _ h)
  have hown : s.vm.findClass RX15 = some m.cls := findClass_of_methodNamed B.named
  have hlocks := B.notSynchronized
  subst hsz
  have hD := hD0.self (sz := s.heap.size)
  generalize hAe : va_A [(q, .inr (15, fs)), (tr, .inl (c1, 10, .inl f1)), (mu, .inl (c2, 5, .inl f2))] s.heap.size = A at hD ⊢
  have hA : ∀ q : Nat, s.heap.size ≤ q → A q := fun q h => by rw [← hAe]; exact Or.inr h
  have hS : va_S A s.heap s.heap [] := va_S.rf
  have hl := lv_entry ([.ref q, .int 1, .int 0, .int 1]) (n := 5) (Nat.le_of_ble_eq_true rfl)
  rw [lg_entry_eq]
  generalize (lg_sl ([.ref q, .int 1, .int 0, .int 1]) ++ List.replicate (5 - (lg_sl ([.ref q, .int 1, .int 0, .int 1])).length) Slot.unset).toArray = ls at hl ⊢
  have hl : lv_has ls 5 [(0, .ref q), (1, .int 1), (2, .int 0), (3, .int 1)] := hl
  have hP : va_P (dC, dI) cls [(q, .inr (15, fs)), (tr, .inl (c1, 10, .inl f1)), (mu, .inl (c2, 5, .inl f2))] s.heap := hP
  refine lv_aload_n hx hb dX15_tryMachine_0 rfl (lv_at hl 0 rfl) ?_
  refine lv_iload_n hx hb dX15_tryMachine_1 rfl (lv_at hl 1 rfl) ?_
  refine ca_i (wr := [(tr, .inl (c1, 10, .inl f1))]) (va_runV (As := [.int 1]) (rest := []) ⟨hx, hb, hml, hown, ht⟩ (r_fits l dC dI s.heap.size q fs tr mu mc go c2 f2 L_fs K128_fs K132_fs K133_fs K135_fs K136_fs ) (cwV 1 ht (gdV k_15_228 k_15_225 k_15_227 ks_233 k_1_17) rfl rfl rfl (by decide +kernel) ⟨Nat.le_of_ble_eq_true rfl, Nat.le_of_ble_eq_true rfl⟩) ⟨pcw_blind, va_recv hK hP (ci := 15) (q0 := 0) rfl rfl, pcw_at hP hD hK [0, 2] [1] (by decide) rfl rfl rfl⟩ rfl rfl hl.1 rfl (lv_room (Nat.le_of_ble_eq_true rfl)) dX15_tryMachine_2 ⟨Nat.le_of_ble_eq_true rfl, Nat.le_of_ble_eq_true rfl⟩) hP hD hK hS hA [0, 2] [1] rfl rfl (by decide) (by decide) (fun r1 u H locs w2 hK hP hD hS => ?_)
  obtain ⟨y3, rfl⟩ : ∃ z, z = u := ⟨_, rfl⟩
  have hK : va_K (dC, dI) cls [(c1, .int), (c2, .int), (c2, .int)] s := hK
  have hP : va_P (dC, dI) cls [(tr, .inl (c1, 10, .inl f1)), (q, .inr (15, fs)), (mu, .inl (c2, 5, .inl y3))] H := hP
  have hD : va_D A [(tr, .inl (c1, 10, .inl f1)), (q, .inr (15, fs)), (mu, .inl (c2, 5, .inl y3))] := hD
  obtain rfl : r1 = 1 := w2
  refine lv_if_ne (tgt := 10) hx hb dX15_tryMachine_5 (by decide) (fun _ => ?_) (fun c0 => absurd c0 (by decide))
  refine lv_iload_n hx hb dX15_tryMachine_10 rfl (lv_at hl 2 rfl) ?_
  refine lv_iconst (v := 2) hx hb dX15_tryMachine_11 (by decide) ?_
  refine lv_iload_n hx hb dX15_tryMachine_12 rfl (lv_at hl 1 rfl) ?_
  refine lv_imul hx hb dX15_tryMachine_13 ?_
  refine tk_i (y := 2) (by decide) ?_
  refine lv_icmp_ne (tgt := 28) hx hb dX15_tryMachine_14 (by decide) (fun _ => ?_) (fun c0 => absurd c0 (by decide))
  refine lv_iload_n hx hb dX15_tryMachine_28 rfl (lv_at hl 2 rfl) ?_
  refine lv_iconst (v := 2) hx hb dX15_tryMachine_29 (by decide) ?_
  refine lv_idiv hx hb dX15_tryMachine_30 (by decide) ?_
  refine tk_i (y := 0) (by decide) ?_
  refine lv_iload_n hx hb dX15_tryMachine_31 rfl (lv_at hl 3 rfl) ?_
  refine lv_icmp_lt (tgt := 37) hx hb dX15_tryMachine_32 (by decide) (fun _ => ?_) (fun c0 => absurd c0 (by decide))
  refine lv_iconst (v := 0) hx hb dX15_tryMachine_37 (by decide) ?_
  refine lv_istore (lv' := [(4, .int 0), (0, .ref q), (1, .int 1), (2, .int 0), (3, .int 1)]) hx hb dX15_tryMachine_38 hl (by decide) rfl (fun ls hl => ?_)
  refine lv_iload hx hb dX15_tryMachine_40 (lv_at hl 0 rfl) ?_
  refine lv_iload_n hx hb dX15_tryMachine_42 rfl (lv_at hl 4 rfl) ?_
  refine lv_icmp_gt (tgt := 92) hx hb dX15_tryMachine_43 (by decide) (fun c0 => absurd c0 (by decide)) (fun _ => ?_)
  refine lv_iload hx hb dX15_tryMachine_46 (lv_at hl 0 rfl) ?_
  refine lv_iload_n hx hb dX15_tryMachine_48 rfl (lv_at hl 2 rfl) ?_
  refine lv_icmp_ge (tgt := 92) hx hb dX15_tryMachine_49 (by decide) (fun c0 => absurd c0 (by decide)) (fun _ => ?_)
  refine lv_aload_n hx hb dX15_tryMachine_52 rfl (lv_at hl 1 rfl) ?_
  refine va_get (D := (dC, dI)) (ci := 15) (v := .ref tr) (C := RX15) (T := TX15) (N := 163) hx hb ht uX15 hown hK hP 1 rfl rfl 132 (by decide) (ht _ k_11_80) (fun _ h9 => h9) K132_fs dX15_tryMachine_53 ?_
  refine lv_iload_n hx hb dX15_tryMachine_56 rfl (lv_at hl 3 rfl) ?_
  refine lv_iload hx hb dX15_tryMachine_57 (lv_at hl 0 rfl) ?_
  refine va_iast (i := 0) (x := 0) hx hb hK hP hD hS 0 0 rfl rfl (by unfold vp_in; decide) dX15_tryMachine_59 (fun H locs hP hD hS => ?_)
  obtain ⟨f4, ef4⟩ : ∃ g : Nat → Int32, g = upd f1 (0 : Int32).toNatClampNeg 0 := ⟨_, rfl⟩
  rw [← ef4] at hP hD
  have hP : va_P (dC, dI) cls [(tr, .inl (c1, 10, .inl f4)), (q, .inr (15, fs)), (mu, .inl (c2, 5, .inl y3))] H := hP
  have hD : va_D A [(tr, .inl (c1, 10, .inl f4)), (q, .inr (15, fs)), (mu, .inl (c2, 5, .inl y3))] := hD
  refine lv_aload_n hx hb dX15_tryMachine_60 rfl (lv_at hl 1 rfl) ?_
  refine lv_iload_n hx hb dX15_tryMachine_61 rfl (lv_at hl 2 rfl) ?_
  refine lv_iload_n hx hb dX15_tryMachine_62 rfl (lv_at hl 3 rfl) ?_
  refine lv_iconst (v := 1) hx hb dX15_tryMachine_63 (by decide) ?_
  refine lv_iadd hx hb dX15_tryMachine_64 ?_
  refine tk_i (y := 1) (by decide) ?_
  refine lv_iload hx hb dX15_tryMachine_65 (lv_at hl 0 rfl) ?_
  refine lv_iload_n hx hb dX15_tryMachine_67 rfl (lv_at hl 4 rfl) ?_
  refine lv_icmp_ne (tgt := 77) hx hb dX15_tryMachine_68 (by decide) (fun _ => ?_) (fun c0 => absurd c0 (by decide))
  refine lv_iload_n hx hb dX15_tryMachine_77 rfl (lv_at hl 4 rfl) ?_
  refine ca_i (wr := []) (va_runV (As := [.int 1, .int 1, .int 1]) (rest := []) ⟨hx, hb, hml, hown, ht⟩ (r_tryMachine_1 l dC dI H.size q fs tr mu mc go c1 f4 c2 y3 L_fs K128_fs K132_fs K133_fs K135_fs K136_fs ) (cwV 3 ht (gdV k_15_224 k_15_221 k_15_223 ks_232 k_1_17) rfl rfl rfl (by decide +kernel) ⟨Nat.le_of_ble_eq_true rfl, Nat.le_of_ble_eq_true rfl⟩) ⟨pcw_blind, va_recv hK hP (ci := 15) (q0 := 1) rfl rfl, pcw_at hP hD hK [1, 0, 2] [0, 1] (by decide) rfl rfl rfl⟩ rfl rfl hl.1 rfl (lv_room (Nat.le_of_ble_eq_true rfl)) dX15_tryMachine_78 ⟨Nat.le_of_ble_eq_true rfl, Nat.le_of_ble_eq_true rfl⟩) hP hD hK hS hA [1, 0, 2] [] rfl rfl (by decide) (by decide) (fun r5 u H locs w6 hK hP hD hS => ?_)
  obtain ⟨y7, y8⟩ := u
  have hK : va_K (dC, dI) cls [(c1, .int), (c2, .int), (c2, .int), (c1, .int), (c2, .int)] s := hK
  have hP : va_P (dC, dI) cls [(q, .inr (15, fs)), (tr, .inl (c1, 10, .inl y7)), (mu, .inl (c2, 5, .inl y8))] H := hP
  have hD : va_D A [(q, .inr (15, fs)), (tr, .inl (c1, 10, .inl y7)), (mu, .inl (c2, 5, .inl y8))] := hD
  obtain rfl : r5 = 1 := w6
  refine lv_if_eq (tgt := 86) hx hb dX15_tryMachine_81 (by decide) (fun c0 => absurd c0 (by decide)) (fun _ => ?_)
  refine lv_iconst (v := 1) hx hb dX15_tryMachine_84 (by decide) ?_
  exact W.zret (v := 1) hx hb hr rfl (fun t ht9 hW => ⟨⟨1, (y7, y8), rfl, rfl, by rw [ht9]; exact hP.sub [0, 1, 2] rfl, va_K.moved hW.alike (hK.sub [0, 1] rfl), hD.sub [0, 1, 2] (by decide) rfl⟩, hS.F ht9⟩) hS.2.2 dX15_tryMachine_85
set_option maxHeartbeats 4000000 in
set_option maxRecDepth 100000 in
theorem r_isDown_machine (l : Launch) (dC : Nat → ClassId) (dI : Nat → Nat → Nat) (sz : Nat) (q : Nat) (fs : List Value) (tr : Nat) (mu : Nat) (mc : Nat) (go : Nat) (L_fs : fs.length = 163) (K54_fs : fs[54]? = some (.int 0)) (K128_fs : fs[128]? = some (.int 0)) (K132_fs : fs[132]? = some (.ref tr)) (K133_fs : fs[133]? = some (.ref mu)) (K135_fs : fs[135]? = some (.ref mc)) (K136_fs : fs[136]? = some (.ref go)) : Met l yX15_isDown (Cond.code yX15_isDown cX15_isDown 1 (some .boolean) :: tb) ({ frames := 0, cells := 0, slots := 0, locals := 0 }) (pcw [.ref q] (dC, dI) [(q, .inr (15, fs))] [] sz) (va_Qi (fun (r : Int32) => (fun (fs1 : List Value) => (r = 0) ∧ (fs1.length = 163) ∧ (fs1[51]? = some (.int 0)) ∧ (fs1[54]? = some (.int 0)) ∧ (fs1[128]? = some (.int 0)) ∧ (fs1[132]? = some (.ref tr)) ∧ (fs1[133]? = some (.ref mu)) ∧ (fs1[135]? = some (.ref mc)) ∧ (fs1[136]? = some (.ref go)))) (bw (dC, dI) (va_A [(q, .inr (15, fs))] sz) (fun (fs1 : List Value) => [(q, .inr (15, fs1))]) (fun (fs1 : List Value) => [])) (va_A [(q, .inr (15, fs))] sz)) 0 0 (va_A [(q, .inr (15, fs))] sz) := by
  refine Met.ofW (cc := cX15_isDown) (maxL := 1) (ret := (some .boolean)) (by decide) rfl ?_
  intro p e s m args below meth c s₁ B hml hv
  obtain ⟨rfl, hsz, hP, hK, hD0⟩ := hv
  have hx := B.exec
  have hb := B.bytes
  have hr := B.returns
  have hts := atoms_spec (ws := Cond.code yX15_isDown cX15_isDown 1 (some .boolean) :: tb) B.pre
  have ht : ∀ w ∈ tb, w.before _ s = true := fun w h => hts w (List.mem_cons_of_mem _ h)
  have hown : s.vm.findClass RX15 = some m.cls := findClass_of_methodNamed B.named
  have hlocks := B.notSynchronized
  subst hsz
  have hD := hD0.self (sz := s.heap.size)
  generalize hAe : va_A [(q, .inr (15, fs))] s.heap.size = A at hD ⊢
  have hA : ∀ q : Nat, s.heap.size ≤ q → A q := fun q h => by rw [← hAe]; exact Or.inr h
  have hS : va_S A s.heap s.heap [] := va_S.rf
  have hl := lv_entry ([.ref q]) (n := 1) (Nat.le_of_ble_eq_true rfl)
  rw [lg_entry_eq]
  generalize (lg_sl ([.ref q]) ++ List.replicate (1 - (lg_sl ([.ref q])).length) Slot.unset).toArray = ls at hl ⊢
  have hl : lv_has ls 1 [(0, .ref q)] := hl
  have hP : va_P (dC, dI) cls [(q, .inr (15, fs))] s.heap := hP
  refine lv_aload_n hx hb dX15_isDown_0 rfl (lv_at hl 0 rfl) ?_
  refine lv_iconst (v := 0) hx hb dX15_isDown_1 (by decide) ?_
  refine va_put (D := (dC, dI)) (ci := 15) (v := .int 0) (ty := .int) (C := RX15) (T := TX15) (N := 163) hx hb ht uX15 tyX15 tkX15 nmX15 hown hK hP hD hS 0 rfl rfl 51 (by decide) (ht _ k_10_239) (fun _ h9 => h9) rfl (by decide +kernel) rfl rfl (by rw [L_fs]; decide) dX15_isDown_2 (fun H locs hP hD hS => ?_)
  obtain ⟨F1, eF1⟩ : ∃ g : List Value, g = fs.set 51 (.int 0) := ⟨_, rfl⟩
  rw [← eF1] at hP hD
  have K54_F1 : F1[54]? = some (.int 0) := by rw [eF1, List.getElem?_set_ne (by decide)]; exact K54_fs
  have K128_F1 : F1[128]? = some (.int 0) := by rw [eF1, List.getElem?_set_ne (by decide)]; exact K128_fs
  have K132_F1 : F1[132]? = some (.ref tr) := by rw [eF1, List.getElem?_set_ne (by decide)]; exact K132_fs
  have K133_F1 : F1[133]? = some (.ref mu) := by rw [eF1, List.getElem?_set_ne (by decide)]; exact K133_fs
  have K135_F1 : F1[135]? = some (.ref mc) := by rw [eF1, List.getElem?_set_ne (by decide)]; exact K135_fs
  have K136_F1 : F1[136]? = some (.ref go) := by rw [eF1, List.getElem?_set_ne (by decide)]; exact K136_fs
  have K51_F1 : F1[51]? = some (.int 0) := by rw [eF1]; exact List.getElem?_set_self (by rw [L_fs]; decide)
  have L_F1 : F1.length = 163 := by rw [eF1, List.length_set]; exact L_fs
  have hP : va_P (dC, dI) cls [(q, .inr (15, F1))] H := hP
  have hD : va_D A [(q, .inr (15, F1))] := hD
  refine lv_aload_n hx hb dX15_isDown_5 rfl (lv_at hl 0 rfl) ?_
  refine va_get (D := (dC, dI)) (ci := 15) (v := .int 0) (C := RX15) (T := TX15) (N := 163) hx hb ht uX15 hown hK hP 0 rfl rfl 54 (by decide) (ht _ k_11_2) (fun _ h9 => h9) K54_F1 dX15_isDown_6 ?_
  exact W.zret (v := 0) hx hb hr rfl (fun t ht9 hW => ⟨⟨0, (F1), rfl, ⟨rfl, L_F1, K51_F1, K54_F1, K128_F1, K132_F1, K133_F1, K135_F1, K136_F1⟩, by rw [ht9]; exact hP.sub [0] rfl, va_K.moved hW.alike (hK.sub [] rfl), hD.sub [0] (by decide) rfl⟩, hS.F ht9⟩) hS.2.2 dX15_isDown_9
set_option maxHeartbeats 4000000 in
set_option maxRecDepth 100000 in
theorem r_machine (l : Launch) (dC : Nat → ClassId) (dI : Nat → Nat → Nat) (sz : Nat) (q : Nat) (fs : List Value) (tr : Nat) (mu : Nat) (mc : Nat) (go : Nat) (c1 : ClassId) (f1 : Nat → Int32) (c2 : ClassId) (f2 : Nat → Int32) (c3 : ClassId) (f3 : Nat → Int32) (c4 : ClassId) (f4 : Nat → Int32) (L_fs : fs.length = 163) (K54_fs : fs[54]? = some (.int 0)) (K128_fs : fs[128]? = some (.int 0)) (K132_fs : fs[132]? = some (.ref tr)) (K133_fs : fs[133]? = some (.ref mu)) (K135_fs : fs[135]? = some (.ref mc)) (K136_fs : fs[136]? = some (.ref go)) : Met l yX15_machine (Cond.code yX15_machine cX15_machine 4 (some .int) :: tb) ({ frames := 4, cells := 0, slots := 0, locals := 96 }) (pcw [.ref q] (dC, dI) [(q, .inr (15, fs)), (tr, .inl (c1, 10, .inl f1)), (mu, .inl (c2, 5, .inl f2)), (mc, .inl (c3, 10, .inl f3)), (go, .inl (c4, 5, .inl f4))] [(c1, .int), (c2, .int), (c3, .int), (c4, .boolean)] sz) (va_Qi (fun (r : Int32) => (fun (_ : Unit) => r = 1)) (bw (dC, dI) (va_A [(q, .inr (15, fs)), (tr, .inl (c1, 10, .inl f1)), (mu, .inl (c2, 5, .inl f2)), (mc, .inl (c3, 10, .inl f3)), (go, .inl (c4, 5, .inl f4))] sz) (fun (_ : Unit) => []) (fun (_ : Unit) => [])) (va_A [(q, .inr (15, fs)), (tr, .inl (c1, 10, .inl f1)), (mu, .inl (c2, 5, .inl f2)), (mc, .inl (c3, 10, .inl f3)), (go, .inl (c4, 5, .inl f4))] sz)) 0 0 (va_A [(q, .inr (15, fs)), (tr, .inl (c1, 10, .inl f1)), (mu, .inl (c2, 5, .inl f2)), (mc, .inl (c3, 10, .inl f3)), (go, .inl (c4, 5, .inl f4))] sz) := by
  refine Met.ofW (cc := cX15_machine) (maxL := 4) (ret := (some .int)) (by decide) rfl ?_
  intro p e s m args below meth c s₁ B hml hv
  obtain ⟨rfl, hsz, hP, hK, hD0⟩ := hv
  have hx := B.exec
  have hb := B.bytes
  have hr := B.returns
  have hts := atoms_spec (ws := Cond.code yX15_machine cX15_machine 4 (some .int) :: tb) B.pre
  have ht : ∀ w ∈ tb, w.before _ s = true := fun w h => hts w (List.mem_cons_of_mem _ h)
  have hown : s.vm.findClass RX15 = some m.cls := findClass_of_methodNamed B.named
  have hlocks := B.notSynchronized
  subst hsz
  have hD := hD0.self (sz := s.heap.size)
  generalize hAe : va_A [(q, .inr (15, fs)), (tr, .inl (c1, 10, .inl f1)), (mu, .inl (c2, 5, .inl f2)), (mc, .inl (c3, 10, .inl f3)), (go, .inl (c4, 5, .inl f4))] s.heap.size = A at hD ⊢
  have hA : ∀ q : Nat, s.heap.size ≤ q → A q := fun q h => by rw [← hAe]; exact Or.inr h
  have hS : va_S A s.heap s.heap [] := va_S.rf
  have hl := lv_entry ([.ref q]) (n := 4) (Nat.le_of_ble_eq_true rfl)
  rw [lg_entry_eq]
  generalize (lg_sl ([.ref q]) ++ List.replicate (4 - (lg_sl ([.ref q])).length) Slot.unset).toArray = ls at hl ⊢
  have hl : lv_has ls 4 [(0, .ref q)] := hl
  have hP : va_P (dC, dI) cls [(q, .inr (15, fs)), (tr, .inl (c1, 10, .inl f1)), (mu, .inl (c2, 5, .inl f2)), (mc, .inl (c3, 10, .inl f3)), (go, .inl (c4, 5, .inl f4))] s.heap := hP
  refine lv_aload_n hx hb dX15_machine_0 rfl (lv_at hl 0 rfl) ?_
  refine ca_i (wr := [(tr, .inl (c1, 10, .inl f1)), (mu, .inl (c2, 5, .inl f2)), (mc, .inl (c3, 10, .inl f3)), (go, .inl (c4, 5, .inl f4))]) (va_runV (As := []) (rest := []) ⟨hx, hb, hml, hown, ht⟩ (r_isDown_machine l dC dI s.heap.size q fs tr mu mc go L_fs K54_fs K128_fs K132_fs K133_fs K135_fs K136_fs ) (cwV 0 ht (gdV k_12_228 k_12_225 k_12_227 ks_112 k_1_17) rfl rfl rfl (by decide +kernel) ⟨Nat.le_of_ble_eq_true rfl, Nat.le_of_ble_eq_true rfl⟩) ⟨pcw_blind, va_recv hK hP (ci := 15) (q0 := 0) rfl rfl, pcw_at hP hD hK [0] [] (by decide) rfl rfl rfl⟩ rfl rfl hl.1 rfl (lv_room (Nat.le_of_ble_eq_true rfl)) dX15_machine_1 ⟨Nat.le_of_ble_eq_true rfl, Nat.le_of_ble_eq_true rfl⟩) hP hD hK hS hA [0] [1, 2, 3, 4] rfl rfl (by decide) (by decide) (fun r1 u H locs w2 hK hP hD hS => ?_)
  obtain ⟨F3, rfl⟩ : ∃ z, z = u := ⟨_, rfl⟩
  have hK : va_K (dC, dI) cls [(c1, .int), (c2, .int), (c3, .int), (c4, .boolean)] s := hK
  have hP : va_P (dC, dI) cls [(tr, .inl (c1, 10, .inl f1)), (mu, .inl (c2, 5, .inl f2)), (mc, .inl (c3, 10, .inl f3)), (go, .inl (c4, 5, .inl f4)), (q, .inr (15, F3))] H := hP
  have hD : va_D A [(tr, .inl (c1, 10, .inl f1)), (mu, .inl (c2, 5, .inl f2)), (mc, .inl (c3, 10, .inl f3)), (go, .inl (c4, 5, .inl f4)), (q, .inr (15, F3))] := hD
  obtain ⟨w2, K4, K5, K6, K7, K8, K9, K10, K11⟩ := w2
  obtain rfl : r1 = 0 := w2
  refine lv_if_eq (tgt := 10) hx hb dX15_machine_4 (by decide) (fun _ => ?_) (fun c0 => absurd c0 (by decide))
  refine lv_iconst (v := 1) hx hb dX15_machine_10 (by decide) ?_
  refine lv_istore_n (lv' := [(1, .int 1), (0, .ref q)]) hx hb dX15_machine_11 rfl hl (by decide) rfl (fun ls hl => ?_)
  refine lv_iload_n hx hb dX15_machine_12 rfl (lv_at hl 0 rfl) ?_
  refine lv_bipush (v := 6) hx hb dX15_machine_13 (by decide) ?_
  refine lv_icmp_ge (tgt := 132) hx hb dX15_machine_15 (by decide) (fun c0 => absurd c0 (by decide)) (fun _ => ?_)
  refine lv_iconst (v := 0) hx hb dX15_machine_18 (by decide) ?_
  refine lv_istore_n (lv' := [(2, .int 0), (1, .int 1), (0, .ref q)]) hx hb dX15_machine_19 rfl hl (by decide) rfl (fun ls hl => ?_)
  refine lv_iload_n hx hb dX15_machine_20 rfl (lv_at hl 0 rfl) ?_
  refine lv_bipush (v := 10) hx hb dX15_machine_21 (by decide) ?_
  refine lv_icmp_ge (tgt := 39) hx hb dX15_machine_23 (by decide) (fun c0 => absurd c0 (by decide)) (fun _ => ?_)
  refine lv_aload_n hx hb dX15_machine_26 rfl (lv_at hl 2 rfl) ?_
  refine va_get (D := (dC, dI)) (ci := 15) (v := .ref tr) (C := RX15) (T := TX15) (N := 163) hx hb ht uX15 hown hK hP 4 rfl rfl 132 (by decide) (ht _ k_11_80) (fun _ h9 => h9) K8 dX15_machine_27 ?_
  refine lv_iload_n hx hb dX15_machine_30 rfl (lv_at hl 0 rfl) ?_
  refine lv_iconst (v := (-1)) hx hb dX15_machine_31 (by decide) ?_
  refine va_iast (i := 0) (x := (-1)) hx hb hK hP hD hS 0 0 rfl rfl (by unfold vp_in; decide) dX15_machine_32 (fun H locs hP hD hS => ?_)
  obtain ⟨f12, ef12⟩ : ∃ g : Nat → Int32, g = upd f1 (0 : Int32).toNatClampNeg (-1) := ⟨_, rfl⟩
  rw [← ef12] at hP hD
  have hP : va_P (dC, dI) cls [(tr, .inl (c1, 10, .inl f12)), (mu, .inl (c2, 5, .inl f2)), (mc, .inl (c3, 10, .inl f3)), (go, .inl (c4, 5, .inl f4)), (q, .inr (15, F3))] H := hP
  have hD : va_D A [(tr, .inl (c1, 10, .inl f12)), (mu, .inl (c2, 5, .inl f2)), (mc, .inl (c3, 10, .inl f3)), (go, .inl (c4, 5, .inl f4)), (q, .inr (15, F3))] := hD
  refine lv_iinc (v := 1) (lv' := [(2, .int 1), (1, .int 1), (0, .ref q)]) hx hb dX15_machine_33 hl (k := 0) rfl (by decide) (by decide) rfl (fun ls hl => ?_)
  refine lv_goto (tgt := 20) hx hb dX15_machine_36 (by decide) ?_
  refine lv_iload_n hx hb dX15_machine_20 rfl (lv_at hl 0 rfl) ?_
  refine lv_bipush (v := 10) hx hb dX15_machine_21 (by decide) ?_
  refine lv_icmp_ge (tgt := 39) hx hb dX15_machine_23 (by decide) (fun c0 => absurd c0 (by decide)) (fun _ => ?_)
  refine lv_aload_n hx hb dX15_machine_26 rfl (lv_at hl 2 rfl) ?_
  refine va_get (D := (dC, dI)) (ci := 15) (v := .ref tr) (C := RX15) (T := TX15) (N := 163) hx hb ht uX15 hown hK hP 4 rfl rfl 132 (by decide) (ht _ k_11_80) (fun _ h9 => h9) K8 dX15_machine_27 ?_
  refine lv_iload_n hx hb dX15_machine_30 rfl (lv_at hl 0 rfl) ?_
  refine lv_iconst (v := (-1)) hx hb dX15_machine_31 (by decide) ?_
  refine va_iast (i := 1) (x := (-1)) hx hb hK hP hD hS 0 0 rfl rfl (by unfold vp_in; decide) dX15_machine_32 (fun H locs hP hD hS => ?_)
  obtain ⟨f13, ef13⟩ : ∃ g : Nat → Int32, g = upd f12 (1 : Int32).toNatClampNeg (-1) := ⟨_, rfl⟩
  rw [← ef13] at hP hD
  have hP : va_P (dC, dI) cls [(tr, .inl (c1, 10, .inl f13)), (mu, .inl (c2, 5, .inl f2)), (mc, .inl (c3, 10, .inl f3)), (go, .inl (c4, 5, .inl f4)), (q, .inr (15, F3))] H := hP
  have hD : va_D A [(tr, .inl (c1, 10, .inl f13)), (mu, .inl (c2, 5, .inl f2)), (mc, .inl (c3, 10, .inl f3)), (go, .inl (c4, 5, .inl f4)), (q, .inr (15, F3))] := hD
  refine lv_iinc (v := 2) (lv' := [(2, .int 2), (1, .int 1), (0, .ref q)]) hx hb dX15_machine_33 hl (k := 0) rfl (by decide) (by decide) rfl (fun ls hl => ?_)
  refine lv_goto (tgt := 20) hx hb dX15_machine_36 (by decide) ?_
  refine lv_iload_n hx hb dX15_machine_20 rfl (lv_at hl 0 rfl) ?_
  refine lv_bipush (v := 10) hx hb dX15_machine_21 (by decide) ?_
  refine lv_icmp_ge (tgt := 39) hx hb dX15_machine_23 (by decide) (fun c0 => absurd c0 (by decide)) (fun _ => ?_)
  refine lv_aload_n hx hb dX15_machine_26 rfl (lv_at hl 2 rfl) ?_
  refine va_get (D := (dC, dI)) (ci := 15) (v := .ref tr) (C := RX15) (T := TX15) (N := 163) hx hb ht uX15 hown hK hP 4 rfl rfl 132 (by decide) (ht _ k_11_80) (fun _ h9 => h9) K8 dX15_machine_27 ?_
  refine lv_iload_n hx hb dX15_machine_30 rfl (lv_at hl 0 rfl) ?_
  refine lv_iconst (v := (-1)) hx hb dX15_machine_31 (by decide) ?_
  refine va_iast (i := 2) (x := (-1)) hx hb hK hP hD hS 0 0 rfl rfl (by unfold vp_in; decide) dX15_machine_32 (fun H locs hP hD hS => ?_)
  obtain ⟨f14, ef14⟩ : ∃ g : Nat → Int32, g = upd f13 (2 : Int32).toNatClampNeg (-1) := ⟨_, rfl⟩
  rw [← ef14] at hP hD
  have hP : va_P (dC, dI) cls [(tr, .inl (c1, 10, .inl f14)), (mu, .inl (c2, 5, .inl f2)), (mc, .inl (c3, 10, .inl f3)), (go, .inl (c4, 5, .inl f4)), (q, .inr (15, F3))] H := hP
  have hD : va_D A [(tr, .inl (c1, 10, .inl f14)), (mu, .inl (c2, 5, .inl f2)), (mc, .inl (c3, 10, .inl f3)), (go, .inl (c4, 5, .inl f4)), (q, .inr (15, F3))] := hD
  refine lv_iinc (v := 3) (lv' := [(2, .int 3), (1, .int 1), (0, .ref q)]) hx hb dX15_machine_33 hl (k := 0) rfl (by decide) (by decide) rfl (fun ls hl => ?_)
  refine lv_goto (tgt := 20) hx hb dX15_machine_36 (by decide) ?_
  refine lv_iload_n hx hb dX15_machine_20 rfl (lv_at hl 0 rfl) ?_
  refine lv_bipush (v := 10) hx hb dX15_machine_21 (by decide) ?_
  refine lv_icmp_ge (tgt := 39) hx hb dX15_machine_23 (by decide) (fun c0 => absurd c0 (by decide)) (fun _ => ?_)
  refine lv_aload_n hx hb dX15_machine_26 rfl (lv_at hl 2 rfl) ?_
  refine va_get (D := (dC, dI)) (ci := 15) (v := .ref tr) (C := RX15) (T := TX15) (N := 163) hx hb ht uX15 hown hK hP 4 rfl rfl 132 (by decide) (ht _ k_11_80) (fun _ h9 => h9) K8 dX15_machine_27 ?_
  refine lv_iload_n hx hb dX15_machine_30 rfl (lv_at hl 0 rfl) ?_
  refine lv_iconst (v := (-1)) hx hb dX15_machine_31 (by decide) ?_
  refine va_iast (i := 3) (x := (-1)) hx hb hK hP hD hS 0 0 rfl rfl (by unfold vp_in; decide) dX15_machine_32 (fun H locs hP hD hS => ?_)
  obtain ⟨f15, ef15⟩ : ∃ g : Nat → Int32, g = upd f14 (3 : Int32).toNatClampNeg (-1) := ⟨_, rfl⟩
  rw [← ef15] at hP hD
  have hP : va_P (dC, dI) cls [(tr, .inl (c1, 10, .inl f15)), (mu, .inl (c2, 5, .inl f2)), (mc, .inl (c3, 10, .inl f3)), (go, .inl (c4, 5, .inl f4)), (q, .inr (15, F3))] H := hP
  have hD : va_D A [(tr, .inl (c1, 10, .inl f15)), (mu, .inl (c2, 5, .inl f2)), (mc, .inl (c3, 10, .inl f3)), (go, .inl (c4, 5, .inl f4)), (q, .inr (15, F3))] := hD
  refine lv_iinc (v := 4) (lv' := [(2, .int 4), (1, .int 1), (0, .ref q)]) hx hb dX15_machine_33 hl (k := 0) rfl (by decide) (by decide) rfl (fun ls hl => ?_)
  refine lv_goto (tgt := 20) hx hb dX15_machine_36 (by decide) ?_
  refine lv_iload_n hx hb dX15_machine_20 rfl (lv_at hl 0 rfl) ?_
  refine lv_bipush (v := 10) hx hb dX15_machine_21 (by decide) ?_
  refine lv_icmp_ge (tgt := 39) hx hb dX15_machine_23 (by decide) (fun c0 => absurd c0 (by decide)) (fun _ => ?_)
  refine lv_aload_n hx hb dX15_machine_26 rfl (lv_at hl 2 rfl) ?_
  refine va_get (D := (dC, dI)) (ci := 15) (v := .ref tr) (C := RX15) (T := TX15) (N := 163) hx hb ht uX15 hown hK hP 4 rfl rfl 132 (by decide) (ht _ k_11_80) (fun _ h9 => h9) K8 dX15_machine_27 ?_
  refine lv_iload_n hx hb dX15_machine_30 rfl (lv_at hl 0 rfl) ?_
  refine lv_iconst (v := (-1)) hx hb dX15_machine_31 (by decide) ?_
  refine va_iast (i := 4) (x := (-1)) hx hb hK hP hD hS 0 0 rfl rfl (by unfold vp_in; decide) dX15_machine_32 (fun H locs hP hD hS => ?_)
  obtain ⟨f16, ef16⟩ : ∃ g : Nat → Int32, g = upd f15 (4 : Int32).toNatClampNeg (-1) := ⟨_, rfl⟩
  rw [← ef16] at hP hD
  have hP : va_P (dC, dI) cls [(tr, .inl (c1, 10, .inl f16)), (mu, .inl (c2, 5, .inl f2)), (mc, .inl (c3, 10, .inl f3)), (go, .inl (c4, 5, .inl f4)), (q, .inr (15, F3))] H := hP
  have hD : va_D A [(tr, .inl (c1, 10, .inl f16)), (mu, .inl (c2, 5, .inl f2)), (mc, .inl (c3, 10, .inl f3)), (go, .inl (c4, 5, .inl f4)), (q, .inr (15, F3))] := hD
  refine lv_iinc (v := 5) (lv' := [(2, .int 5), (1, .int 1), (0, .ref q)]) hx hb dX15_machine_33 hl (k := 0) rfl (by decide) (by decide) rfl (fun ls hl => ?_)
  refine lv_goto (tgt := 20) hx hb dX15_machine_36 (by decide) ?_
  refine lv_iload_n hx hb dX15_machine_20 rfl (lv_at hl 0 rfl) ?_
  refine lv_bipush (v := 10) hx hb dX15_machine_21 (by decide) ?_
  refine lv_icmp_ge (tgt := 39) hx hb dX15_machine_23 (by decide) (fun c0 => absurd c0 (by decide)) (fun _ => ?_)
  refine lv_aload_n hx hb dX15_machine_26 rfl (lv_at hl 2 rfl) ?_
  refine va_get (D := (dC, dI)) (ci := 15) (v := .ref tr) (C := RX15) (T := TX15) (N := 163) hx hb ht uX15 hown hK hP 4 rfl rfl 132 (by decide) (ht _ k_11_80) (fun _ h9 => h9) K8 dX15_machine_27 ?_
  refine lv_iload_n hx hb dX15_machine_30 rfl (lv_at hl 0 rfl) ?_
  refine lv_iconst (v := (-1)) hx hb dX15_machine_31 (by decide) ?_
  refine va_iast (i := 5) (x := (-1)) hx hb hK hP hD hS 0 0 rfl rfl (by unfold vp_in; decide) dX15_machine_32 (fun H locs hP hD hS => ?_)
  obtain ⟨f17, ef17⟩ : ∃ g : Nat → Int32, g = upd f16 (5 : Int32).toNatClampNeg (-1) := ⟨_, rfl⟩
  rw [← ef17] at hP hD
  have hP : va_P (dC, dI) cls [(tr, .inl (c1, 10, .inl f17)), (mu, .inl (c2, 5, .inl f2)), (mc, .inl (c3, 10, .inl f3)), (go, .inl (c4, 5, .inl f4)), (q, .inr (15, F3))] H := hP
  have hD : va_D A [(tr, .inl (c1, 10, .inl f17)), (mu, .inl (c2, 5, .inl f2)), (mc, .inl (c3, 10, .inl f3)), (go, .inl (c4, 5, .inl f4)), (q, .inr (15, F3))] := hD
  refine lv_iinc (v := 6) (lv' := [(2, .int 6), (1, .int 1), (0, .ref q)]) hx hb dX15_machine_33 hl (k := 0) rfl (by decide) (by decide) rfl (fun ls hl => ?_)
  refine lv_goto (tgt := 20) hx hb dX15_machine_36 (by decide) ?_
  refine lv_iload_n hx hb dX15_machine_20 rfl (lv_at hl 0 rfl) ?_
  refine lv_bipush (v := 10) hx hb dX15_machine_21 (by decide) ?_
  refine lv_icmp_ge (tgt := 39) hx hb dX15_machine_23 (by decide) (fun c0 => absurd c0 (by decide)) (fun _ => ?_)
  refine lv_aload_n hx hb dX15_machine_26 rfl (lv_at hl 2 rfl) ?_
  refine va_get (D := (dC, dI)) (ci := 15) (v := .ref tr) (C := RX15) (T := TX15) (N := 163) hx hb ht uX15 hown hK hP 4 rfl rfl 132 (by decide) (ht _ k_11_80) (fun _ h9 => h9) K8 dX15_machine_27 ?_
  refine lv_iload_n hx hb dX15_machine_30 rfl (lv_at hl 0 rfl) ?_
  refine lv_iconst (v := (-1)) hx hb dX15_machine_31 (by decide) ?_
  refine va_iast (i := 6) (x := (-1)) hx hb hK hP hD hS 0 0 rfl rfl (by unfold vp_in; decide) dX15_machine_32 (fun H locs hP hD hS => ?_)
  obtain ⟨f18, ef18⟩ : ∃ g : Nat → Int32, g = upd f17 (6 : Int32).toNatClampNeg (-1) := ⟨_, rfl⟩
  rw [← ef18] at hP hD
  have hP : va_P (dC, dI) cls [(tr, .inl (c1, 10, .inl f18)), (mu, .inl (c2, 5, .inl f2)), (mc, .inl (c3, 10, .inl f3)), (go, .inl (c4, 5, .inl f4)), (q, .inr (15, F3))] H := hP
  have hD : va_D A [(tr, .inl (c1, 10, .inl f18)), (mu, .inl (c2, 5, .inl f2)), (mc, .inl (c3, 10, .inl f3)), (go, .inl (c4, 5, .inl f4)), (q, .inr (15, F3))] := hD
  refine lv_iinc (v := 7) (lv' := [(2, .int 7), (1, .int 1), (0, .ref q)]) hx hb dX15_machine_33 hl (k := 0) rfl (by decide) (by decide) rfl (fun ls hl => ?_)
  refine lv_goto (tgt := 20) hx hb dX15_machine_36 (by decide) ?_
  refine lv_iload_n hx hb dX15_machine_20 rfl (lv_at hl 0 rfl) ?_
  refine lv_bipush (v := 10) hx hb dX15_machine_21 (by decide) ?_
  refine lv_icmp_ge (tgt := 39) hx hb dX15_machine_23 (by decide) (fun c0 => absurd c0 (by decide)) (fun _ => ?_)
  refine lv_aload_n hx hb dX15_machine_26 rfl (lv_at hl 2 rfl) ?_
  refine va_get (D := (dC, dI)) (ci := 15) (v := .ref tr) (C := RX15) (T := TX15) (N := 163) hx hb ht uX15 hown hK hP 4 rfl rfl 132 (by decide) (ht _ k_11_80) (fun _ h9 => h9) K8 dX15_machine_27 ?_
  refine lv_iload_n hx hb dX15_machine_30 rfl (lv_at hl 0 rfl) ?_
  refine lv_iconst (v := (-1)) hx hb dX15_machine_31 (by decide) ?_
  refine va_iast (i := 7) (x := (-1)) hx hb hK hP hD hS 0 0 rfl rfl (by unfold vp_in; decide) dX15_machine_32 (fun H locs hP hD hS => ?_)
  obtain ⟨f19, ef19⟩ : ∃ g : Nat → Int32, g = upd f18 (7 : Int32).toNatClampNeg (-1) := ⟨_, rfl⟩
  rw [← ef19] at hP hD
  have hP : va_P (dC, dI) cls [(tr, .inl (c1, 10, .inl f19)), (mu, .inl (c2, 5, .inl f2)), (mc, .inl (c3, 10, .inl f3)), (go, .inl (c4, 5, .inl f4)), (q, .inr (15, F3))] H := hP
  have hD : va_D A [(tr, .inl (c1, 10, .inl f19)), (mu, .inl (c2, 5, .inl f2)), (mc, .inl (c3, 10, .inl f3)), (go, .inl (c4, 5, .inl f4)), (q, .inr (15, F3))] := hD
  refine lv_iinc (v := 8) (lv' := [(2, .int 8), (1, .int 1), (0, .ref q)]) hx hb dX15_machine_33 hl (k := 0) rfl (by decide) (by decide) rfl (fun ls hl => ?_)
  refine lv_goto (tgt := 20) hx hb dX15_machine_36 (by decide) ?_
  refine lv_iload_n hx hb dX15_machine_20 rfl (lv_at hl 0 rfl) ?_
  refine lv_bipush (v := 10) hx hb dX15_machine_21 (by decide) ?_
  refine lv_icmp_ge (tgt := 39) hx hb dX15_machine_23 (by decide) (fun c0 => absurd c0 (by decide)) (fun _ => ?_)
  refine lv_aload_n hx hb dX15_machine_26 rfl (lv_at hl 2 rfl) ?_
  refine va_get (D := (dC, dI)) (ci := 15) (v := .ref tr) (C := RX15) (T := TX15) (N := 163) hx hb ht uX15 hown hK hP 4 rfl rfl 132 (by decide) (ht _ k_11_80) (fun _ h9 => h9) K8 dX15_machine_27 ?_
  refine lv_iload_n hx hb dX15_machine_30 rfl (lv_at hl 0 rfl) ?_
  refine lv_iconst (v := (-1)) hx hb dX15_machine_31 (by decide) ?_
  refine va_iast (i := 8) (x := (-1)) hx hb hK hP hD hS 0 0 rfl rfl (by unfold vp_in; decide) dX15_machine_32 (fun H locs hP hD hS => ?_)
  obtain ⟨f20, ef20⟩ : ∃ g : Nat → Int32, g = upd f19 (8 : Int32).toNatClampNeg (-1) := ⟨_, rfl⟩
  rw [← ef20] at hP hD
  have hP : va_P (dC, dI) cls [(tr, .inl (c1, 10, .inl f20)), (mu, .inl (c2, 5, .inl f2)), (mc, .inl (c3, 10, .inl f3)), (go, .inl (c4, 5, .inl f4)), (q, .inr (15, F3))] H := hP
  have hD : va_D A [(tr, .inl (c1, 10, .inl f20)), (mu, .inl (c2, 5, .inl f2)), (mc, .inl (c3, 10, .inl f3)), (go, .inl (c4, 5, .inl f4)), (q, .inr (15, F3))] := hD
  refine lv_iinc (v := 9) (lv' := [(2, .int 9), (1, .int 1), (0, .ref q)]) hx hb dX15_machine_33 hl (k := 0) rfl (by decide) (by decide) rfl (fun ls hl => ?_)
  refine lv_goto (tgt := 20) hx hb dX15_machine_36 (by decide) ?_
  refine lv_iload_n hx hb dX15_machine_20 rfl (lv_at hl 0 rfl) ?_
  refine lv_bipush (v := 10) hx hb dX15_machine_21 (by decide) ?_
  refine lv_icmp_ge (tgt := 39) hx hb dX15_machine_23 (by decide) (fun c0 => absurd c0 (by decide)) (fun _ => ?_)
  refine lv_aload_n hx hb dX15_machine_26 rfl (lv_at hl 2 rfl) ?_
  refine va_get (D := (dC, dI)) (ci := 15) (v := .ref tr) (C := RX15) (T := TX15) (N := 163) hx hb ht uX15 hown hK hP 4 rfl rfl 132 (by decide) (ht _ k_11_80) (fun _ h9 => h9) K8 dX15_machine_27 ?_
  refine lv_iload_n hx hb dX15_machine_30 rfl (lv_at hl 0 rfl) ?_
  refine lv_iconst (v := (-1)) hx hb dX15_machine_31 (by decide) ?_
  refine va_iast (i := 9) (x := (-1)) hx hb hK hP hD hS 0 0 rfl rfl (by unfold vp_in; decide) dX15_machine_32 (fun H locs hP hD hS => ?_)
  obtain ⟨f21, ef21⟩ : ∃ g : Nat → Int32, g = upd f20 (9 : Int32).toNatClampNeg (-1) := ⟨_, rfl⟩
  rw [← ef21] at hP hD
  have hP : va_P (dC, dI) cls [(tr, .inl (c1, 10, .inl f21)), (mu, .inl (c2, 5, .inl f2)), (mc, .inl (c3, 10, .inl f3)), (go, .inl (c4, 5, .inl f4)), (q, .inr (15, F3))] H := hP
  have hD : va_D A [(tr, .inl (c1, 10, .inl f21)), (mu, .inl (c2, 5, .inl f2)), (mc, .inl (c3, 10, .inl f3)), (go, .inl (c4, 5, .inl f4)), (q, .inr (15, F3))] := hD
  refine lv_iinc (v := 10) (lv' := [(2, .int 10), (1, .int 1), (0, .ref q)]) hx hb dX15_machine_33 hl (k := 0) rfl (by decide) (by decide) rfl (fun ls hl => ?_)
  refine lv_goto (tgt := 20) hx hb dX15_machine_36 (by decide) ?_
  refine lv_iload_n hx hb dX15_machine_20 rfl (lv_at hl 0 rfl) ?_
  refine lv_bipush (v := 10) hx hb dX15_machine_21 (by decide) ?_
  refine lv_icmp_ge (tgt := 39) hx hb dX15_machine_23 (by decide) (fun _ => ?_) (fun c0 => absurd c0 (by decide))
  refine lv_aload_n hx hb dX15_machine_39 rfl (lv_at hl 2 rfl) ?_
  refine lv_iload_n hx hb dX15_machine_40 rfl (lv_at hl 1 rfl) ?_
  refine lv_iconst (v := 0) hx hb dX15_machine_41 (by decide) ?_
  refine lv_iconst (v := 1) hx hb dX15_machine_42 (by decide) ?_
  refine ca_i (wr := [(mc, .inl (c3, 10, .inl f3)), (go, .inl (c4, 5, .inl f4))]) (va_runV (As := [.int 1, .int 0, .int 1]) (rest := []) ⟨hx, hb, hml, hown, ht⟩ (r_tryMachine_0 l dC dI H.size q F3 tr mu mc go c1 f21 c2 f2 K4 K7 K8 K9 K10 K11 ) (cwV 3 ht (gdV k_15_224 k_15_221 k_15_223 ks_232 k_1_17) rfl rfl rfl (by decide +kernel) ⟨Nat.le_of_ble_eq_true rfl, Nat.le_of_ble_eq_true rfl⟩) ⟨pcw_blind, va_recv hK hP (ci := 15) (q0 := 4) rfl rfl, pcw_at hP hD hK [4, 0, 1] [0, 1] (by decide) rfl rfl rfl⟩ rfl rfl hl.1 rfl (lv_room (Nat.le_of_ble_eq_true rfl)) dX15_machine_43 ⟨Nat.le_of_ble_eq_true rfl, Nat.le_of_ble_eq_true rfl⟩) hP hD hK hS hA [4, 0, 1] [2, 3] rfl rfl (by decide) (by decide) (fun r22 u H locs w23 hK hP hD hS => ?_)
  obtain ⟨y24, y25⟩ := u
  have hK : va_K (dC, dI) cls [(c1, .int), (c2, .int), (c3, .int), (c4, .boolean), (c1, .int), (c2, .int)] s := hK
  have hP : va_P (dC, dI) cls [(mc, .inl (c3, 10, .inl f3)), (go, .inl (c4, 5, .inl f4)), (q, .inr (15, F3)), (tr, .inl (c1, 10, .inl y24)), (mu, .inl (c2, 5, .inl y25))] H := hP
  have hD : va_D A [(mc, .inl (c3, 10, .inl f3)), (go, .inl (c4, 5, .inl f4)), (q, .inr (15, F3)), (tr, .inl (c1, 10, .inl y24)), (mu, .inl (c2, 5, .inl y25))] := hD
  obtain rfl : r22 = 1 := w23
  refine lv_if_ne (tgt := 52) hx hb dX15_machine_46 (by decide) (fun _ => ?_) (fun c0 => absurd c0 (by decide))
  refine lv_aload_n hx hb dX15_machine_52 rfl (lv_at hl 2 rfl) ?_
  refine lv_iload_n hx hb dX15_machine_53 rfl (lv_at hl 1 rfl) ?_
  refine ca_i (wr := [(mc, .inl (c3, 10, .inl f3)), (go, .inl (c4, 5, .inl f4)), (tr, .inl (c1, 10, .inl y24))]) (va_runV (As := [.int 1]) (rest := []) ⟨hx, hb, hml, hown, ht⟩ (r_fits l dC dI H.size q F3 tr mu mc go c2 y25 K4 K7 K8 K9 K10 K11 ) (cwV 1 ht (gdV k_15_228 k_15_225 k_15_227 ks_233 k_1_17) rfl rfl rfl (by decide +kernel) ⟨Nat.le_of_ble_eq_true rfl, Nat.le_of_ble_eq_true rfl⟩) ⟨pcw_blind, va_recv hK hP (ci := 15) (q0 := 2) rfl rfl, pcw_at hP hD hK [2, 4] [1] (by decide) rfl rfl rfl⟩ rfl rfl hl.1 rfl (lv_room (Nat.le_of_ble_eq_true rfl)) dX15_machine_54 ⟨Nat.le_of_ble_eq_true rfl, Nat.le_of_ble_eq_true rfl⟩) hP hD hK hS hA [2, 4] [0, 1, 3] rfl rfl (by decide) (by decide) (fun r26 u H locs w27 hK hP hD hS => ?_)
  obtain ⟨y28, rfl⟩ : ∃ z, z = u := ⟨_, rfl⟩
  have hK : va_K (dC, dI) cls [(c1, .int), (c2, .int), (c3, .int), (c4, .boolean), (c1, .int), (c2, .int), (c2, .int)] s := hK
  have hP : va_P (dC, dI) cls [(mc, .inl (c3, 10, .inl f3)), (go, .inl (c4, 5, .inl f4)), (tr, .inl (c1, 10, .inl y24)), (q, .inr (15, F3)), (mu, .inl (c2, 5, .inl y28))] H := hP
  have hD : va_D A [(mc, .inl (c3, 10, .inl f3)), (go, .inl (c4, 5, .inl f4)), (tr, .inl (c1, 10, .inl y24)), (q, .inr (15, F3)), (mu, .inl (c2, 5, .inl y28))] := hD
  obtain rfl : r26 = 1 := w27
  refine lv_istore_n (lv' := [(2, .int 1), (1, .int 1), (0, .ref q)]) hx hb dX15_machine_57 rfl hl (by decide) rfl (fun ls hl => ?_)
  refine lv_iconst (v := 0) hx hb dX15_machine_58 (by decide) ?_
  refine lv_istore_n (lv' := [(3, .int 0), (2, .int 1), (1, .int 1), (0, .ref q)]) hx hb dX15_machine_59 rfl hl (by decide) rfl (fun ls hl => ?_)
  refine lv_iload_n hx hb dX15_machine_60 rfl (lv_at hl 0 rfl) ?_
  refine lv_iconst (v := 2) hx hb dX15_machine_61 (by decide) ?_
  refine lv_iload_n hx hb dX15_machine_62 rfl (lv_at hl 2 rfl) ?_
  refine lv_imul hx hb dX15_machine_63 ?_
  refine tk_i (y := 2) (by decide) ?_
  refine lv_icmp_ge (tgt := 85) hx hb dX15_machine_64 (by decide) (fun c0 => absurd c0 (by decide)) (fun _ => ?_)
  refine lv_aload_n hx hb dX15_machine_67 rfl (lv_at hl 3 rfl) ?_
  refine va_get (D := (dC, dI)) (ci := 15) (v := .ref mc) (C := RX15) (T := TX15) (N := 163) hx hb ht uX15 hown hK hP 3 rfl rfl 135 (by decide) (ht _ k_11_83) (fun _ h9 => h9) K10 dX15_machine_68 ?_
  refine lv_iload_n hx hb dX15_machine_71 rfl (lv_at hl 0 rfl) ?_
  refine lv_aload_n hx hb dX15_machine_72 rfl (lv_at hl 3 rfl) ?_
  refine va_get (D := (dC, dI)) (ci := 15) (v := .ref tr) (C := RX15) (T := TX15) (N := 163) hx hb ht uX15 hown hK hP 3 rfl rfl 132 (by decide) (ht _ k_11_80) (fun _ h9 => h9) K8 dX15_machine_73 ?_
  refine lv_iload_n hx hb dX15_machine_76 rfl (lv_at hl 0 rfl) ?_
  refine va_iald hx hb hK hP 2 0 rfl rfl (by unfold vp_in; decide) dX15_machine_77 ?_
  refine tk_i (y := y24 0) (by first | rfl | decide) ?_
  refine lv_topi (fun x29 ex29 => ?_)
  refine va_iast (i := 0) (x := x29) hx hb hK hP hD hS 0 2 rfl rfl (by unfold vp_in; decide) dX15_machine_78 (fun H locs hP hD hS => ?_)
  obtain ⟨f30, ef30⟩ : ∃ g : Nat → Int32, g = upd f3 (0 : Int32).toNatClampNeg x29 := ⟨_, rfl⟩
  rw [← ef30] at hP hD
  have hP : va_P (dC, dI) cls [(mc, .inl (c3, 10, .inl f30)), (go, .inl (c4, 5, .inl f4)), (tr, .inl (c1, 10, .inl y24)), (q, .inr (15, F3)), (mu, .inl (c2, 5, .inl y28))] H := hP
  have hD : va_D A [(mc, .inl (c3, 10, .inl f30)), (go, .inl (c4, 5, .inl f4)), (tr, .inl (c1, 10, .inl y24)), (q, .inr (15, F3)), (mu, .inl (c2, 5, .inl y28))] := hD
  refine lv_iinc (v := 1) (lv' := [(3, .int 1), (2, .int 1), (1, .int 1), (0, .ref q)]) hx hb dX15_machine_79 hl (k := 0) rfl (by decide) (by decide) rfl (fun ls hl => ?_)
  refine lv_goto (tgt := 60) hx hb dX15_machine_82 (by decide) ?_
  refine lv_iload_n hx hb dX15_machine_60 rfl (lv_at hl 0 rfl) ?_
  refine lv_iconst (v := 2) hx hb dX15_machine_61 (by decide) ?_
  refine lv_iload_n hx hb dX15_machine_62 rfl (lv_at hl 2 rfl) ?_
  refine lv_imul hx hb dX15_machine_63 ?_
  refine tk_i (y := 2) (by decide) ?_
  refine lv_icmp_ge (tgt := 85) hx hb dX15_machine_64 (by decide) (fun c0 => absurd c0 (by decide)) (fun _ => ?_)
  refine lv_aload_n hx hb dX15_machine_67 rfl (lv_at hl 3 rfl) ?_
  refine va_get (D := (dC, dI)) (ci := 15) (v := .ref mc) (C := RX15) (T := TX15) (N := 163) hx hb ht uX15 hown hK hP 3 rfl rfl 135 (by decide) (ht _ k_11_83) (fun _ h9 => h9) K10 dX15_machine_68 ?_
  refine lv_iload_n hx hb dX15_machine_71 rfl (lv_at hl 0 rfl) ?_
  refine lv_aload_n hx hb dX15_machine_72 rfl (lv_at hl 3 rfl) ?_
  refine va_get (D := (dC, dI)) (ci := 15) (v := .ref tr) (C := RX15) (T := TX15) (N := 163) hx hb ht uX15 hown hK hP 3 rfl rfl 132 (by decide) (ht _ k_11_80) (fun _ h9 => h9) K8 dX15_machine_73 ?_
  refine lv_iload_n hx hb dX15_machine_76 rfl (lv_at hl 0 rfl) ?_
  refine va_iald hx hb hK hP 2 0 rfl rfl (by unfold vp_in; decide) dX15_machine_77 ?_
  refine tk_i (y := y24 1) (by first | rfl | decide) ?_
  refine lv_topi (fun x31 ex31 => ?_)
  refine va_iast (i := 1) (x := x31) hx hb hK hP hD hS 0 2 rfl rfl (by unfold vp_in; decide) dX15_machine_78 (fun H locs hP hD hS => ?_)
  obtain ⟨f32, ef32⟩ : ∃ g : Nat → Int32, g = upd f30 (1 : Int32).toNatClampNeg x31 := ⟨_, rfl⟩
  rw [← ef32] at hP hD
  have hP : va_P (dC, dI) cls [(mc, .inl (c3, 10, .inl f32)), (go, .inl (c4, 5, .inl f4)), (tr, .inl (c1, 10, .inl y24)), (q, .inr (15, F3)), (mu, .inl (c2, 5, .inl y28))] H := hP
  have hD : va_D A [(mc, .inl (c3, 10, .inl f32)), (go, .inl (c4, 5, .inl f4)), (tr, .inl (c1, 10, .inl y24)), (q, .inr (15, F3)), (mu, .inl (c2, 5, .inl y28))] := hD
  refine lv_iinc (v := 2) (lv' := [(3, .int 2), (2, .int 1), (1, .int 1), (0, .ref q)]) hx hb dX15_machine_79 hl (k := 0) rfl (by decide) (by decide) rfl (fun ls hl => ?_)
  refine lv_goto (tgt := 60) hx hb dX15_machine_82 (by decide) ?_
  refine lv_iload_n hx hb dX15_machine_60 rfl (lv_at hl 0 rfl) ?_
  refine lv_iconst (v := 2) hx hb dX15_machine_61 (by decide) ?_
  refine lv_iload_n hx hb dX15_machine_62 rfl (lv_at hl 2 rfl) ?_
  refine lv_imul hx hb dX15_machine_63 ?_
  refine tk_i (y := 2) (by decide) ?_
  refine lv_icmp_ge (tgt := 85) hx hb dX15_machine_64 (by decide) (fun _ => ?_) (fun c0 => absurd c0 (by decide))
  refine lv_iconst (v := 0) hx hb dX15_machine_85 (by decide) ?_
  refine lv_istore_n (lv' := [(3, .int 0), (2, .int 1), (1, .int 1), (0, .ref q)]) hx hb dX15_machine_86 rfl hl (by decide) rfl (fun ls hl => ?_)
  refine lv_iload_n hx hb dX15_machine_87 rfl (lv_at hl 0 rfl) ?_
  refine lv_iload_n hx hb dX15_machine_88 rfl (lv_at hl 2 rfl) ?_
  refine lv_icmp_ge (tgt := 119) hx hb dX15_machine_89 (by decide) (fun c0 => absurd c0 (by decide)) (fun _ => ?_)
  refine lv_aload_n hx hb dX15_machine_92 rfl (lv_at hl 3 rfl) ?_
  refine va_get (D := (dC, dI)) (ci := 15) (v := .ref go) (C := RX15) (T := TX15) (N := 163) hx hb ht uX15 hown hK hP 3 rfl rfl 136 (by decide) (ht _ k_11_84) (fun _ h9 => h9) K11 dX15_machine_93 ?_
  refine lv_iload_n hx hb dX15_machine_96 rfl (lv_at hl 0 rfl) ?_
  refine lv_aload_n hx hb dX15_machine_97 rfl (lv_at hl 3 rfl) ?_
  refine va_get (D := (dC, dI)) (ci := 15) (v := .ref mu) (C := RX15) (T := TX15) (N := 163) hx hb ht uX15 hown hK hP 3 rfl rfl 133 (by decide) (ht _ k_11_81) (fun _ h9 => h9) K9 dX15_machine_98 ?_
  refine lv_iload_n hx hb dX15_machine_101 rfl (lv_at hl 0 rfl) ?_
  refine va_iald hx hb hK hP 4 1 rfl rfl (by unfold vp_in; decide) dX15_machine_102 ?_
  refine tk_i (y := y28 0) (by first | rfl | decide) ?_
  refine lv_topi (fun x33 ex33 => ?_)
  refine lv_iconst (v := 1) hx hb dX15_machine_103 (by decide) ?_
  refine lv_icmp_ne (tgt := 111) hx hb dX15_machine_104 (by decide) (fun b34 => ?_) (fun b34 => ?_)
  · refine lv_iconst (v := 0) hx hb dX15_machine_111 (by decide) ?_
    refine va_zast (i := 0) (x := 0) hx hb hK hP hD hS 1 3 rfl rfl (by unfold vp_in; decide) dX15_machine_112 (fun H locs hP hD hS => ?_)
    obtain ⟨f35, ef35⟩ : ∃ g : Nat → Int32, g = upd f4 (0 : Int32).toNatClampNeg (vp_nar .boolean 0) := ⟨_, rfl⟩
    rw [← ef35] at hP hD
    have hP : va_P (dC, dI) cls [(mc, .inl (c3, 10, .inl f32)), (go, .inl (c4, 5, .inl f35)), (tr, .inl (c1, 10, .inl y24)), (q, .inr (15, F3)), (mu, .inl (c2, 5, .inl y28))] H := hP
    have hD : va_D A [(mc, .inl (c3, 10, .inl f32)), (go, .inl (c4, 5, .inl f35)), (tr, .inl (c1, 10, .inl y24)), (q, .inr (15, F3)), (mu, .inl (c2, 5, .inl y28))] := hD
    refine lv_iinc (v := 1) (lv' := [(3, .int 1), (2, .int 1), (1, .int 1), (0, .ref q)]) hx hb dX15_machine_113 hl (k := 0) rfl (by decide) (by decide) rfl (fun ls hl => ?_)
    refine lv_goto (tgt := 87) hx hb dX15_machine_116 (by decide) ?_
    refine lv_iload_n hx hb dX15_machine_87 rfl (lv_at hl 0 rfl) ?_
    refine lv_iload_n hx hb dX15_machine_88 rfl (lv_at hl 2 rfl) ?_
    refine lv_icmp_ge (tgt := 119) hx hb dX15_machine_89 (by decide) (fun _ => ?_) (fun c0 => absurd c0 (by decide))
    refine lv_aload_n hx hb dX15_machine_119 rfl (lv_at hl 3 rfl) ?_
    refine lv_iload_n hx hb dX15_machine_120 rfl (lv_at hl 2 rfl) ?_
    refine va_put (D := (dC, dI)) (ci := 15) (v := .int 1) (ty := .int) (C := RX15) (T := TX15) (N := 163) hx hb ht uX15 tyX15 tkX15 nmX15 hown hK hP hD hS 3 rfl rfl 134 (by decide) (ht _ k_11_82) (fun _ h9 => h9) rfl (by decide +kernel) rfl rfl (by rw [K4]; decide) dX15_machine_121 (fun H locs hP hD hS => ?_)
    obtain ⟨F36, eF36⟩ : ∃ g : List Value, g = F3.set 134 (.int 1) := ⟨_, rfl⟩
    rw [← eF36] at hP hD
    have K51_F36 : F36[51]? = some (.int 0) := by rw [eF36, List.getElem?_set_ne (by decide)]; exact K5
    have K54_F36 : F36[54]? = some (.int 0) := by rw [eF36, List.getElem?_set_ne (by decide)]; exact K6
    have K128_F36 : F36[128]? = some (.int 0) := by rw [eF36, List.getElem?_set_ne (by decide)]; exact K7
    have K132_F36 : F36[132]? = some (.ref tr) := by rw [eF36, List.getElem?_set_ne (by decide)]; exact K8
    have K133_F36 : F36[133]? = some (.ref mu) := by rw [eF36, List.getElem?_set_ne (by decide)]; exact K9
    have K135_F36 : F36[135]? = some (.ref mc) := by rw [eF36, List.getElem?_set_ne (by decide)]; exact K10
    have K136_F36 : F36[136]? = some (.ref go) := by rw [eF36, List.getElem?_set_ne (by decide)]; exact K11
    have K134_F36 : F36[134]? = some (.int 1) := by rw [eF36]; exact List.getElem?_set_self (by rw [K4]; decide)
    have L_F36 : F36.length = 163 := by rw [eF36, List.length_set]; exact K4
    have hP : va_P (dC, dI) cls [(mc, .inl (c3, 10, .inl f32)), (go, .inl (c4, 5, .inl f35)), (tr, .inl (c1, 10, .inl y24)), (q, .inr (15, F36)), (mu, .inl (c2, 5, .inl y28))] H := hP
    have hD : va_D A [(mc, .inl (c3, 10, .inl f32)), (go, .inl (c4, 5, .inl f35)), (tr, .inl (c1, 10, .inl y24)), (q, .inr (15, F36)), (mu, .inl (c2, 5, .inl y28))] := hD
    refine lv_iload_n hx hb dX15_machine_124 rfl (lv_at hl 2 rfl) ?_
    exact W.iret (v := 1) hx hb hr (fun t ht9 hW => ⟨⟨1, (), rfl, rfl, by rw [ht9]; exact hP.sub [] rfl, va_K.moved hW.alike (hK.sub [] rfl), hD.sub [] (by decide) rfl⟩, hS.F ht9⟩) hS.2.2 dX15_machine_125
  · refine lv_iconst (v := 1) hx hb dX15_machine_107 (by decide) ?_
    refine lv_goto (tgt := 112) hx hb dX15_machine_108 (by decide) ?_
    refine va_zast (i := 0) (x := 1) hx hb hK hP hD hS 1 3 rfl rfl (by unfold vp_in; decide) dX15_machine_112 (fun H locs hP hD hS => ?_)
    obtain ⟨f37, ef37⟩ : ∃ g : Nat → Int32, g = upd f4 (0 : Int32).toNatClampNeg (vp_nar .boolean 1) := ⟨_, rfl⟩
    rw [← ef37] at hP hD
    have hP : va_P (dC, dI) cls [(mc, .inl (c3, 10, .inl f32)), (go, .inl (c4, 5, .inl f37)), (tr, .inl (c1, 10, .inl y24)), (q, .inr (15, F3)), (mu, .inl (c2, 5, .inl y28))] H := hP
    have hD : va_D A [(mc, .inl (c3, 10, .inl f32)), (go, .inl (c4, 5, .inl f37)), (tr, .inl (c1, 10, .inl y24)), (q, .inr (15, F3)), (mu, .inl (c2, 5, .inl y28))] := hD
    refine lv_iinc (v := 1) (lv' := [(3, .int 1), (2, .int 1), (1, .int 1), (0, .ref q)]) hx hb dX15_machine_113 hl (k := 0) rfl (by decide) (by decide) rfl (fun ls hl => ?_)
    refine lv_goto (tgt := 87) hx hb dX15_machine_116 (by decide) ?_
    refine lv_iload_n hx hb dX15_machine_87 rfl (lv_at hl 0 rfl) ?_
    refine lv_iload_n hx hb dX15_machine_88 rfl (lv_at hl 2 rfl) ?_
    refine lv_icmp_ge (tgt := 119) hx hb dX15_machine_89 (by decide) (fun _ => ?_) (fun c0 => absurd c0 (by decide))
    refine lv_aload_n hx hb dX15_machine_119 rfl (lv_at hl 3 rfl) ?_
    refine lv_iload_n hx hb dX15_machine_120 rfl (lv_at hl 2 rfl) ?_
    refine va_put (D := (dC, dI)) (ci := 15) (v := .int 1) (ty := .int) (C := RX15) (T := TX15) (N := 163) hx hb ht uX15 tyX15 tkX15 nmX15 hown hK hP hD hS 3 rfl rfl 134 (by decide) (ht _ k_11_82) (fun _ h9 => h9) rfl (by decide +kernel) rfl rfl (by rw [K4]; decide) dX15_machine_121 (fun H locs hP hD hS => ?_)
    obtain ⟨F38, eF38⟩ : ∃ g : List Value, g = F3.set 134 (.int 1) := ⟨_, rfl⟩
    rw [← eF38] at hP hD
    have K51_F38 : F38[51]? = some (.int 0) := by rw [eF38, List.getElem?_set_ne (by decide)]; exact K5
    have K54_F38 : F38[54]? = some (.int 0) := by rw [eF38, List.getElem?_set_ne (by decide)]; exact K6
    have K128_F38 : F38[128]? = some (.int 0) := by rw [eF38, List.getElem?_set_ne (by decide)]; exact K7
    have K132_F38 : F38[132]? = some (.ref tr) := by rw [eF38, List.getElem?_set_ne (by decide)]; exact K8
    have K133_F38 : F38[133]? = some (.ref mu) := by rw [eF38, List.getElem?_set_ne (by decide)]; exact K9
    have K135_F38 : F38[135]? = some (.ref mc) := by rw [eF38, List.getElem?_set_ne (by decide)]; exact K10
    have K136_F38 : F38[136]? = some (.ref go) := by rw [eF38, List.getElem?_set_ne (by decide)]; exact K11
    have K134_F38 : F38[134]? = some (.int 1) := by rw [eF38]; exact List.getElem?_set_self (by rw [K4]; decide)
    have L_F38 : F38.length = 163 := by rw [eF38, List.length_set]; exact K4
    have hP : va_P (dC, dI) cls [(mc, .inl (c3, 10, .inl f32)), (go, .inl (c4, 5, .inl f37)), (tr, .inl (c1, 10, .inl y24)), (q, .inr (15, F38)), (mu, .inl (c2, 5, .inl y28))] H := hP
    have hD : va_D A [(mc, .inl (c3, 10, .inl f32)), (go, .inl (c4, 5, .inl f37)), (tr, .inl (c1, 10, .inl y24)), (q, .inr (15, F38)), (mu, .inl (c2, 5, .inl y28))] := hD
    refine lv_iload_n hx hb dX15_machine_124 rfl (lv_at hl 2 rfl) ?_
    exact W.iret (v := 1) hx hb hr (fun t ht9 hW => ⟨⟨1, (), rfl, rfl, by rw [ht9]; exact hP.sub [] rfl, va_K.moved hW.alike (hK.sub [] rfl), hD.sub [] (by decide) rfl⟩, hS.F ht9⟩) hS.2.2 dX15_machine_125
set_option maxHeartbeats 4000000 in
set_option maxRecDepth 100000 in
theorem r_feed1_0 (l : Launch) (dC : Nat → ClassId) (dI : Nat → Nat → Nat) (sz : Nat) (q : Nat) (fs : List Value) (tq : Nat) (cT : ClassId) (ft : Nat → Int32) (p0 : Int32) (L_fs : fs.length = 163) (K51_fs : fs[51]? = some (.int 0)) (K52_fs : fs[52]? = some (.ref tq)) (K53_fs : fs[53]? = some (.int 0)) : Met l yX15_feed (Cond.code yX15_feed cX15_feed 3 none :: tb) ({ frames := 0, cells := 0, slots := 0, locals := 0 }) (pcw [.ref q, .int p0] (dC, dI) [(q, .inr (15, fs)), (tq, .inl (cT, 2000, .inl ft))] [(cT, .int)] sz) (va_Qv (fun (u : (List Value) × (Nat → Int32)) => match u with | (fs1, ft1) => (True) ∧ (fs1.length = 163) ∧ (fs1[51]? = some (.int 0)) ∧ (fs1[52]? = some (.ref tq)) ∧ (fs1[53]? = some (.int 4))) (bw (dC, dI) (va_A [(q, .inr (15, fs)), (tq, .inl (cT, 2000, .inl ft))] sz) (fun (u : (List Value) × (Nat → Int32)) => match u with | (fs1, ft1) => [(q, .inr (15, fs1)), (tq, .inl (cT, 2000, .inl ft1))]) (fun (u : (List Value) × (Nat → Int32)) => match u with | (fs1, ft1) => [(cT, .int)])) (va_A [(q, .inr (15, fs)), (tq, .inl (cT, 2000, .inl ft))] sz)) 0 0 (va_A [(q, .inr (15, fs)), (tq, .inl (cT, 2000, .inl ft))] sz) := by
  refine Met.ofW (cc := cX15_feed) (maxL := 3) (ret := none) (by decide) rfl ?_
  intro p e s m args below meth c s₁ B hml hv
  obtain ⟨rfl, hsz, hP, hK, hD0⟩ := hv
  have hx := B.exec
  have hb := B.bytes
  have hr := B.returns
  have hts := atoms_spec (ws := Cond.code yX15_feed cX15_feed 3 none :: tb) B.pre
  have ht : ∀ w ∈ tb, w.before _ s = true := fun w h => hts w (List.mem_cons_of_mem _ h)
  have hown : s.vm.findClass RX15 = some m.cls := findClass_of_methodNamed B.named
  have hlocks := B.notSynchronized
  subst hsz
  have hD := hD0.self (sz := s.heap.size)
  generalize hAe : va_A [(q, .inr (15, fs)), (tq, .inl (cT, 2000, .inl ft))] s.heap.size = A at hD ⊢
  have hA : ∀ q : Nat, s.heap.size ≤ q → A q := fun q h => by rw [← hAe]; exact Or.inr h
  have hS : va_S A s.heap s.heap [] := va_S.rf
  have hl := lv_entry ([.ref q, .int p0]) (n := 3) (Nat.le_of_ble_eq_true rfl)
  rw [lg_entry_eq]
  generalize (lg_sl ([.ref q, .int p0]) ++ List.replicate (3 - (lg_sl ([.ref q, .int p0])).length) Slot.unset).toArray = ls at hl ⊢
  have hl : lv_has ls 3 [(0, .ref q), (1, .int p0)] := hl
  have hP : va_P (dC, dI) cls [(q, .inr (15, fs)), (tq, .inl (cT, 2000, .inl ft))] s.heap := hP
  refine lv_bipush (v := 24) hx hb dX15_feed_0 (by decide) ?_
  refine lv_istore_n (lv' := [(2, .int 24), (0, .ref q), (1, .int p0)]) hx hb dX15_feed_2 rfl hl (by decide) rfl (fun ls hl => ?_)
  refine lv_iload_n hx hb dX15_feed_3 rfl (lv_at hl 0 rfl) ?_
  refine lv_if_lt (tgt := 39) hx hb dX15_feed_4 (by decide) (fun c0 => absurd c0 (by decide)) (fun _ => ?_)
  refine lv_aload_n hx hb dX15_feed_7 rfl (lv_at hl 1 rfl) ?_
  refine va_get (D := (dC, dI)) (ci := 15) (v := .ref tq) (C := RX15) (T := TX15) (N := 163) hx hb ht uX15 hown hK hP 0 rfl rfl 52 (by decide) (ht _ k_11_0) (fun _ h9 => h9) K52_fs dX15_feed_8 ?_
  refine lv_aload_n hx hb dX15_feed_11 rfl (lv_at hl 1 rfl) ?_
  refine va_get (D := (dC, dI)) (ci := 15) (v := .int 0) (C := RX15) (T := TX15) (N := 163) hx hb ht uX15 hown hK hP 0 rfl rfl 53 (by decide) (ht _ k_11_1) (fun _ h9 => h9) K53_fs dX15_feed_12 ?_
  refine lv_iload_n hx hb dX15_feed_15 rfl (lv_at hl 2 rfl) ?_
  refine lv_iload_n hx hb dX15_feed_16 rfl (lv_at hl 0 rfl) ?_
  refine lv_ishr hx hb dX15_feed_17 ?_
  refine lv_topi (fun x1 ex1 => ?_)
  refine lv_sipush (v := 255) hx hb dX15_feed_18 (by decide) ?_
  refine lv_iand hx hb dX15_feed_21 ?_
  refine lv_topi (fun x2 ex2 => ?_)
  refine va_iast (i := 0) (x := x2) hx hb hK hP hD hS 1 0 rfl rfl (by unfold vp_in; decide) dX15_feed_22 (fun H locs hP hD hS => ?_)
  obtain ⟨f3, ef3⟩ : ∃ g : Nat → Int32, g = upd ft (0 : Int32).toNatClampNeg x2 := ⟨_, rfl⟩
  rw [← ef3] at hP hD
  have hP : va_P (dC, dI) cls [(q, .inr (15, fs)), (tq, .inl (cT, 2000, .inl f3))] H := hP
  have hD : va_D A [(q, .inr (15, fs)), (tq, .inl (cT, 2000, .inl f3))] := hD
  refine lv_aload_n hx hb dX15_feed_23 rfl (lv_at hl 1 rfl) ?_
  refine lv_dup hx hb dX15_feed_24 rfl ?_
  refine va_get (D := (dC, dI)) (ci := 15) (v := .int 0) (C := RX15) (T := TX15) (N := 163) hx hb ht uX15 hown hK hP 0 rfl rfl 53 (by decide) (ht _ k_11_1) (fun _ h9 => h9) K53_fs dX15_feed_25 ?_
  refine lv_iconst (v := 1) hx hb dX15_feed_28 (by decide) ?_
  refine lv_iadd hx hb dX15_feed_29 ?_
  refine tk_i (y := 1) (by decide) ?_
  refine va_put (D := (dC, dI)) (ci := 15) (v := .int 1) (ty := .int) (C := RX15) (T := TX15) (N := 163) hx hb ht uX15 tyX15 tkX15 nmX15 hown hK hP hD hS 0 rfl rfl 53 (by decide) (ht _ k_11_1) (fun _ h9 => h9) rfl (by decide +kernel) rfl rfl (by rw [L_fs]; decide) dX15_feed_30 (fun H locs hP hD hS => ?_)
  obtain ⟨F4, eF4⟩ : ∃ g : List Value, g = fs.set 53 (.int 1) := ⟨_, rfl⟩
  rw [← eF4] at hP hD
  have K51_F4 : F4[51]? = some (.int 0) := by rw [eF4, List.getElem?_set_ne (by decide)]; exact K51_fs
  have K52_F4 : F4[52]? = some (.ref tq) := by rw [eF4, List.getElem?_set_ne (by decide)]; exact K52_fs
  have K53_F4 : F4[53]? = some (.int 1) := by rw [eF4]; exact List.getElem?_set_self (by rw [L_fs]; decide)
  have L_F4 : F4.length = 163 := by rw [eF4, List.length_set]; exact L_fs
  have hP : va_P (dC, dI) cls [(q, .inr (15, F4)), (tq, .inl (cT, 2000, .inl f3))] H := hP
  have hD : va_D A [(q, .inr (15, F4)), (tq, .inl (cT, 2000, .inl f3))] := hD
  refine lv_iinc (v := 16) (lv' := [(2, .int 16), (0, .ref q), (1, .int p0)]) hx hb dX15_feed_33 hl (k := 0) rfl (by decide) (by decide) rfl (fun ls hl => ?_)
  refine lv_goto (tgt := 3) hx hb dX15_feed_36 (by decide) ?_
  refine lv_iload_n hx hb dX15_feed_3 rfl (lv_at hl 0 rfl) ?_
  refine lv_if_lt (tgt := 39) hx hb dX15_feed_4 (by decide) (fun c0 => absurd c0 (by decide)) (fun _ => ?_)
  refine lv_aload_n hx hb dX15_feed_7 rfl (lv_at hl 1 rfl) ?_
  refine va_get (D := (dC, dI)) (ci := 15) (v := .ref tq) (C := RX15) (T := TX15) (N := 163) hx hb ht uX15 hown hK hP 0 rfl rfl 52 (by decide) (ht _ k_11_0) (fun _ h9 => h9) K52_F4 dX15_feed_8 ?_
  refine lv_aload_n hx hb dX15_feed_11 rfl (lv_at hl 1 rfl) ?_
  refine va_get (D := (dC, dI)) (ci := 15) (v := .int 1) (C := RX15) (T := TX15) (N := 163) hx hb ht uX15 hown hK hP 0 rfl rfl 53 (by decide) (ht _ k_11_1) (fun _ h9 => h9) K53_F4 dX15_feed_12 ?_
  refine lv_iload_n hx hb dX15_feed_15 rfl (lv_at hl 2 rfl) ?_
  refine lv_iload_n hx hb dX15_feed_16 rfl (lv_at hl 0 rfl) ?_
  refine lv_ishr hx hb dX15_feed_17 ?_
  refine lv_topi (fun x5 ex5 => ?_)
  refine lv_sipush (v := 255) hx hb dX15_feed_18 (by decide) ?_
  refine lv_iand hx hb dX15_feed_21 ?_
  refine lv_topi (fun x6 ex6 => ?_)
  refine va_iast (i := 1) (x := x6) hx hb hK hP hD hS 1 0 rfl rfl (by unfold vp_in; decide) dX15_feed_22 (fun H locs hP hD hS => ?_)
  obtain ⟨f7, ef7⟩ : ∃ g : Nat → Int32, g = upd f3 (1 : Int32).toNatClampNeg x6 := ⟨_, rfl⟩
  rw [← ef7] at hP hD
  have hP : va_P (dC, dI) cls [(q, .inr (15, F4)), (tq, .inl (cT, 2000, .inl f7))] H := hP
  have hD : va_D A [(q, .inr (15, F4)), (tq, .inl (cT, 2000, .inl f7))] := hD
  refine lv_aload_n hx hb dX15_feed_23 rfl (lv_at hl 1 rfl) ?_
  refine lv_dup hx hb dX15_feed_24 rfl ?_
  refine va_get (D := (dC, dI)) (ci := 15) (v := .int 1) (C := RX15) (T := TX15) (N := 163) hx hb ht uX15 hown hK hP 0 rfl rfl 53 (by decide) (ht _ k_11_1) (fun _ h9 => h9) K53_F4 dX15_feed_25 ?_
  refine lv_iconst (v := 1) hx hb dX15_feed_28 (by decide) ?_
  refine lv_iadd hx hb dX15_feed_29 ?_
  refine tk_i (y := 2) (by decide) ?_
  refine va_put (D := (dC, dI)) (ci := 15) (v := .int 2) (ty := .int) (C := RX15) (T := TX15) (N := 163) hx hb ht uX15 tyX15 tkX15 nmX15 hown hK hP hD hS 0 rfl rfl 53 (by decide) (ht _ k_11_1) (fun _ h9 => h9) rfl (by decide +kernel) rfl rfl (by rw [L_F4]; decide) dX15_feed_30 (fun H locs hP hD hS => ?_)
  obtain ⟨F8, eF8⟩ : ∃ g : List Value, g = F4.set 53 (.int 2) := ⟨_, rfl⟩
  rw [← eF8] at hP hD
  have K51_F8 : F8[51]? = some (.int 0) := by rw [eF8, List.getElem?_set_ne (by decide)]; exact K51_F4
  have K52_F8 : F8[52]? = some (.ref tq) := by rw [eF8, List.getElem?_set_ne (by decide)]; exact K52_F4
  have K53_F8 : F8[53]? = some (.int 2) := by rw [eF8]; exact List.getElem?_set_self (by rw [L_F4]; decide)
  have L_F8 : F8.length = 163 := by rw [eF8, List.length_set]; exact L_F4
  have hP : va_P (dC, dI) cls [(q, .inr (15, F8)), (tq, .inl (cT, 2000, .inl f7))] H := hP
  have hD : va_D A [(q, .inr (15, F8)), (tq, .inl (cT, 2000, .inl f7))] := hD
  refine lv_iinc (v := 8) (lv' := [(2, .int 8), (0, .ref q), (1, .int p0)]) hx hb dX15_feed_33 hl (k := 0) rfl (by decide) (by decide) rfl (fun ls hl => ?_)
  refine lv_goto (tgt := 3) hx hb dX15_feed_36 (by decide) ?_
  refine lv_iload_n hx hb dX15_feed_3 rfl (lv_at hl 0 rfl) ?_
  refine lv_if_lt (tgt := 39) hx hb dX15_feed_4 (by decide) (fun c0 => absurd c0 (by decide)) (fun _ => ?_)
  refine lv_aload_n hx hb dX15_feed_7 rfl (lv_at hl 1 rfl) ?_
  refine va_get (D := (dC, dI)) (ci := 15) (v := .ref tq) (C := RX15) (T := TX15) (N := 163) hx hb ht uX15 hown hK hP 0 rfl rfl 52 (by decide) (ht _ k_11_0) (fun _ h9 => h9) K52_F8 dX15_feed_8 ?_
  refine lv_aload_n hx hb dX15_feed_11 rfl (lv_at hl 1 rfl) ?_
  refine va_get (D := (dC, dI)) (ci := 15) (v := .int 2) (C := RX15) (T := TX15) (N := 163) hx hb ht uX15 hown hK hP 0 rfl rfl 53 (by decide) (ht _ k_11_1) (fun _ h9 => h9) K53_F8 dX15_feed_12 ?_
  refine lv_iload_n hx hb dX15_feed_15 rfl (lv_at hl 2 rfl) ?_
  refine lv_iload_n hx hb dX15_feed_16 rfl (lv_at hl 0 rfl) ?_
  refine lv_ishr hx hb dX15_feed_17 ?_
  refine lv_topi (fun x9 ex9 => ?_)
  refine lv_sipush (v := 255) hx hb dX15_feed_18 (by decide) ?_
  refine lv_iand hx hb dX15_feed_21 ?_
  refine lv_topi (fun x10 ex10 => ?_)
  refine va_iast (i := 2) (x := x10) hx hb hK hP hD hS 1 0 rfl rfl (by unfold vp_in; decide) dX15_feed_22 (fun H locs hP hD hS => ?_)
  obtain ⟨f11, ef11⟩ : ∃ g : Nat → Int32, g = upd f7 (2 : Int32).toNatClampNeg x10 := ⟨_, rfl⟩
  rw [← ef11] at hP hD
  have hP : va_P (dC, dI) cls [(q, .inr (15, F8)), (tq, .inl (cT, 2000, .inl f11))] H := hP
  have hD : va_D A [(q, .inr (15, F8)), (tq, .inl (cT, 2000, .inl f11))] := hD
  refine lv_aload_n hx hb dX15_feed_23 rfl (lv_at hl 1 rfl) ?_
  refine lv_dup hx hb dX15_feed_24 rfl ?_
  refine va_get (D := (dC, dI)) (ci := 15) (v := .int 2) (C := RX15) (T := TX15) (N := 163) hx hb ht uX15 hown hK hP 0 rfl rfl 53 (by decide) (ht _ k_11_1) (fun _ h9 => h9) K53_F8 dX15_feed_25 ?_
  refine lv_iconst (v := 1) hx hb dX15_feed_28 (by decide) ?_
  refine lv_iadd hx hb dX15_feed_29 ?_
  refine tk_i (y := 3) (by decide) ?_
  refine va_put (D := (dC, dI)) (ci := 15) (v := .int 3) (ty := .int) (C := RX15) (T := TX15) (N := 163) hx hb ht uX15 tyX15 tkX15 nmX15 hown hK hP hD hS 0 rfl rfl 53 (by decide) (ht _ k_11_1) (fun _ h9 => h9) rfl (by decide +kernel) rfl rfl (by rw [L_F8]; decide) dX15_feed_30 (fun H locs hP hD hS => ?_)
  obtain ⟨F12, eF12⟩ : ∃ g : List Value, g = F8.set 53 (.int 3) := ⟨_, rfl⟩
  rw [← eF12] at hP hD
  have K51_F12 : F12[51]? = some (.int 0) := by rw [eF12, List.getElem?_set_ne (by decide)]; exact K51_F8
  have K52_F12 : F12[52]? = some (.ref tq) := by rw [eF12, List.getElem?_set_ne (by decide)]; exact K52_F8
  have K53_F12 : F12[53]? = some (.int 3) := by rw [eF12]; exact List.getElem?_set_self (by rw [L_F8]; decide)
  have L_F12 : F12.length = 163 := by rw [eF12, List.length_set]; exact L_F8
  have hP : va_P (dC, dI) cls [(q, .inr (15, F12)), (tq, .inl (cT, 2000, .inl f11))] H := hP
  have hD : va_D A [(q, .inr (15, F12)), (tq, .inl (cT, 2000, .inl f11))] := hD
  refine lv_iinc (v := 0) (lv' := [(2, .int 0), (0, .ref q), (1, .int p0)]) hx hb dX15_feed_33 hl (k := 0) rfl (by decide) (by decide) rfl (fun ls hl => ?_)
  refine lv_goto (tgt := 3) hx hb dX15_feed_36 (by decide) ?_
  refine lv_iload_n hx hb dX15_feed_3 rfl (lv_at hl 0 rfl) ?_
  refine lv_if_lt (tgt := 39) hx hb dX15_feed_4 (by decide) (fun c0 => absurd c0 (by decide)) (fun _ => ?_)
  refine lv_aload_n hx hb dX15_feed_7 rfl (lv_at hl 1 rfl) ?_
  refine va_get (D := (dC, dI)) (ci := 15) (v := .ref tq) (C := RX15) (T := TX15) (N := 163) hx hb ht uX15 hown hK hP 0 rfl rfl 52 (by decide) (ht _ k_11_0) (fun _ h9 => h9) K52_F12 dX15_feed_8 ?_
  refine lv_aload_n hx hb dX15_feed_11 rfl (lv_at hl 1 rfl) ?_
  refine va_get (D := (dC, dI)) (ci := 15) (v := .int 3) (C := RX15) (T := TX15) (N := 163) hx hb ht uX15 hown hK hP 0 rfl rfl 53 (by decide) (ht _ k_11_1) (fun _ h9 => h9) K53_F12 dX15_feed_12 ?_
  refine lv_iload_n hx hb dX15_feed_15 rfl (lv_at hl 2 rfl) ?_
  refine lv_iload_n hx hb dX15_feed_16 rfl (lv_at hl 0 rfl) ?_
  refine lv_ishr hx hb dX15_feed_17 ?_
  refine lv_topi (fun x13 ex13 => ?_)
  refine lv_sipush (v := 255) hx hb dX15_feed_18 (by decide) ?_
  refine lv_iand hx hb dX15_feed_21 ?_
  refine lv_topi (fun x14 ex14 => ?_)
  refine va_iast (i := 3) (x := x14) hx hb hK hP hD hS 1 0 rfl rfl (by unfold vp_in; decide) dX15_feed_22 (fun H locs hP hD hS => ?_)
  obtain ⟨f15, ef15⟩ : ∃ g : Nat → Int32, g = upd f11 (3 : Int32).toNatClampNeg x14 := ⟨_, rfl⟩
  rw [← ef15] at hP hD
  have hP : va_P (dC, dI) cls [(q, .inr (15, F12)), (tq, .inl (cT, 2000, .inl f15))] H := hP
  have hD : va_D A [(q, .inr (15, F12)), (tq, .inl (cT, 2000, .inl f15))] := hD
  refine lv_aload_n hx hb dX15_feed_23 rfl (lv_at hl 1 rfl) ?_
  refine lv_dup hx hb dX15_feed_24 rfl ?_
  refine va_get (D := (dC, dI)) (ci := 15) (v := .int 3) (C := RX15) (T := TX15) (N := 163) hx hb ht uX15 hown hK hP 0 rfl rfl 53 (by decide) (ht _ k_11_1) (fun _ h9 => h9) K53_F12 dX15_feed_25 ?_
  refine lv_iconst (v := 1) hx hb dX15_feed_28 (by decide) ?_
  refine lv_iadd hx hb dX15_feed_29 ?_
  refine tk_i (y := 4) (by decide) ?_
  refine va_put (D := (dC, dI)) (ci := 15) (v := .int 4) (ty := .int) (C := RX15) (T := TX15) (N := 163) hx hb ht uX15 tyX15 tkX15 nmX15 hown hK hP hD hS 0 rfl rfl 53 (by decide) (ht _ k_11_1) (fun _ h9 => h9) rfl (by decide +kernel) rfl rfl (by rw [L_F12]; decide) dX15_feed_30 (fun H locs hP hD hS => ?_)
  obtain ⟨F16, eF16⟩ : ∃ g : List Value, g = F12.set 53 (.int 4) := ⟨_, rfl⟩
  rw [← eF16] at hP hD
  have K51_F16 : F16[51]? = some (.int 0) := by rw [eF16, List.getElem?_set_ne (by decide)]; exact K51_F12
  have K52_F16 : F16[52]? = some (.ref tq) := by rw [eF16, List.getElem?_set_ne (by decide)]; exact K52_F12
  have K53_F16 : F16[53]? = some (.int 4) := by rw [eF16]; exact List.getElem?_set_self (by rw [L_F12]; decide)
  have L_F16 : F16.length = 163 := by rw [eF16, List.length_set]; exact L_F12
  have hP : va_P (dC, dI) cls [(q, .inr (15, F16)), (tq, .inl (cT, 2000, .inl f15))] H := hP
  have hD : va_D A [(q, .inr (15, F16)), (tq, .inl (cT, 2000, .inl f15))] := hD
  refine lv_iinc (v := (-8)) (lv' := [(2, .int (-8)), (0, .ref q), (1, .int p0)]) hx hb dX15_feed_33 hl (k := 0) rfl (by decide) (by decide) rfl (fun ls hl => ?_)
  refine lv_goto (tgt := 3) hx hb dX15_feed_36 (by decide) ?_
  refine lv_iload_n hx hb dX15_feed_3 rfl (lv_at hl 0 rfl) ?_
  refine lv_if_lt (tgt := 39) hx hb dX15_feed_4 (by decide) (fun _ => ?_) (fun c0 => absurd c0 (by decide))
  exact W.vret hx hb hr (fun t ht9 hW => ⟨⟨(F16, f15), rfl, ⟨trivial, L_F16, K51_F16, K52_F16, K53_F16⟩, by rw [ht9]; exact hP.sub [0, 1] rfl, va_K.moved hW.alike (hK.sub [0] rfl), hD.sub [0, 1] (by decide) rfl⟩, hS.F ht9⟩) hS.2.2 dX15_feed_39
set_option maxHeartbeats 4000000 in
set_option maxRecDepth 100000 in
theorem r_feed1_4 (l : Launch) (dC : Nat → ClassId) (dI : Nat → Nat → Nat) (sz : Nat) (q : Nat) (fs : List Value) (tq : Nat) (cT : ClassId) (ft : Nat → Int32) (p0 : Int32) (L_fs : fs.length = 163) (K51_fs : fs[51]? = some (.int 0)) (K52_fs : fs[52]? = some (.ref tq)) (K53_fs : fs[53]? = some (.int 4)) : Met l yX15_feed (Cond.code yX15_feed cX15_feed 3 none :: tb) ({ frames := 0, cells := 0, slots := 0, locals := 0 }) (pcw [.ref q, .int p0] (dC, dI) [(q, .inr (15, fs)), (tq, .inl (cT, 2000, .inl ft))] [(cT, .int)] sz) (va_Qv (fun (u : (List Value) × (Nat → Int32)) => match u with | (fs1, ft1) => (True) ∧ (fs1.length = 163) ∧ (fs1[51]? = some (.int 0)) ∧ (fs1[52]? = some (.ref tq)) ∧ (fs1[53]? = some (.int 8))) (bw (dC, dI) (va_A [(q, .inr (15, fs)), (tq, .inl (cT, 2000, .inl ft))] sz) (fun (u : (List Value) × (Nat → Int32)) => match u with | (fs1, ft1) => [(q, .inr (15, fs1)), (tq, .inl (cT, 2000, .inl ft1))]) (fun (u : (List Value) × (Nat → Int32)) => match u with | (fs1, ft1) => [(cT, .int)])) (va_A [(q, .inr (15, fs)), (tq, .inl (cT, 2000, .inl ft))] sz)) 0 0 (va_A [(q, .inr (15, fs)), (tq, .inl (cT, 2000, .inl ft))] sz) := by
  refine Met.ofW (cc := cX15_feed) (maxL := 3) (ret := none) (by decide) rfl ?_
  intro p e s m args below meth c s₁ B hml hv
  obtain ⟨rfl, hsz, hP, hK, hD0⟩ := hv
  have hx := B.exec
  have hb := B.bytes
  have hr := B.returns
  have hts := atoms_spec (ws := Cond.code yX15_feed cX15_feed 3 none :: tb) B.pre
  have ht : ∀ w ∈ tb, w.before _ s = true := fun w h => hts w (List.mem_cons_of_mem _ h)
  have hown : s.vm.findClass RX15 = some m.cls := findClass_of_methodNamed B.named
  have hlocks := B.notSynchronized
  subst hsz
  have hD := hD0.self (sz := s.heap.size)
  generalize hAe : va_A [(q, .inr (15, fs)), (tq, .inl (cT, 2000, .inl ft))] s.heap.size = A at hD ⊢
  have hA : ∀ q : Nat, s.heap.size ≤ q → A q := fun q h => by rw [← hAe]; exact Or.inr h
  have hS : va_S A s.heap s.heap [] := va_S.rf
  have hl := lv_entry ([.ref q, .int p0]) (n := 3) (Nat.le_of_ble_eq_true rfl)
  rw [lg_entry_eq]
  generalize (lg_sl ([.ref q, .int p0]) ++ List.replicate (3 - (lg_sl ([.ref q, .int p0])).length) Slot.unset).toArray = ls at hl ⊢
  have hl : lv_has ls 3 [(0, .ref q), (1, .int p0)] := hl
  have hP : va_P (dC, dI) cls [(q, .inr (15, fs)), (tq, .inl (cT, 2000, .inl ft))] s.heap := hP
  refine lv_bipush (v := 24) hx hb dX15_feed_0 (by decide) ?_
  refine lv_istore_n (lv' := [(2, .int 24), (0, .ref q), (1, .int p0)]) hx hb dX15_feed_2 rfl hl (by decide) rfl (fun ls hl => ?_)
  refine lv_iload_n hx hb dX15_feed_3 rfl (lv_at hl 0 rfl) ?_
  refine lv_if_lt (tgt := 39) hx hb dX15_feed_4 (by decide) (fun c0 => absurd c0 (by decide)) (fun _ => ?_)
  refine lv_aload_n hx hb dX15_feed_7 rfl (lv_at hl 1 rfl) ?_
  refine va_get (D := (dC, dI)) (ci := 15) (v := .ref tq) (C := RX15) (T := TX15) (N := 163) hx hb ht uX15 hown hK hP 0 rfl rfl 52 (by decide) (ht _ k_11_0) (fun _ h9 => h9) K52_fs dX15_feed_8 ?_
  refine lv_aload_n hx hb dX15_feed_11 rfl (lv_at hl 1 rfl) ?_
  refine va_get (D := (dC, dI)) (ci := 15) (v := .int 4) (C := RX15) (T := TX15) (N := 163) hx hb ht uX15 hown hK hP 0 rfl rfl 53 (by decide) (ht _ k_11_1) (fun _ h9 => h9) K53_fs dX15_feed_12 ?_
  refine lv_iload_n hx hb dX15_feed_15 rfl (lv_at hl 2 rfl) ?_
  refine lv_iload_n hx hb dX15_feed_16 rfl (lv_at hl 0 rfl) ?_
  refine lv_ishr hx hb dX15_feed_17 ?_
  refine lv_topi (fun x1 ex1 => ?_)
  refine lv_sipush (v := 255) hx hb dX15_feed_18 (by decide) ?_
  refine lv_iand hx hb dX15_feed_21 ?_
  refine lv_topi (fun x2 ex2 => ?_)
  refine va_iast (i := 4) (x := x2) hx hb hK hP hD hS 1 0 rfl rfl (by unfold vp_in; decide) dX15_feed_22 (fun H locs hP hD hS => ?_)
  obtain ⟨f3, ef3⟩ : ∃ g : Nat → Int32, g = upd ft (4 : Int32).toNatClampNeg x2 := ⟨_, rfl⟩
  rw [← ef3] at hP hD
  have hP : va_P (dC, dI) cls [(q, .inr (15, fs)), (tq, .inl (cT, 2000, .inl f3))] H := hP
  have hD : va_D A [(q, .inr (15, fs)), (tq, .inl (cT, 2000, .inl f3))] := hD
  refine lv_aload_n hx hb dX15_feed_23 rfl (lv_at hl 1 rfl) ?_
  refine lv_dup hx hb dX15_feed_24 rfl ?_
  refine va_get (D := (dC, dI)) (ci := 15) (v := .int 4) (C := RX15) (T := TX15) (N := 163) hx hb ht uX15 hown hK hP 0 rfl rfl 53 (by decide) (ht _ k_11_1) (fun _ h9 => h9) K53_fs dX15_feed_25 ?_
  refine lv_iconst (v := 1) hx hb dX15_feed_28 (by decide) ?_
  refine lv_iadd hx hb dX15_feed_29 ?_
  refine tk_i (y := 5) (by decide) ?_
  refine va_put (D := (dC, dI)) (ci := 15) (v := .int 5) (ty := .int) (C := RX15) (T := TX15) (N := 163) hx hb ht uX15 tyX15 tkX15 nmX15 hown hK hP hD hS 0 rfl rfl 53 (by decide) (ht _ k_11_1) (fun _ h9 => h9) rfl (by decide +kernel) rfl rfl (by rw [L_fs]; decide) dX15_feed_30 (fun H locs hP hD hS => ?_)
  obtain ⟨F4, eF4⟩ : ∃ g : List Value, g = fs.set 53 (.int 5) := ⟨_, rfl⟩
  rw [← eF4] at hP hD
  have K51_F4 : F4[51]? = some (.int 0) := by rw [eF4, List.getElem?_set_ne (by decide)]; exact K51_fs
  have K52_F4 : F4[52]? = some (.ref tq) := by rw [eF4, List.getElem?_set_ne (by decide)]; exact K52_fs
  have K53_F4 : F4[53]? = some (.int 5) := by rw [eF4]; exact List.getElem?_set_self (by rw [L_fs]; decide)
  have L_F4 : F4.length = 163 := by rw [eF4, List.length_set]; exact L_fs
  have hP : va_P (dC, dI) cls [(q, .inr (15, F4)), (tq, .inl (cT, 2000, .inl f3))] H := hP
  have hD : va_D A [(q, .inr (15, F4)), (tq, .inl (cT, 2000, .inl f3))] := hD
  refine lv_iinc (v := 16) (lv' := [(2, .int 16), (0, .ref q), (1, .int p0)]) hx hb dX15_feed_33 hl (k := 0) rfl (by decide) (by decide) rfl (fun ls hl => ?_)
  refine lv_goto (tgt := 3) hx hb dX15_feed_36 (by decide) ?_
  refine lv_iload_n hx hb dX15_feed_3 rfl (lv_at hl 0 rfl) ?_
  refine lv_if_lt (tgt := 39) hx hb dX15_feed_4 (by decide) (fun c0 => absurd c0 (by decide)) (fun _ => ?_)
  refine lv_aload_n hx hb dX15_feed_7 rfl (lv_at hl 1 rfl) ?_
  refine va_get (D := (dC, dI)) (ci := 15) (v := .ref tq) (C := RX15) (T := TX15) (N := 163) hx hb ht uX15 hown hK hP 0 rfl rfl 52 (by decide) (ht _ k_11_0) (fun _ h9 => h9) K52_F4 dX15_feed_8 ?_
  refine lv_aload_n hx hb dX15_feed_11 rfl (lv_at hl 1 rfl) ?_
  refine va_get (D := (dC, dI)) (ci := 15) (v := .int 5) (C := RX15) (T := TX15) (N := 163) hx hb ht uX15 hown hK hP 0 rfl rfl 53 (by decide) (ht _ k_11_1) (fun _ h9 => h9) K53_F4 dX15_feed_12 ?_
  refine lv_iload_n hx hb dX15_feed_15 rfl (lv_at hl 2 rfl) ?_
  refine lv_iload_n hx hb dX15_feed_16 rfl (lv_at hl 0 rfl) ?_
  refine lv_ishr hx hb dX15_feed_17 ?_
  refine lv_topi (fun x5 ex5 => ?_)
  refine lv_sipush (v := 255) hx hb dX15_feed_18 (by decide) ?_
  refine lv_iand hx hb dX15_feed_21 ?_
  refine lv_topi (fun x6 ex6 => ?_)
  refine va_iast (i := 5) (x := x6) hx hb hK hP hD hS 1 0 rfl rfl (by unfold vp_in; decide) dX15_feed_22 (fun H locs hP hD hS => ?_)
  obtain ⟨f7, ef7⟩ : ∃ g : Nat → Int32, g = upd f3 (5 : Int32).toNatClampNeg x6 := ⟨_, rfl⟩
  rw [← ef7] at hP hD
  have hP : va_P (dC, dI) cls [(q, .inr (15, F4)), (tq, .inl (cT, 2000, .inl f7))] H := hP
  have hD : va_D A [(q, .inr (15, F4)), (tq, .inl (cT, 2000, .inl f7))] := hD
  refine lv_aload_n hx hb dX15_feed_23 rfl (lv_at hl 1 rfl) ?_
  refine lv_dup hx hb dX15_feed_24 rfl ?_
  refine va_get (D := (dC, dI)) (ci := 15) (v := .int 5) (C := RX15) (T := TX15) (N := 163) hx hb ht uX15 hown hK hP 0 rfl rfl 53 (by decide) (ht _ k_11_1) (fun _ h9 => h9) K53_F4 dX15_feed_25 ?_
  refine lv_iconst (v := 1) hx hb dX15_feed_28 (by decide) ?_
  refine lv_iadd hx hb dX15_feed_29 ?_
  refine tk_i (y := 6) (by decide) ?_
  refine va_put (D := (dC, dI)) (ci := 15) (v := .int 6) (ty := .int) (C := RX15) (T := TX15) (N := 163) hx hb ht uX15 tyX15 tkX15 nmX15 hown hK hP hD hS 0 rfl rfl 53 (by decide) (ht _ k_11_1) (fun _ h9 => h9) rfl (by decide +kernel) rfl rfl (by rw [L_F4]; decide) dX15_feed_30 (fun H locs hP hD hS => ?_)
  obtain ⟨F8, eF8⟩ : ∃ g : List Value, g = F4.set 53 (.int 6) := ⟨_, rfl⟩
  rw [← eF8] at hP hD
  have K51_F8 : F8[51]? = some (.int 0) := by rw [eF8, List.getElem?_set_ne (by decide)]; exact K51_F4
  have K52_F8 : F8[52]? = some (.ref tq) := by rw [eF8, List.getElem?_set_ne (by decide)]; exact K52_F4
  have K53_F8 : F8[53]? = some (.int 6) := by rw [eF8]; exact List.getElem?_set_self (by rw [L_F4]; decide)
  have L_F8 : F8.length = 163 := by rw [eF8, List.length_set]; exact L_F4
  have hP : va_P (dC, dI) cls [(q, .inr (15, F8)), (tq, .inl (cT, 2000, .inl f7))] H := hP
  have hD : va_D A [(q, .inr (15, F8)), (tq, .inl (cT, 2000, .inl f7))] := hD
  refine lv_iinc (v := 8) (lv' := [(2, .int 8), (0, .ref q), (1, .int p0)]) hx hb dX15_feed_33 hl (k := 0) rfl (by decide) (by decide) rfl (fun ls hl => ?_)
  refine lv_goto (tgt := 3) hx hb dX15_feed_36 (by decide) ?_
  refine lv_iload_n hx hb dX15_feed_3 rfl (lv_at hl 0 rfl) ?_
  refine lv_if_lt (tgt := 39) hx hb dX15_feed_4 (by decide) (fun c0 => absurd c0 (by decide)) (fun _ => ?_)
  refine lv_aload_n hx hb dX15_feed_7 rfl (lv_at hl 1 rfl) ?_
  refine va_get (D := (dC, dI)) (ci := 15) (v := .ref tq) (C := RX15) (T := TX15) (N := 163) hx hb ht uX15 hown hK hP 0 rfl rfl 52 (by decide) (ht _ k_11_0) (fun _ h9 => h9) K52_F8 dX15_feed_8 ?_
  refine lv_aload_n hx hb dX15_feed_11 rfl (lv_at hl 1 rfl) ?_
  refine va_get (D := (dC, dI)) (ci := 15) (v := .int 6) (C := RX15) (T := TX15) (N := 163) hx hb ht uX15 hown hK hP 0 rfl rfl 53 (by decide) (ht _ k_11_1) (fun _ h9 => h9) K53_F8 dX15_feed_12 ?_
  refine lv_iload_n hx hb dX15_feed_15 rfl (lv_at hl 2 rfl) ?_
  refine lv_iload_n hx hb dX15_feed_16 rfl (lv_at hl 0 rfl) ?_
  refine lv_ishr hx hb dX15_feed_17 ?_
  refine lv_topi (fun x9 ex9 => ?_)
  refine lv_sipush (v := 255) hx hb dX15_feed_18 (by decide) ?_
  refine lv_iand hx hb dX15_feed_21 ?_
  refine lv_topi (fun x10 ex10 => ?_)
  refine va_iast (i := 6) (x := x10) hx hb hK hP hD hS 1 0 rfl rfl (by unfold vp_in; decide) dX15_feed_22 (fun H locs hP hD hS => ?_)
  obtain ⟨f11, ef11⟩ : ∃ g : Nat → Int32, g = upd f7 (6 : Int32).toNatClampNeg x10 := ⟨_, rfl⟩
  rw [← ef11] at hP hD
  have hP : va_P (dC, dI) cls [(q, .inr (15, F8)), (tq, .inl (cT, 2000, .inl f11))] H := hP
  have hD : va_D A [(q, .inr (15, F8)), (tq, .inl (cT, 2000, .inl f11))] := hD
  refine lv_aload_n hx hb dX15_feed_23 rfl (lv_at hl 1 rfl) ?_
  refine lv_dup hx hb dX15_feed_24 rfl ?_
  refine va_get (D := (dC, dI)) (ci := 15) (v := .int 6) (C := RX15) (T := TX15) (N := 163) hx hb ht uX15 hown hK hP 0 rfl rfl 53 (by decide) (ht _ k_11_1) (fun _ h9 => h9) K53_F8 dX15_feed_25 ?_
  refine lv_iconst (v := 1) hx hb dX15_feed_28 (by decide) ?_
  refine lv_iadd hx hb dX15_feed_29 ?_
  refine tk_i (y := 7) (by decide) ?_
  refine va_put (D := (dC, dI)) (ci := 15) (v := .int 7) (ty := .int) (C := RX15) (T := TX15) (N := 163) hx hb ht uX15 tyX15 tkX15 nmX15 hown hK hP hD hS 0 rfl rfl 53 (by decide) (ht _ k_11_1) (fun _ h9 => h9) rfl (by decide +kernel) rfl rfl (by rw [L_F8]; decide) dX15_feed_30 (fun H locs hP hD hS => ?_)
  obtain ⟨F12, eF12⟩ : ∃ g : List Value, g = F8.set 53 (.int 7) := ⟨_, rfl⟩
  rw [← eF12] at hP hD
  have K51_F12 : F12[51]? = some (.int 0) := by rw [eF12, List.getElem?_set_ne (by decide)]; exact K51_F8
  have K52_F12 : F12[52]? = some (.ref tq) := by rw [eF12, List.getElem?_set_ne (by decide)]; exact K52_F8
  have K53_F12 : F12[53]? = some (.int 7) := by rw [eF12]; exact List.getElem?_set_self (by rw [L_F8]; decide)
  have L_F12 : F12.length = 163 := by rw [eF12, List.length_set]; exact L_F8
  have hP : va_P (dC, dI) cls [(q, .inr (15, F12)), (tq, .inl (cT, 2000, .inl f11))] H := hP
  have hD : va_D A [(q, .inr (15, F12)), (tq, .inl (cT, 2000, .inl f11))] := hD
  refine lv_iinc (v := 0) (lv' := [(2, .int 0), (0, .ref q), (1, .int p0)]) hx hb dX15_feed_33 hl (k := 0) rfl (by decide) (by decide) rfl (fun ls hl => ?_)
  refine lv_goto (tgt := 3) hx hb dX15_feed_36 (by decide) ?_
  refine lv_iload_n hx hb dX15_feed_3 rfl (lv_at hl 0 rfl) ?_
  refine lv_if_lt (tgt := 39) hx hb dX15_feed_4 (by decide) (fun c0 => absurd c0 (by decide)) (fun _ => ?_)
  refine lv_aload_n hx hb dX15_feed_7 rfl (lv_at hl 1 rfl) ?_
  refine va_get (D := (dC, dI)) (ci := 15) (v := .ref tq) (C := RX15) (T := TX15) (N := 163) hx hb ht uX15 hown hK hP 0 rfl rfl 52 (by decide) (ht _ k_11_0) (fun _ h9 => h9) K52_F12 dX15_feed_8 ?_
  refine lv_aload_n hx hb dX15_feed_11 rfl (lv_at hl 1 rfl) ?_
  refine va_get (D := (dC, dI)) (ci := 15) (v := .int 7) (C := RX15) (T := TX15) (N := 163) hx hb ht uX15 hown hK hP 0 rfl rfl 53 (by decide) (ht _ k_11_1) (fun _ h9 => h9) K53_F12 dX15_feed_12 ?_
  refine lv_iload_n hx hb dX15_feed_15 rfl (lv_at hl 2 rfl) ?_
  refine lv_iload_n hx hb dX15_feed_16 rfl (lv_at hl 0 rfl) ?_
  refine lv_ishr hx hb dX15_feed_17 ?_
  refine lv_topi (fun x13 ex13 => ?_)
  refine lv_sipush (v := 255) hx hb dX15_feed_18 (by decide) ?_
  refine lv_iand hx hb dX15_feed_21 ?_
  refine lv_topi (fun x14 ex14 => ?_)
  refine va_iast (i := 7) (x := x14) hx hb hK hP hD hS 1 0 rfl rfl (by unfold vp_in; decide) dX15_feed_22 (fun H locs hP hD hS => ?_)
  obtain ⟨f15, ef15⟩ : ∃ g : Nat → Int32, g = upd f11 (7 : Int32).toNatClampNeg x14 := ⟨_, rfl⟩
  rw [← ef15] at hP hD
  have hP : va_P (dC, dI) cls [(q, .inr (15, F12)), (tq, .inl (cT, 2000, .inl f15))] H := hP
  have hD : va_D A [(q, .inr (15, F12)), (tq, .inl (cT, 2000, .inl f15))] := hD
  refine lv_aload_n hx hb dX15_feed_23 rfl (lv_at hl 1 rfl) ?_
  refine lv_dup hx hb dX15_feed_24 rfl ?_
  refine va_get (D := (dC, dI)) (ci := 15) (v := .int 7) (C := RX15) (T := TX15) (N := 163) hx hb ht uX15 hown hK hP 0 rfl rfl 53 (by decide) (ht _ k_11_1) (fun _ h9 => h9) K53_F12 dX15_feed_25 ?_
  refine lv_iconst (v := 1) hx hb dX15_feed_28 (by decide) ?_
  refine lv_iadd hx hb dX15_feed_29 ?_
  refine tk_i (y := 8) (by decide) ?_
  refine va_put (D := (dC, dI)) (ci := 15) (v := .int 8) (ty := .int) (C := RX15) (T := TX15) (N := 163) hx hb ht uX15 tyX15 tkX15 nmX15 hown hK hP hD hS 0 rfl rfl 53 (by decide) (ht _ k_11_1) (fun _ h9 => h9) rfl (by decide +kernel) rfl rfl (by rw [L_F12]; decide) dX15_feed_30 (fun H locs hP hD hS => ?_)
  obtain ⟨F16, eF16⟩ : ∃ g : List Value, g = F12.set 53 (.int 8) := ⟨_, rfl⟩
  rw [← eF16] at hP hD
  have K51_F16 : F16[51]? = some (.int 0) := by rw [eF16, List.getElem?_set_ne (by decide)]; exact K51_F12
  have K52_F16 : F16[52]? = some (.ref tq) := by rw [eF16, List.getElem?_set_ne (by decide)]; exact K52_F12
  have K53_F16 : F16[53]? = some (.int 8) := by rw [eF16]; exact List.getElem?_set_self (by rw [L_F12]; decide)
  have L_F16 : F16.length = 163 := by rw [eF16, List.length_set]; exact L_F12
  have hP : va_P (dC, dI) cls [(q, .inr (15, F16)), (tq, .inl (cT, 2000, .inl f15))] H := hP
  have hD : va_D A [(q, .inr (15, F16)), (tq, .inl (cT, 2000, .inl f15))] := hD
  refine lv_iinc (v := (-8)) (lv' := [(2, .int (-8)), (0, .ref q), (1, .int p0)]) hx hb dX15_feed_33 hl (k := 0) rfl (by decide) (by decide) rfl (fun ls hl => ?_)
  refine lv_goto (tgt := 3) hx hb dX15_feed_36 (by decide) ?_
  refine lv_iload_n hx hb dX15_feed_3 rfl (lv_at hl 0 rfl) ?_
  refine lv_if_lt (tgt := 39) hx hb dX15_feed_4 (by decide) (fun _ => ?_) (fun c0 => absurd c0 (by decide))
  exact W.vret hx hb hr (fun t ht9 hW => ⟨⟨(F16, f15), rfl, ⟨trivial, L_F16, K51_F16, K52_F16, K53_F16⟩, by rw [ht9]; exact hP.sub [0, 1] rfl, va_K.moved hW.alike (hK.sub [0] rfl), hD.sub [0, 1] (by decide) rfl⟩, hS.F ht9⟩) hS.2.2 dX15_feed_39
set_option maxHeartbeats 4000000 in
set_option maxRecDepth 100000 in
theorem r_feed1_8 (l : Launch) (dC : Nat → ClassId) (dI : Nat → Nat → Nat) (sz : Nat) (q : Nat) (fs : List Value) (tq : Nat) (cT : ClassId) (ft : Nat → Int32) (p0 : Int32) (L_fs : fs.length = 163) (K51_fs : fs[51]? = some (.int 0)) (K52_fs : fs[52]? = some (.ref tq)) (K53_fs : fs[53]? = some (.int 8)) : Met l yX15_feed (Cond.code yX15_feed cX15_feed 3 none :: tb) ({ frames := 0, cells := 0, slots := 0, locals := 0 }) (pcw [.ref q, .int p0] (dC, dI) [(q, .inr (15, fs)), (tq, .inl (cT, 2000, .inl ft))] [(cT, .int)] sz) (va_Qv (fun (u : (List Value) × (Nat → Int32)) => match u with | (fs1, ft1) => (True) ∧ (fs1.length = 163) ∧ (fs1[51]? = some (.int 0)) ∧ (fs1[52]? = some (.ref tq)) ∧ (fs1[53]? = some (.int 12))) (bw (dC, dI) (va_A [(q, .inr (15, fs)), (tq, .inl (cT, 2000, .inl ft))] sz) (fun (u : (List Value) × (Nat → Int32)) => match u with | (fs1, ft1) => [(q, .inr (15, fs1)), (tq, .inl (cT, 2000, .inl ft1))]) (fun (u : (List Value) × (Nat → Int32)) => match u with | (fs1, ft1) => [(cT, .int)])) (va_A [(q, .inr (15, fs)), (tq, .inl (cT, 2000, .inl ft))] sz)) 0 0 (va_A [(q, .inr (15, fs)), (tq, .inl (cT, 2000, .inl ft))] sz) := by
  refine Met.ofW (cc := cX15_feed) (maxL := 3) (ret := none) (by decide) rfl ?_
  intro p e s m args below meth c s₁ B hml hv
  obtain ⟨rfl, hsz, hP, hK, hD0⟩ := hv
  have hx := B.exec
  have hb := B.bytes
  have hr := B.returns
  have hts := atoms_spec (ws := Cond.code yX15_feed cX15_feed 3 none :: tb) B.pre
  have ht : ∀ w ∈ tb, w.before _ s = true := fun w h => hts w (List.mem_cons_of_mem _ h)
  have hown : s.vm.findClass RX15 = some m.cls := findClass_of_methodNamed B.named
  have hlocks := B.notSynchronized
  subst hsz
  have hD := hD0.self (sz := s.heap.size)
  generalize hAe : va_A [(q, .inr (15, fs)), (tq, .inl (cT, 2000, .inl ft))] s.heap.size = A at hD ⊢
  have hA : ∀ q : Nat, s.heap.size ≤ q → A q := fun q h => by rw [← hAe]; exact Or.inr h
  have hS : va_S A s.heap s.heap [] := va_S.rf
  have hl := lv_entry ([.ref q, .int p0]) (n := 3) (Nat.le_of_ble_eq_true rfl)
  rw [lg_entry_eq]
  generalize (lg_sl ([.ref q, .int p0]) ++ List.replicate (3 - (lg_sl ([.ref q, .int p0])).length) Slot.unset).toArray = ls at hl ⊢
  have hl : lv_has ls 3 [(0, .ref q), (1, .int p0)] := hl
  have hP : va_P (dC, dI) cls [(q, .inr (15, fs)), (tq, .inl (cT, 2000, .inl ft))] s.heap := hP
  refine lv_bipush (v := 24) hx hb dX15_feed_0 (by decide) ?_
  refine lv_istore_n (lv' := [(2, .int 24), (0, .ref q), (1, .int p0)]) hx hb dX15_feed_2 rfl hl (by decide) rfl (fun ls hl => ?_)
  refine lv_iload_n hx hb dX15_feed_3 rfl (lv_at hl 0 rfl) ?_
  refine lv_if_lt (tgt := 39) hx hb dX15_feed_4 (by decide) (fun c0 => absurd c0 (by decide)) (fun _ => ?_)
  refine lv_aload_n hx hb dX15_feed_7 rfl (lv_at hl 1 rfl) ?_
  refine va_get (D := (dC, dI)) (ci := 15) (v := .ref tq) (C := RX15) (T := TX15) (N := 163) hx hb ht uX15 hown hK hP 0 rfl rfl 52 (by decide) (ht _ k_11_0) (fun _ h9 => h9) K52_fs dX15_feed_8 ?_
  refine lv_aload_n hx hb dX15_feed_11 rfl (lv_at hl 1 rfl) ?_
  refine va_get (D := (dC, dI)) (ci := 15) (v := .int 8) (C := RX15) (T := TX15) (N := 163) hx hb ht uX15 hown hK hP 0 rfl rfl 53 (by decide) (ht _ k_11_1) (fun _ h9 => h9) K53_fs dX15_feed_12 ?_
  refine lv_iload_n hx hb dX15_feed_15 rfl (lv_at hl 2 rfl) ?_
  refine lv_iload_n hx hb dX15_feed_16 rfl (lv_at hl 0 rfl) ?_
  refine lv_ishr hx hb dX15_feed_17 ?_
  refine lv_topi (fun x1 ex1 => ?_)
  refine lv_sipush (v := 255) hx hb dX15_feed_18 (by decide) ?_
  refine lv_iand hx hb dX15_feed_21 ?_
  refine lv_topi (fun x2 ex2 => ?_)
  refine va_iast (i := 8) (x := x2) hx hb hK hP hD hS 1 0 rfl rfl (by unfold vp_in; decide) dX15_feed_22 (fun H locs hP hD hS => ?_)
  obtain ⟨f3, ef3⟩ : ∃ g : Nat → Int32, g = upd ft (8 : Int32).toNatClampNeg x2 := ⟨_, rfl⟩
  rw [← ef3] at hP hD
  have hP : va_P (dC, dI) cls [(q, .inr (15, fs)), (tq, .inl (cT, 2000, .inl f3))] H := hP
  have hD : va_D A [(q, .inr (15, fs)), (tq, .inl (cT, 2000, .inl f3))] := hD
  refine lv_aload_n hx hb dX15_feed_23 rfl (lv_at hl 1 rfl) ?_
  refine lv_dup hx hb dX15_feed_24 rfl ?_
  refine va_get (D := (dC, dI)) (ci := 15) (v := .int 8) (C := RX15) (T := TX15) (N := 163) hx hb ht uX15 hown hK hP 0 rfl rfl 53 (by decide) (ht _ k_11_1) (fun _ h9 => h9) K53_fs dX15_feed_25 ?_
  refine lv_iconst (v := 1) hx hb dX15_feed_28 (by decide) ?_
  refine lv_iadd hx hb dX15_feed_29 ?_
  refine tk_i (y := 9) (by decide) ?_
  refine va_put (D := (dC, dI)) (ci := 15) (v := .int 9) (ty := .int) (C := RX15) (T := TX15) (N := 163) hx hb ht uX15 tyX15 tkX15 nmX15 hown hK hP hD hS 0 rfl rfl 53 (by decide) (ht _ k_11_1) (fun _ h9 => h9) rfl (by decide +kernel) rfl rfl (by rw [L_fs]; decide) dX15_feed_30 (fun H locs hP hD hS => ?_)
  obtain ⟨F4, eF4⟩ : ∃ g : List Value, g = fs.set 53 (.int 9) := ⟨_, rfl⟩
  rw [← eF4] at hP hD
  have K51_F4 : F4[51]? = some (.int 0) := by rw [eF4, List.getElem?_set_ne (by decide)]; exact K51_fs
  have K52_F4 : F4[52]? = some (.ref tq) := by rw [eF4, List.getElem?_set_ne (by decide)]; exact K52_fs
  have K53_F4 : F4[53]? = some (.int 9) := by rw [eF4]; exact List.getElem?_set_self (by rw [L_fs]; decide)
  have L_F4 : F4.length = 163 := by rw [eF4, List.length_set]; exact L_fs
  have hP : va_P (dC, dI) cls [(q, .inr (15, F4)), (tq, .inl (cT, 2000, .inl f3))] H := hP
  have hD : va_D A [(q, .inr (15, F4)), (tq, .inl (cT, 2000, .inl f3))] := hD
  refine lv_iinc (v := 16) (lv' := [(2, .int 16), (0, .ref q), (1, .int p0)]) hx hb dX15_feed_33 hl (k := 0) rfl (by decide) (by decide) rfl (fun ls hl => ?_)
  refine lv_goto (tgt := 3) hx hb dX15_feed_36 (by decide) ?_
  refine lv_iload_n hx hb dX15_feed_3 rfl (lv_at hl 0 rfl) ?_
  refine lv_if_lt (tgt := 39) hx hb dX15_feed_4 (by decide) (fun c0 => absurd c0 (by decide)) (fun _ => ?_)
  refine lv_aload_n hx hb dX15_feed_7 rfl (lv_at hl 1 rfl) ?_
  refine va_get (D := (dC, dI)) (ci := 15) (v := .ref tq) (C := RX15) (T := TX15) (N := 163) hx hb ht uX15 hown hK hP 0 rfl rfl 52 (by decide) (ht _ k_11_0) (fun _ h9 => h9) K52_F4 dX15_feed_8 ?_
  refine lv_aload_n hx hb dX15_feed_11 rfl (lv_at hl 1 rfl) ?_
  refine va_get (D := (dC, dI)) (ci := 15) (v := .int 9) (C := RX15) (T := TX15) (N := 163) hx hb ht uX15 hown hK hP 0 rfl rfl 53 (by decide) (ht _ k_11_1) (fun _ h9 => h9) K53_F4 dX15_feed_12 ?_
  refine lv_iload_n hx hb dX15_feed_15 rfl (lv_at hl 2 rfl) ?_
  refine lv_iload_n hx hb dX15_feed_16 rfl (lv_at hl 0 rfl) ?_
  refine lv_ishr hx hb dX15_feed_17 ?_
  refine lv_topi (fun x5 ex5 => ?_)
  refine lv_sipush (v := 255) hx hb dX15_feed_18 (by decide) ?_
  refine lv_iand hx hb dX15_feed_21 ?_
  refine lv_topi (fun x6 ex6 => ?_)
  refine va_iast (i := 9) (x := x6) hx hb hK hP hD hS 1 0 rfl rfl (by unfold vp_in; decide) dX15_feed_22 (fun H locs hP hD hS => ?_)
  obtain ⟨f7, ef7⟩ : ∃ g : Nat → Int32, g = upd f3 (9 : Int32).toNatClampNeg x6 := ⟨_, rfl⟩
  rw [← ef7] at hP hD
  have hP : va_P (dC, dI) cls [(q, .inr (15, F4)), (tq, .inl (cT, 2000, .inl f7))] H := hP
  have hD : va_D A [(q, .inr (15, F4)), (tq, .inl (cT, 2000, .inl f7))] := hD
  refine lv_aload_n hx hb dX15_feed_23 rfl (lv_at hl 1 rfl) ?_
  refine lv_dup hx hb dX15_feed_24 rfl ?_
  refine va_get (D := (dC, dI)) (ci := 15) (v := .int 9) (C := RX15) (T := TX15) (N := 163) hx hb ht uX15 hown hK hP 0 rfl rfl 53 (by decide) (ht _ k_11_1) (fun _ h9 => h9) K53_F4 dX15_feed_25 ?_
  refine lv_iconst (v := 1) hx hb dX15_feed_28 (by decide) ?_
  refine lv_iadd hx hb dX15_feed_29 ?_
  refine tk_i (y := 10) (by decide) ?_
  refine va_put (D := (dC, dI)) (ci := 15) (v := .int 10) (ty := .int) (C := RX15) (T := TX15) (N := 163) hx hb ht uX15 tyX15 tkX15 nmX15 hown hK hP hD hS 0 rfl rfl 53 (by decide) (ht _ k_11_1) (fun _ h9 => h9) rfl (by decide +kernel) rfl rfl (by rw [L_F4]; decide) dX15_feed_30 (fun H locs hP hD hS => ?_)
  obtain ⟨F8, eF8⟩ : ∃ g : List Value, g = F4.set 53 (.int 10) := ⟨_, rfl⟩
  rw [← eF8] at hP hD
  have K51_F8 : F8[51]? = some (.int 0) := by rw [eF8, List.getElem?_set_ne (by decide)]; exact K51_F4
  have K52_F8 : F8[52]? = some (.ref tq) := by rw [eF8, List.getElem?_set_ne (by decide)]; exact K52_F4
  have K53_F8 : F8[53]? = some (.int 10) := by rw [eF8]; exact List.getElem?_set_self (by rw [L_F4]; decide)
  have L_F8 : F8.length = 163 := by rw [eF8, List.length_set]; exact L_F4
  have hP : va_P (dC, dI) cls [(q, .inr (15, F8)), (tq, .inl (cT, 2000, .inl f7))] H := hP
  have hD : va_D A [(q, .inr (15, F8)), (tq, .inl (cT, 2000, .inl f7))] := hD
  refine lv_iinc (v := 8) (lv' := [(2, .int 8), (0, .ref q), (1, .int p0)]) hx hb dX15_feed_33 hl (k := 0) rfl (by decide) (by decide) rfl (fun ls hl => ?_)
  refine lv_goto (tgt := 3) hx hb dX15_feed_36 (by decide) ?_
  refine lv_iload_n hx hb dX15_feed_3 rfl (lv_at hl 0 rfl) ?_
  refine lv_if_lt (tgt := 39) hx hb dX15_feed_4 (by decide) (fun c0 => absurd c0 (by decide)) (fun _ => ?_)
  refine lv_aload_n hx hb dX15_feed_7 rfl (lv_at hl 1 rfl) ?_
  refine va_get (D := (dC, dI)) (ci := 15) (v := .ref tq) (C := RX15) (T := TX15) (N := 163) hx hb ht uX15 hown hK hP 0 rfl rfl 52 (by decide) (ht _ k_11_0) (fun _ h9 => h9) K52_F8 dX15_feed_8 ?_
  refine lv_aload_n hx hb dX15_feed_11 rfl (lv_at hl 1 rfl) ?_
  refine va_get (D := (dC, dI)) (ci := 15) (v := .int 10) (C := RX15) (T := TX15) (N := 163) hx hb ht uX15 hown hK hP 0 rfl rfl 53 (by decide) (ht _ k_11_1) (fun _ h9 => h9) K53_F8 dX15_feed_12 ?_
  refine lv_iload_n hx hb dX15_feed_15 rfl (lv_at hl 2 rfl) ?_
  refine lv_iload_n hx hb dX15_feed_16 rfl (lv_at hl 0 rfl) ?_
  refine lv_ishr hx hb dX15_feed_17 ?_
  refine lv_topi (fun x9 ex9 => ?_)
  refine lv_sipush (v := 255) hx hb dX15_feed_18 (by decide) ?_
  refine lv_iand hx hb dX15_feed_21 ?_
  refine lv_topi (fun x10 ex10 => ?_)
  refine va_iast (i := 10) (x := x10) hx hb hK hP hD hS 1 0 rfl rfl (by unfold vp_in; decide) dX15_feed_22 (fun H locs hP hD hS => ?_)
  obtain ⟨f11, ef11⟩ : ∃ g : Nat → Int32, g = upd f7 (10 : Int32).toNatClampNeg x10 := ⟨_, rfl⟩
  rw [← ef11] at hP hD
  have hP : va_P (dC, dI) cls [(q, .inr (15, F8)), (tq, .inl (cT, 2000, .inl f11))] H := hP
  have hD : va_D A [(q, .inr (15, F8)), (tq, .inl (cT, 2000, .inl f11))] := hD
  refine lv_aload_n hx hb dX15_feed_23 rfl (lv_at hl 1 rfl) ?_
  refine lv_dup hx hb dX15_feed_24 rfl ?_
  refine va_get (D := (dC, dI)) (ci := 15) (v := .int 10) (C := RX15) (T := TX15) (N := 163) hx hb ht uX15 hown hK hP 0 rfl rfl 53 (by decide) (ht _ k_11_1) (fun _ h9 => h9) K53_F8 dX15_feed_25 ?_
  refine lv_iconst (v := 1) hx hb dX15_feed_28 (by decide) ?_
  refine lv_iadd hx hb dX15_feed_29 ?_
  refine tk_i (y := 11) (by decide) ?_
  refine va_put (D := (dC, dI)) (ci := 15) (v := .int 11) (ty := .int) (C := RX15) (T := TX15) (N := 163) hx hb ht uX15 tyX15 tkX15 nmX15 hown hK hP hD hS 0 rfl rfl 53 (by decide) (ht _ k_11_1) (fun _ h9 => h9) rfl (by decide +kernel) rfl rfl (by rw [L_F8]; decide) dX15_feed_30 (fun H locs hP hD hS => ?_)
  obtain ⟨F12, eF12⟩ : ∃ g : List Value, g = F8.set 53 (.int 11) := ⟨_, rfl⟩
  rw [← eF12] at hP hD
  have K51_F12 : F12[51]? = some (.int 0) := by rw [eF12, List.getElem?_set_ne (by decide)]; exact K51_F8
  have K52_F12 : F12[52]? = some (.ref tq) := by rw [eF12, List.getElem?_set_ne (by decide)]; exact K52_F8
  have K53_F12 : F12[53]? = some (.int 11) := by rw [eF12]; exact List.getElem?_set_self (by rw [L_F8]; decide)
  have L_F12 : F12.length = 163 := by rw [eF12, List.length_set]; exact L_F8
  have hP : va_P (dC, dI) cls [(q, .inr (15, F12)), (tq, .inl (cT, 2000, .inl f11))] H := hP
  have hD : va_D A [(q, .inr (15, F12)), (tq, .inl (cT, 2000, .inl f11))] := hD
  refine lv_iinc (v := 0) (lv' := [(2, .int 0), (0, .ref q), (1, .int p0)]) hx hb dX15_feed_33 hl (k := 0) rfl (by decide) (by decide) rfl (fun ls hl => ?_)
  refine lv_goto (tgt := 3) hx hb dX15_feed_36 (by decide) ?_
  refine lv_iload_n hx hb dX15_feed_3 rfl (lv_at hl 0 rfl) ?_
  refine lv_if_lt (tgt := 39) hx hb dX15_feed_4 (by decide) (fun c0 => absurd c0 (by decide)) (fun _ => ?_)
  refine lv_aload_n hx hb dX15_feed_7 rfl (lv_at hl 1 rfl) ?_
  refine va_get (D := (dC, dI)) (ci := 15) (v := .ref tq) (C := RX15) (T := TX15) (N := 163) hx hb ht uX15 hown hK hP 0 rfl rfl 52 (by decide) (ht _ k_11_0) (fun _ h9 => h9) K52_F12 dX15_feed_8 ?_
  refine lv_aload_n hx hb dX15_feed_11 rfl (lv_at hl 1 rfl) ?_
  refine va_get (D := (dC, dI)) (ci := 15) (v := .int 11) (C := RX15) (T := TX15) (N := 163) hx hb ht uX15 hown hK hP 0 rfl rfl 53 (by decide) (ht _ k_11_1) (fun _ h9 => h9) K53_F12 dX15_feed_12 ?_
  refine lv_iload_n hx hb dX15_feed_15 rfl (lv_at hl 2 rfl) ?_
  refine lv_iload_n hx hb dX15_feed_16 rfl (lv_at hl 0 rfl) ?_
  refine lv_ishr hx hb dX15_feed_17 ?_
  refine lv_topi (fun x13 ex13 => ?_)
  refine lv_sipush (v := 255) hx hb dX15_feed_18 (by decide) ?_
  refine lv_iand hx hb dX15_feed_21 ?_
  refine lv_topi (fun x14 ex14 => ?_)
  refine va_iast (i := 11) (x := x14) hx hb hK hP hD hS 1 0 rfl rfl (by unfold vp_in; decide) dX15_feed_22 (fun H locs hP hD hS => ?_)
  obtain ⟨f15, ef15⟩ : ∃ g : Nat → Int32, g = upd f11 (11 : Int32).toNatClampNeg x14 := ⟨_, rfl⟩
  rw [← ef15] at hP hD
  have hP : va_P (dC, dI) cls [(q, .inr (15, F12)), (tq, .inl (cT, 2000, .inl f15))] H := hP
  have hD : va_D A [(q, .inr (15, F12)), (tq, .inl (cT, 2000, .inl f15))] := hD
  refine lv_aload_n hx hb dX15_feed_23 rfl (lv_at hl 1 rfl) ?_
  refine lv_dup hx hb dX15_feed_24 rfl ?_
  refine va_get (D := (dC, dI)) (ci := 15) (v := .int 11) (C := RX15) (T := TX15) (N := 163) hx hb ht uX15 hown hK hP 0 rfl rfl 53 (by decide) (ht _ k_11_1) (fun _ h9 => h9) K53_F12 dX15_feed_25 ?_
  refine lv_iconst (v := 1) hx hb dX15_feed_28 (by decide) ?_
  refine lv_iadd hx hb dX15_feed_29 ?_
  refine tk_i (y := 12) (by decide) ?_
  refine va_put (D := (dC, dI)) (ci := 15) (v := .int 12) (ty := .int) (C := RX15) (T := TX15) (N := 163) hx hb ht uX15 tyX15 tkX15 nmX15 hown hK hP hD hS 0 rfl rfl 53 (by decide) (ht _ k_11_1) (fun _ h9 => h9) rfl (by decide +kernel) rfl rfl (by rw [L_F12]; decide) dX15_feed_30 (fun H locs hP hD hS => ?_)
  obtain ⟨F16, eF16⟩ : ∃ g : List Value, g = F12.set 53 (.int 12) := ⟨_, rfl⟩
  rw [← eF16] at hP hD
  have K51_F16 : F16[51]? = some (.int 0) := by rw [eF16, List.getElem?_set_ne (by decide)]; exact K51_F12
  have K52_F16 : F16[52]? = some (.ref tq) := by rw [eF16, List.getElem?_set_ne (by decide)]; exact K52_F12
  have K53_F16 : F16[53]? = some (.int 12) := by rw [eF16]; exact List.getElem?_set_self (by rw [L_F12]; decide)
  have L_F16 : F16.length = 163 := by rw [eF16, List.length_set]; exact L_F12
  have hP : va_P (dC, dI) cls [(q, .inr (15, F16)), (tq, .inl (cT, 2000, .inl f15))] H := hP
  have hD : va_D A [(q, .inr (15, F16)), (tq, .inl (cT, 2000, .inl f15))] := hD
  refine lv_iinc (v := (-8)) (lv' := [(2, .int (-8)), (0, .ref q), (1, .int p0)]) hx hb dX15_feed_33 hl (k := 0) rfl (by decide) (by decide) rfl (fun ls hl => ?_)
  refine lv_goto (tgt := 3) hx hb dX15_feed_36 (by decide) ?_
  refine lv_iload_n hx hb dX15_feed_3 rfl (lv_at hl 0 rfl) ?_
  refine lv_if_lt (tgt := 39) hx hb dX15_feed_4 (by decide) (fun _ => ?_) (fun c0 => absurd c0 (by decide))
  exact W.vret hx hb hr (fun t ht9 hW => ⟨⟨(F16, f15), rfl, ⟨trivial, L_F16, K51_F16, K52_F16, K53_F16⟩, by rw [ht9]; exact hP.sub [0, 1] rfl, va_K.moved hW.alike (hK.sub [0] rfl), hD.sub [0, 1] (by decide) rfl⟩, hS.F ht9⟩) hS.2.2 dX15_feed_39
set_option maxHeartbeats 4000000 in
set_option maxRecDepth 100000 in
theorem r_feed1_12 (l : Launch) (dC : Nat → ClassId) (dI : Nat → Nat → Nat) (sz : Nat) (q : Nat) (fs : List Value) (tq : Nat) (cT : ClassId) (ft : Nat → Int32) (p0 : Int32) (L_fs : fs.length = 163) (K51_fs : fs[51]? = some (.int 0)) (K52_fs : fs[52]? = some (.ref tq)) (K53_fs : fs[53]? = some (.int 12)) : Met l yX15_feed (Cond.code yX15_feed cX15_feed 3 none :: tb) ({ frames := 0, cells := 0, slots := 0, locals := 0 }) (pcw [.ref q, .int p0] (dC, dI) [(q, .inr (15, fs)), (tq, .inl (cT, 2000, .inl ft))] [(cT, .int)] sz) (va_Qv (fun (u : (List Value) × (Nat → Int32)) => match u with | (fs1, ft1) => (True) ∧ (fs1.length = 163) ∧ (fs1[51]? = some (.int 0)) ∧ (fs1[52]? = some (.ref tq)) ∧ (fs1[53]? = some (.int 16))) (bw (dC, dI) (va_A [(q, .inr (15, fs)), (tq, .inl (cT, 2000, .inl ft))] sz) (fun (u : (List Value) × (Nat → Int32)) => match u with | (fs1, ft1) => [(q, .inr (15, fs1)), (tq, .inl (cT, 2000, .inl ft1))]) (fun (u : (List Value) × (Nat → Int32)) => match u with | (fs1, ft1) => [(cT, .int)])) (va_A [(q, .inr (15, fs)), (tq, .inl (cT, 2000, .inl ft))] sz)) 0 0 (va_A [(q, .inr (15, fs)), (tq, .inl (cT, 2000, .inl ft))] sz) := by
  refine Met.ofW (cc := cX15_feed) (maxL := 3) (ret := none) (by decide) rfl ?_
  intro p e s m args below meth c s₁ B hml hv
  obtain ⟨rfl, hsz, hP, hK, hD0⟩ := hv
  have hx := B.exec
  have hb := B.bytes
  have hr := B.returns
  have hts := atoms_spec (ws := Cond.code yX15_feed cX15_feed 3 none :: tb) B.pre
  have ht : ∀ w ∈ tb, w.before _ s = true := fun w h => hts w (List.mem_cons_of_mem _ h)
  have hown : s.vm.findClass RX15 = some m.cls := findClass_of_methodNamed B.named
  have hlocks := B.notSynchronized
  subst hsz
  have hD := hD0.self (sz := s.heap.size)
  generalize hAe : va_A [(q, .inr (15, fs)), (tq, .inl (cT, 2000, .inl ft))] s.heap.size = A at hD ⊢
  have hA : ∀ q : Nat, s.heap.size ≤ q → A q := fun q h => by rw [← hAe]; exact Or.inr h
  have hS : va_S A s.heap s.heap [] := va_S.rf
  have hl := lv_entry ([.ref q, .int p0]) (n := 3) (Nat.le_of_ble_eq_true rfl)
  rw [lg_entry_eq]
  generalize (lg_sl ([.ref q, .int p0]) ++ List.replicate (3 - (lg_sl ([.ref q, .int p0])).length) Slot.unset).toArray = ls at hl ⊢
  have hl : lv_has ls 3 [(0, .ref q), (1, .int p0)] := hl
  have hP : va_P (dC, dI) cls [(q, .inr (15, fs)), (tq, .inl (cT, 2000, .inl ft))] s.heap := hP
  refine lv_bipush (v := 24) hx hb dX15_feed_0 (by decide) ?_
  refine lv_istore_n (lv' := [(2, .int 24), (0, .ref q), (1, .int p0)]) hx hb dX15_feed_2 rfl hl (by decide) rfl (fun ls hl => ?_)
  refine lv_iload_n hx hb dX15_feed_3 rfl (lv_at hl 0 rfl) ?_
  refine lv_if_lt (tgt := 39) hx hb dX15_feed_4 (by decide) (fun c0 => absurd c0 (by decide)) (fun _ => ?_)
  refine lv_aload_n hx hb dX15_feed_7 rfl (lv_at hl 1 rfl) ?_
  refine va_get (D := (dC, dI)) (ci := 15) (v := .ref tq) (C := RX15) (T := TX15) (N := 163) hx hb ht uX15 hown hK hP 0 rfl rfl 52 (by decide) (ht _ k_11_0) (fun _ h9 => h9) K52_fs dX15_feed_8 ?_
  refine lv_aload_n hx hb dX15_feed_11 rfl (lv_at hl 1 rfl) ?_
  refine va_get (D := (dC, dI)) (ci := 15) (v := .int 12) (C := RX15) (T := TX15) (N := 163) hx hb ht uX15 hown hK hP 0 rfl rfl 53 (by decide) (ht _ k_11_1) (fun _ h9 => h9) K53_fs dX15_feed_12 ?_
  refine lv_iload_n hx hb dX15_feed_15 rfl (lv_at hl 2 rfl) ?_
  refine lv_iload_n hx hb dX15_feed_16 rfl (lv_at hl 0 rfl) ?_
  refine lv_ishr hx hb dX15_feed_17 ?_
  refine lv_topi (fun x1 ex1 => ?_)
  refine lv_sipush (v := 255) hx hb dX15_feed_18 (by decide) ?_
  refine lv_iand hx hb dX15_feed_21 ?_
  refine lv_topi (fun x2 ex2 => ?_)
  refine va_iast (i := 12) (x := x2) hx hb hK hP hD hS 1 0 rfl rfl (by unfold vp_in; decide) dX15_feed_22 (fun H locs hP hD hS => ?_)
  obtain ⟨f3, ef3⟩ : ∃ g : Nat → Int32, g = upd ft (12 : Int32).toNatClampNeg x2 := ⟨_, rfl⟩
  rw [← ef3] at hP hD
  have hP : va_P (dC, dI) cls [(q, .inr (15, fs)), (tq, .inl (cT, 2000, .inl f3))] H := hP
  have hD : va_D A [(q, .inr (15, fs)), (tq, .inl (cT, 2000, .inl f3))] := hD
  refine lv_aload_n hx hb dX15_feed_23 rfl (lv_at hl 1 rfl) ?_
  refine lv_dup hx hb dX15_feed_24 rfl ?_
  refine va_get (D := (dC, dI)) (ci := 15) (v := .int 12) (C := RX15) (T := TX15) (N := 163) hx hb ht uX15 hown hK hP 0 rfl rfl 53 (by decide) (ht _ k_11_1) (fun _ h9 => h9) K53_fs dX15_feed_25 ?_
  refine lv_iconst (v := 1) hx hb dX15_feed_28 (by decide) ?_
  refine lv_iadd hx hb dX15_feed_29 ?_
  refine tk_i (y := 13) (by decide) ?_
  refine va_put (D := (dC, dI)) (ci := 15) (v := .int 13) (ty := .int) (C := RX15) (T := TX15) (N := 163) hx hb ht uX15 tyX15 tkX15 nmX15 hown hK hP hD hS 0 rfl rfl 53 (by decide) (ht _ k_11_1) (fun _ h9 => h9) rfl (by decide +kernel) rfl rfl (by rw [L_fs]; decide) dX15_feed_30 (fun H locs hP hD hS => ?_)
  obtain ⟨F4, eF4⟩ : ∃ g : List Value, g = fs.set 53 (.int 13) := ⟨_, rfl⟩
  rw [← eF4] at hP hD
  have K51_F4 : F4[51]? = some (.int 0) := by rw [eF4, List.getElem?_set_ne (by decide)]; exact K51_fs
  have K52_F4 : F4[52]? = some (.ref tq) := by rw [eF4, List.getElem?_set_ne (by decide)]; exact K52_fs
  have K53_F4 : F4[53]? = some (.int 13) := by rw [eF4]; exact List.getElem?_set_self (by rw [L_fs]; decide)
  have L_F4 : F4.length = 163 := by rw [eF4, List.length_set]; exact L_fs
  have hP : va_P (dC, dI) cls [(q, .inr (15, F4)), (tq, .inl (cT, 2000, .inl f3))] H := hP
  have hD : va_D A [(q, .inr (15, F4)), (tq, .inl (cT, 2000, .inl f3))] := hD
  refine lv_iinc (v := 16) (lv' := [(2, .int 16), (0, .ref q), (1, .int p0)]) hx hb dX15_feed_33 hl (k := 0) rfl (by decide) (by decide) rfl (fun ls hl => ?_)
  refine lv_goto (tgt := 3) hx hb dX15_feed_36 (by decide) ?_
  refine lv_iload_n hx hb dX15_feed_3 rfl (lv_at hl 0 rfl) ?_
  refine lv_if_lt (tgt := 39) hx hb dX15_feed_4 (by decide) (fun c0 => absurd c0 (by decide)) (fun _ => ?_)
  refine lv_aload_n hx hb dX15_feed_7 rfl (lv_at hl 1 rfl) ?_
  refine va_get (D := (dC, dI)) (ci := 15) (v := .ref tq) (C := RX15) (T := TX15) (N := 163) hx hb ht uX15 hown hK hP 0 rfl rfl 52 (by decide) (ht _ k_11_0) (fun _ h9 => h9) K52_F4 dX15_feed_8 ?_
  refine lv_aload_n hx hb dX15_feed_11 rfl (lv_at hl 1 rfl) ?_
  refine va_get (D := (dC, dI)) (ci := 15) (v := .int 13) (C := RX15) (T := TX15) (N := 163) hx hb ht uX15 hown hK hP 0 rfl rfl 53 (by decide) (ht _ k_11_1) (fun _ h9 => h9) K53_F4 dX15_feed_12 ?_
  refine lv_iload_n hx hb dX15_feed_15 rfl (lv_at hl 2 rfl) ?_
  refine lv_iload_n hx hb dX15_feed_16 rfl (lv_at hl 0 rfl) ?_
  refine lv_ishr hx hb dX15_feed_17 ?_
  refine lv_topi (fun x5 ex5 => ?_)
  refine lv_sipush (v := 255) hx hb dX15_feed_18 (by decide) ?_
  refine lv_iand hx hb dX15_feed_21 ?_
  refine lv_topi (fun x6 ex6 => ?_)
  refine va_iast (i := 13) (x := x6) hx hb hK hP hD hS 1 0 rfl rfl (by unfold vp_in; decide) dX15_feed_22 (fun H locs hP hD hS => ?_)
  obtain ⟨f7, ef7⟩ : ∃ g : Nat → Int32, g = upd f3 (13 : Int32).toNatClampNeg x6 := ⟨_, rfl⟩
  rw [← ef7] at hP hD
  have hP : va_P (dC, dI) cls [(q, .inr (15, F4)), (tq, .inl (cT, 2000, .inl f7))] H := hP
  have hD : va_D A [(q, .inr (15, F4)), (tq, .inl (cT, 2000, .inl f7))] := hD
  refine lv_aload_n hx hb dX15_feed_23 rfl (lv_at hl 1 rfl) ?_
  refine lv_dup hx hb dX15_feed_24 rfl ?_
  refine va_get (D := (dC, dI)) (ci := 15) (v := .int 13) (C := RX15) (T := TX15) (N := 163) hx hb ht uX15 hown hK hP 0 rfl rfl 53 (by decide) (ht _ k_11_1) (fun _ h9 => h9) K53_F4 dX15_feed_25 ?_
  refine lv_iconst (v := 1) hx hb dX15_feed_28 (by decide) ?_
  refine lv_iadd hx hb dX15_feed_29 ?_
  refine tk_i (y := 14) (by decide) ?_
  refine va_put (D := (dC, dI)) (ci := 15) (v := .int 14) (ty := .int) (C := RX15) (T := TX15) (N := 163) hx hb ht uX15 tyX15 tkX15 nmX15 hown hK hP hD hS 0 rfl rfl 53 (by decide) (ht _ k_11_1) (fun _ h9 => h9) rfl (by decide +kernel) rfl rfl (by rw [L_F4]; decide) dX15_feed_30 (fun H locs hP hD hS => ?_)
  obtain ⟨F8, eF8⟩ : ∃ g : List Value, g = F4.set 53 (.int 14) := ⟨_, rfl⟩
  rw [← eF8] at hP hD
  have K51_F8 : F8[51]? = some (.int 0) := by rw [eF8, List.getElem?_set_ne (by decide)]; exact K51_F4
  have K52_F8 : F8[52]? = some (.ref tq) := by rw [eF8, List.getElem?_set_ne (by decide)]; exact K52_F4
  have K53_F8 : F8[53]? = some (.int 14) := by rw [eF8]; exact List.getElem?_set_self (by rw [L_F4]; decide)
  have L_F8 : F8.length = 163 := by rw [eF8, List.length_set]; exact L_F4
  have hP : va_P (dC, dI) cls [(q, .inr (15, F8)), (tq, .inl (cT, 2000, .inl f7))] H := hP
  have hD : va_D A [(q, .inr (15, F8)), (tq, .inl (cT, 2000, .inl f7))] := hD
  refine lv_iinc (v := 8) (lv' := [(2, .int 8), (0, .ref q), (1, .int p0)]) hx hb dX15_feed_33 hl (k := 0) rfl (by decide) (by decide) rfl (fun ls hl => ?_)
  refine lv_goto (tgt := 3) hx hb dX15_feed_36 (by decide) ?_
  refine lv_iload_n hx hb dX15_feed_3 rfl (lv_at hl 0 rfl) ?_
  refine lv_if_lt (tgt := 39) hx hb dX15_feed_4 (by decide) (fun c0 => absurd c0 (by decide)) (fun _ => ?_)
  refine lv_aload_n hx hb dX15_feed_7 rfl (lv_at hl 1 rfl) ?_
  refine va_get (D := (dC, dI)) (ci := 15) (v := .ref tq) (C := RX15) (T := TX15) (N := 163) hx hb ht uX15 hown hK hP 0 rfl rfl 52 (by decide) (ht _ k_11_0) (fun _ h9 => h9) K52_F8 dX15_feed_8 ?_
  refine lv_aload_n hx hb dX15_feed_11 rfl (lv_at hl 1 rfl) ?_
  refine va_get (D := (dC, dI)) (ci := 15) (v := .int 14) (C := RX15) (T := TX15) (N := 163) hx hb ht uX15 hown hK hP 0 rfl rfl 53 (by decide) (ht _ k_11_1) (fun _ h9 => h9) K53_F8 dX15_feed_12 ?_
  refine lv_iload_n hx hb dX15_feed_15 rfl (lv_at hl 2 rfl) ?_
  refine lv_iload_n hx hb dX15_feed_16 rfl (lv_at hl 0 rfl) ?_
  refine lv_ishr hx hb dX15_feed_17 ?_
  refine lv_topi (fun x9 ex9 => ?_)
  refine lv_sipush (v := 255) hx hb dX15_feed_18 (by decide) ?_
  refine lv_iand hx hb dX15_feed_21 ?_
  refine lv_topi (fun x10 ex10 => ?_)
  refine va_iast (i := 14) (x := x10) hx hb hK hP hD hS 1 0 rfl rfl (by unfold vp_in; decide) dX15_feed_22 (fun H locs hP hD hS => ?_)
  obtain ⟨f11, ef11⟩ : ∃ g : Nat → Int32, g = upd f7 (14 : Int32).toNatClampNeg x10 := ⟨_, rfl⟩
  rw [← ef11] at hP hD
  have hP : va_P (dC, dI) cls [(q, .inr (15, F8)), (tq, .inl (cT, 2000, .inl f11))] H := hP
  have hD : va_D A [(q, .inr (15, F8)), (tq, .inl (cT, 2000, .inl f11))] := hD
  refine lv_aload_n hx hb dX15_feed_23 rfl (lv_at hl 1 rfl) ?_
  refine lv_dup hx hb dX15_feed_24 rfl ?_
  refine va_get (D := (dC, dI)) (ci := 15) (v := .int 14) (C := RX15) (T := TX15) (N := 163) hx hb ht uX15 hown hK hP 0 rfl rfl 53 (by decide) (ht _ k_11_1) (fun _ h9 => h9) K53_F8 dX15_feed_25 ?_
  refine lv_iconst (v := 1) hx hb dX15_feed_28 (by decide) ?_
  refine lv_iadd hx hb dX15_feed_29 ?_
  refine tk_i (y := 15) (by decide) ?_
  refine va_put (D := (dC, dI)) (ci := 15) (v := .int 15) (ty := .int) (C := RX15) (T := TX15) (N := 163) hx hb ht uX15 tyX15 tkX15 nmX15 hown hK hP hD hS 0 rfl rfl 53 (by decide) (ht _ k_11_1) (fun _ h9 => h9) rfl (by decide +kernel) rfl rfl (by rw [L_F8]; decide) dX15_feed_30 (fun H locs hP hD hS => ?_)
  obtain ⟨F12, eF12⟩ : ∃ g : List Value, g = F8.set 53 (.int 15) := ⟨_, rfl⟩
  rw [← eF12] at hP hD
  have K51_F12 : F12[51]? = some (.int 0) := by rw [eF12, List.getElem?_set_ne (by decide)]; exact K51_F8
  have K52_F12 : F12[52]? = some (.ref tq) := by rw [eF12, List.getElem?_set_ne (by decide)]; exact K52_F8
  have K53_F12 : F12[53]? = some (.int 15) := by rw [eF12]; exact List.getElem?_set_self (by rw [L_F8]; decide)
  have L_F12 : F12.length = 163 := by rw [eF12, List.length_set]; exact L_F8
  have hP : va_P (dC, dI) cls [(q, .inr (15, F12)), (tq, .inl (cT, 2000, .inl f11))] H := hP
  have hD : va_D A [(q, .inr (15, F12)), (tq, .inl (cT, 2000, .inl f11))] := hD
  refine lv_iinc (v := 0) (lv' := [(2, .int 0), (0, .ref q), (1, .int p0)]) hx hb dX15_feed_33 hl (k := 0) rfl (by decide) (by decide) rfl (fun ls hl => ?_)
  refine lv_goto (tgt := 3) hx hb dX15_feed_36 (by decide) ?_
  refine lv_iload_n hx hb dX15_feed_3 rfl (lv_at hl 0 rfl) ?_
  refine lv_if_lt (tgt := 39) hx hb dX15_feed_4 (by decide) (fun c0 => absurd c0 (by decide)) (fun _ => ?_)
  refine lv_aload_n hx hb dX15_feed_7 rfl (lv_at hl 1 rfl) ?_
  refine va_get (D := (dC, dI)) (ci := 15) (v := .ref tq) (C := RX15) (T := TX15) (N := 163) hx hb ht uX15 hown hK hP 0 rfl rfl 52 (by decide) (ht _ k_11_0) (fun _ h9 => h9) K52_F12 dX15_feed_8 ?_
  refine lv_aload_n hx hb dX15_feed_11 rfl (lv_at hl 1 rfl) ?_
  refine va_get (D := (dC, dI)) (ci := 15) (v := .int 15) (C := RX15) (T := TX15) (N := 163) hx hb ht uX15 hown hK hP 0 rfl rfl 53 (by decide) (ht _ k_11_1) (fun _ h9 => h9) K53_F12 dX15_feed_12 ?_
  refine lv_iload_n hx hb dX15_feed_15 rfl (lv_at hl 2 rfl) ?_
  refine lv_iload_n hx hb dX15_feed_16 rfl (lv_at hl 0 rfl) ?_
  refine lv_ishr hx hb dX15_feed_17 ?_
  refine lv_topi (fun x13 ex13 => ?_)
  refine lv_sipush (v := 255) hx hb dX15_feed_18 (by decide) ?_
  refine lv_iand hx hb dX15_feed_21 ?_
  refine lv_topi (fun x14 ex14 => ?_)
  refine va_iast (i := 15) (x := x14) hx hb hK hP hD hS 1 0 rfl rfl (by unfold vp_in; decide) dX15_feed_22 (fun H locs hP hD hS => ?_)
  obtain ⟨f15, ef15⟩ : ∃ g : Nat → Int32, g = upd f11 (15 : Int32).toNatClampNeg x14 := ⟨_, rfl⟩
  rw [← ef15] at hP hD
  have hP : va_P (dC, dI) cls [(q, .inr (15, F12)), (tq, .inl (cT, 2000, .inl f15))] H := hP
  have hD : va_D A [(q, .inr (15, F12)), (tq, .inl (cT, 2000, .inl f15))] := hD
  refine lv_aload_n hx hb dX15_feed_23 rfl (lv_at hl 1 rfl) ?_
  refine lv_dup hx hb dX15_feed_24 rfl ?_
  refine va_get (D := (dC, dI)) (ci := 15) (v := .int 15) (C := RX15) (T := TX15) (N := 163) hx hb ht uX15 hown hK hP 0 rfl rfl 53 (by decide) (ht _ k_11_1) (fun _ h9 => h9) K53_F12 dX15_feed_25 ?_
  refine lv_iconst (v := 1) hx hb dX15_feed_28 (by decide) ?_
  refine lv_iadd hx hb dX15_feed_29 ?_
  refine tk_i (y := 16) (by decide) ?_
  refine va_put (D := (dC, dI)) (ci := 15) (v := .int 16) (ty := .int) (C := RX15) (T := TX15) (N := 163) hx hb ht uX15 tyX15 tkX15 nmX15 hown hK hP hD hS 0 rfl rfl 53 (by decide) (ht _ k_11_1) (fun _ h9 => h9) rfl (by decide +kernel) rfl rfl (by rw [L_F12]; decide) dX15_feed_30 (fun H locs hP hD hS => ?_)
  obtain ⟨F16, eF16⟩ : ∃ g : List Value, g = F12.set 53 (.int 16) := ⟨_, rfl⟩
  rw [← eF16] at hP hD
  have K51_F16 : F16[51]? = some (.int 0) := by rw [eF16, List.getElem?_set_ne (by decide)]; exact K51_F12
  have K52_F16 : F16[52]? = some (.ref tq) := by rw [eF16, List.getElem?_set_ne (by decide)]; exact K52_F12
  have K53_F16 : F16[53]? = some (.int 16) := by rw [eF16]; exact List.getElem?_set_self (by rw [L_F12]; decide)
  have L_F16 : F16.length = 163 := by rw [eF16, List.length_set]; exact L_F12
  have hP : va_P (dC, dI) cls [(q, .inr (15, F16)), (tq, .inl (cT, 2000, .inl f15))] H := hP
  have hD : va_D A [(q, .inr (15, F16)), (tq, .inl (cT, 2000, .inl f15))] := hD
  refine lv_iinc (v := (-8)) (lv' := [(2, .int (-8)), (0, .ref q), (1, .int p0)]) hx hb dX15_feed_33 hl (k := 0) rfl (by decide) (by decide) rfl (fun ls hl => ?_)
  refine lv_goto (tgt := 3) hx hb dX15_feed_36 (by decide) ?_
  refine lv_iload_n hx hb dX15_feed_3 rfl (lv_at hl 0 rfl) ?_
  refine lv_if_lt (tgt := 39) hx hb dX15_feed_4 (by decide) (fun _ => ?_) (fun c0 => absurd c0 (by decide))
  exact W.vret hx hb hr (fun t ht9 hW => ⟨⟨(F16, f15), rfl, ⟨trivial, L_F16, K51_F16, K52_F16, K53_F16⟩, by rw [ht9]; exact hP.sub [0, 1] rfl, va_K.moved hW.alike (hK.sub [0] rfl), hD.sub [0, 1] (by decide) rfl⟩, hS.F ht9⟩) hS.2.2 dX15_feed_39
set_option maxHeartbeats 4000000 in
set_option maxRecDepth 100000 in
theorem r_feed1_16 (l : Launch) (dC : Nat → ClassId) (dI : Nat → Nat → Nat) (sz : Nat) (q : Nat) (fs : List Value) (tq : Nat) (cT : ClassId) (ft : Nat → Int32) (p0 : Int32) (L_fs : fs.length = 163) (K51_fs : fs[51]? = some (.int 0)) (K52_fs : fs[52]? = some (.ref tq)) (K53_fs : fs[53]? = some (.int 16)) : Met l yX15_feed (Cond.code yX15_feed cX15_feed 3 none :: tb) ({ frames := 0, cells := 0, slots := 0, locals := 0 }) (pcw [.ref q, .int p0] (dC, dI) [(q, .inr (15, fs)), (tq, .inl (cT, 2000, .inl ft))] [(cT, .int)] sz) (va_Qv (fun (u : (List Value) × (Nat → Int32)) => match u with | (fs1, ft1) => (True) ∧ (fs1.length = 163) ∧ (fs1[51]? = some (.int 0)) ∧ (fs1[52]? = some (.ref tq)) ∧ (fs1[53]? = some (.int 20))) (bw (dC, dI) (va_A [(q, .inr (15, fs)), (tq, .inl (cT, 2000, .inl ft))] sz) (fun (u : (List Value) × (Nat → Int32)) => match u with | (fs1, ft1) => [(q, .inr (15, fs1)), (tq, .inl (cT, 2000, .inl ft1))]) (fun (u : (List Value) × (Nat → Int32)) => match u with | (fs1, ft1) => [(cT, .int)])) (va_A [(q, .inr (15, fs)), (tq, .inl (cT, 2000, .inl ft))] sz)) 0 0 (va_A [(q, .inr (15, fs)), (tq, .inl (cT, 2000, .inl ft))] sz) := by
  refine Met.ofW (cc := cX15_feed) (maxL := 3) (ret := none) (by decide) rfl ?_
  intro p e s m args below meth c s₁ B hml hv
  obtain ⟨rfl, hsz, hP, hK, hD0⟩ := hv
  have hx := B.exec
  have hb := B.bytes
  have hr := B.returns
  have hts := atoms_spec (ws := Cond.code yX15_feed cX15_feed 3 none :: tb) B.pre
  have ht : ∀ w ∈ tb, w.before _ s = true := fun w h => hts w (List.mem_cons_of_mem _ h)
  have hown : s.vm.findClass RX15 = some m.cls := findClass_of_methodNamed B.named
  have hlocks := B.notSynchronized
  subst hsz
  have hD := hD0.self (sz := s.heap.size)
  generalize hAe : va_A [(q, .inr (15, fs)), (tq, .inl (cT, 2000, .inl ft))] s.heap.size = A at hD ⊢
  have hA : ∀ q : Nat, s.heap.size ≤ q → A q := fun q h => by rw [← hAe]; exact Or.inr h
  have hS : va_S A s.heap s.heap [] := va_S.rf
  have hl := lv_entry ([.ref q, .int p0]) (n := 3) (Nat.le_of_ble_eq_true rfl)
  rw [lg_entry_eq]
  generalize (lg_sl ([.ref q, .int p0]) ++ List.replicate (3 - (lg_sl ([.ref q, .int p0])).length) Slot.unset).toArray = ls at hl ⊢
  have hl : lv_has ls 3 [(0, .ref q), (1, .int p0)] := hl
  have hP : va_P (dC, dI) cls [(q, .inr (15, fs)), (tq, .inl (cT, 2000, .inl ft))] s.heap := hP
  refine lv_bipush (v := 24) hx hb dX15_feed_0 (by decide) ?_
  refine lv_istore_n (lv' := [(2, .int 24), (0, .ref q), (1, .int p0)]) hx hb dX15_feed_2 rfl hl (by decide) rfl (fun ls hl => ?_)
  refine lv_iload_n hx hb dX15_feed_3 rfl (lv_at hl 0 rfl) ?_
  refine lv_if_lt (tgt := 39) hx hb dX15_feed_4 (by decide) (fun c0 => absurd c0 (by decide)) (fun _ => ?_)
  refine lv_aload_n hx hb dX15_feed_7 rfl (lv_at hl 1 rfl) ?_
  refine va_get (D := (dC, dI)) (ci := 15) (v := .ref tq) (C := RX15) (T := TX15) (N := 163) hx hb ht uX15 hown hK hP 0 rfl rfl 52 (by decide) (ht _ k_11_0) (fun _ h9 => h9) K52_fs dX15_feed_8 ?_
  refine lv_aload_n hx hb dX15_feed_11 rfl (lv_at hl 1 rfl) ?_
  refine va_get (D := (dC, dI)) (ci := 15) (v := .int 16) (C := RX15) (T := TX15) (N := 163) hx hb ht uX15 hown hK hP 0 rfl rfl 53 (by decide) (ht _ k_11_1) (fun _ h9 => h9) K53_fs dX15_feed_12 ?_
  refine lv_iload_n hx hb dX15_feed_15 rfl (lv_at hl 2 rfl) ?_
  refine lv_iload_n hx hb dX15_feed_16 rfl (lv_at hl 0 rfl) ?_
  refine lv_ishr hx hb dX15_feed_17 ?_
  refine lv_topi (fun x1 ex1 => ?_)
  refine lv_sipush (v := 255) hx hb dX15_feed_18 (by decide) ?_
  refine lv_iand hx hb dX15_feed_21 ?_
  refine lv_topi (fun x2 ex2 => ?_)
  refine va_iast (i := 16) (x := x2) hx hb hK hP hD hS 1 0 rfl rfl (by unfold vp_in; decide) dX15_feed_22 (fun H locs hP hD hS => ?_)
  obtain ⟨f3, ef3⟩ : ∃ g : Nat → Int32, g = upd ft (16 : Int32).toNatClampNeg x2 := ⟨_, rfl⟩
  rw [← ef3] at hP hD
  have hP : va_P (dC, dI) cls [(q, .inr (15, fs)), (tq, .inl (cT, 2000, .inl f3))] H := hP
  have hD : va_D A [(q, .inr (15, fs)), (tq, .inl (cT, 2000, .inl f3))] := hD
  refine lv_aload_n hx hb dX15_feed_23 rfl (lv_at hl 1 rfl) ?_
  refine lv_dup hx hb dX15_feed_24 rfl ?_
  refine va_get (D := (dC, dI)) (ci := 15) (v := .int 16) (C := RX15) (T := TX15) (N := 163) hx hb ht uX15 hown hK hP 0 rfl rfl 53 (by decide) (ht _ k_11_1) (fun _ h9 => h9) K53_fs dX15_feed_25 ?_
  refine lv_iconst (v := 1) hx hb dX15_feed_28 (by decide) ?_
  refine lv_iadd hx hb dX15_feed_29 ?_
  refine tk_i (y := 17) (by decide) ?_
  refine va_put (D := (dC, dI)) (ci := 15) (v := .int 17) (ty := .int) (C := RX15) (T := TX15) (N := 163) hx hb ht uX15 tyX15 tkX15 nmX15 hown hK hP hD hS 0 rfl rfl 53 (by decide) (ht _ k_11_1) (fun _ h9 => h9) rfl (by decide +kernel) rfl rfl (by rw [L_fs]; decide) dX15_feed_30 (fun H locs hP hD hS => ?_)
  obtain ⟨F4, eF4⟩ : ∃ g : List Value, g = fs.set 53 (.int 17) := ⟨_, rfl⟩
  rw [← eF4] at hP hD
  have K51_F4 : F4[51]? = some (.int 0) := by rw [eF4, List.getElem?_set_ne (by decide)]; exact K51_fs
  have K52_F4 : F4[52]? = some (.ref tq) := by rw [eF4, List.getElem?_set_ne (by decide)]; exact K52_fs
  have K53_F4 : F4[53]? = some (.int 17) := by rw [eF4]; exact List.getElem?_set_self (by rw [L_fs]; decide)
  have L_F4 : F4.length = 163 := by rw [eF4, List.length_set]; exact L_fs
  have hP : va_P (dC, dI) cls [(q, .inr (15, F4)), (tq, .inl (cT, 2000, .inl f3))] H := hP
  have hD : va_D A [(q, .inr (15, F4)), (tq, .inl (cT, 2000, .inl f3))] := hD
  refine lv_iinc (v := 16) (lv' := [(2, .int 16), (0, .ref q), (1, .int p0)]) hx hb dX15_feed_33 hl (k := 0) rfl (by decide) (by decide) rfl (fun ls hl => ?_)
  refine lv_goto (tgt := 3) hx hb dX15_feed_36 (by decide) ?_
  refine lv_iload_n hx hb dX15_feed_3 rfl (lv_at hl 0 rfl) ?_
  refine lv_if_lt (tgt := 39) hx hb dX15_feed_4 (by decide) (fun c0 => absurd c0 (by decide)) (fun _ => ?_)
  refine lv_aload_n hx hb dX15_feed_7 rfl (lv_at hl 1 rfl) ?_
  refine va_get (D := (dC, dI)) (ci := 15) (v := .ref tq) (C := RX15) (T := TX15) (N := 163) hx hb ht uX15 hown hK hP 0 rfl rfl 52 (by decide) (ht _ k_11_0) (fun _ h9 => h9) K52_F4 dX15_feed_8 ?_
  refine lv_aload_n hx hb dX15_feed_11 rfl (lv_at hl 1 rfl) ?_
  refine va_get (D := (dC, dI)) (ci := 15) (v := .int 17) (C := RX15) (T := TX15) (N := 163) hx hb ht uX15 hown hK hP 0 rfl rfl 53 (by decide) (ht _ k_11_1) (fun _ h9 => h9) K53_F4 dX15_feed_12 ?_
  refine lv_iload_n hx hb dX15_feed_15 rfl (lv_at hl 2 rfl) ?_
  refine lv_iload_n hx hb dX15_feed_16 rfl (lv_at hl 0 rfl) ?_
  refine lv_ishr hx hb dX15_feed_17 ?_
  refine lv_topi (fun x5 ex5 => ?_)
  refine lv_sipush (v := 255) hx hb dX15_feed_18 (by decide) ?_
  refine lv_iand hx hb dX15_feed_21 ?_
  refine lv_topi (fun x6 ex6 => ?_)
  refine va_iast (i := 17) (x := x6) hx hb hK hP hD hS 1 0 rfl rfl (by unfold vp_in; decide) dX15_feed_22 (fun H locs hP hD hS => ?_)
  obtain ⟨f7, ef7⟩ : ∃ g : Nat → Int32, g = upd f3 (17 : Int32).toNatClampNeg x6 := ⟨_, rfl⟩
  rw [← ef7] at hP hD
  have hP : va_P (dC, dI) cls [(q, .inr (15, F4)), (tq, .inl (cT, 2000, .inl f7))] H := hP
  have hD : va_D A [(q, .inr (15, F4)), (tq, .inl (cT, 2000, .inl f7))] := hD
  refine lv_aload_n hx hb dX15_feed_23 rfl (lv_at hl 1 rfl) ?_
  refine lv_dup hx hb dX15_feed_24 rfl ?_
  refine va_get (D := (dC, dI)) (ci := 15) (v := .int 17) (C := RX15) (T := TX15) (N := 163) hx hb ht uX15 hown hK hP 0 rfl rfl 53 (by decide) (ht _ k_11_1) (fun _ h9 => h9) K53_F4 dX15_feed_25 ?_
  refine lv_iconst (v := 1) hx hb dX15_feed_28 (by decide) ?_
  refine lv_iadd hx hb dX15_feed_29 ?_
  refine tk_i (y := 18) (by decide) ?_
  refine va_put (D := (dC, dI)) (ci := 15) (v := .int 18) (ty := .int) (C := RX15) (T := TX15) (N := 163) hx hb ht uX15 tyX15 tkX15 nmX15 hown hK hP hD hS 0 rfl rfl 53 (by decide) (ht _ k_11_1) (fun _ h9 => h9) rfl (by decide +kernel) rfl rfl (by rw [L_F4]; decide) dX15_feed_30 (fun H locs hP hD hS => ?_)
  obtain ⟨F8, eF8⟩ : ∃ g : List Value, g = F4.set 53 (.int 18) := ⟨_, rfl⟩
  rw [← eF8] at hP hD
  have K51_F8 : F8[51]? = some (.int 0) := by rw [eF8, List.getElem?_set_ne (by decide)]; exact K51_F4
  have K52_F8 : F8[52]? = some (.ref tq) := by rw [eF8, List.getElem?_set_ne (by decide)]; exact K52_F4
  have K53_F8 : F8[53]? = some (.int 18) := by rw [eF8]; exact List.getElem?_set_self (by rw [L_F4]; decide)
  have L_F8 : F8.length = 163 := by rw [eF8, List.length_set]; exact L_F4
  have hP : va_P (dC, dI) cls [(q, .inr (15, F8)), (tq, .inl (cT, 2000, .inl f7))] H := hP
  have hD : va_D A [(q, .inr (15, F8)), (tq, .inl (cT, 2000, .inl f7))] := hD
  refine lv_iinc (v := 8) (lv' := [(2, .int 8), (0, .ref q), (1, .int p0)]) hx hb dX15_feed_33 hl (k := 0) rfl (by decide) (by decide) rfl (fun ls hl => ?_)
  refine lv_goto (tgt := 3) hx hb dX15_feed_36 (by decide) ?_
  refine lv_iload_n hx hb dX15_feed_3 rfl (lv_at hl 0 rfl) ?_
  refine lv_if_lt (tgt := 39) hx hb dX15_feed_4 (by decide) (fun c0 => absurd c0 (by decide)) (fun _ => ?_)
  refine lv_aload_n hx hb dX15_feed_7 rfl (lv_at hl 1 rfl) ?_
  refine va_get (D := (dC, dI)) (ci := 15) (v := .ref tq) (C := RX15) (T := TX15) (N := 163) hx hb ht uX15 hown hK hP 0 rfl rfl 52 (by decide) (ht _ k_11_0) (fun _ h9 => h9) K52_F8 dX15_feed_8 ?_
  refine lv_aload_n hx hb dX15_feed_11 rfl (lv_at hl 1 rfl) ?_
  refine va_get (D := (dC, dI)) (ci := 15) (v := .int 18) (C := RX15) (T := TX15) (N := 163) hx hb ht uX15 hown hK hP 0 rfl rfl 53 (by decide) (ht _ k_11_1) (fun _ h9 => h9) K53_F8 dX15_feed_12 ?_
  refine lv_iload_n hx hb dX15_feed_15 rfl (lv_at hl 2 rfl) ?_
  refine lv_iload_n hx hb dX15_feed_16 rfl (lv_at hl 0 rfl) ?_
  refine lv_ishr hx hb dX15_feed_17 ?_
  refine lv_topi (fun x9 ex9 => ?_)
  refine lv_sipush (v := 255) hx hb dX15_feed_18 (by decide) ?_
  refine lv_iand hx hb dX15_feed_21 ?_
  refine lv_topi (fun x10 ex10 => ?_)
  refine va_iast (i := 18) (x := x10) hx hb hK hP hD hS 1 0 rfl rfl (by unfold vp_in; decide) dX15_feed_22 (fun H locs hP hD hS => ?_)
  obtain ⟨f11, ef11⟩ : ∃ g : Nat → Int32, g = upd f7 (18 : Int32).toNatClampNeg x10 := ⟨_, rfl⟩
  rw [← ef11] at hP hD
  have hP : va_P (dC, dI) cls [(q, .inr (15, F8)), (tq, .inl (cT, 2000, .inl f11))] H := hP
  have hD : va_D A [(q, .inr (15, F8)), (tq, .inl (cT, 2000, .inl f11))] := hD
  refine lv_aload_n hx hb dX15_feed_23 rfl (lv_at hl 1 rfl) ?_
  refine lv_dup hx hb dX15_feed_24 rfl ?_
  refine va_get (D := (dC, dI)) (ci := 15) (v := .int 18) (C := RX15) (T := TX15) (N := 163) hx hb ht uX15 hown hK hP 0 rfl rfl 53 (by decide) (ht _ k_11_1) (fun _ h9 => h9) K53_F8 dX15_feed_25 ?_
  refine lv_iconst (v := 1) hx hb dX15_feed_28 (by decide) ?_
  refine lv_iadd hx hb dX15_feed_29 ?_
  refine tk_i (y := 19) (by decide) ?_
  refine va_put (D := (dC, dI)) (ci := 15) (v := .int 19) (ty := .int) (C := RX15) (T := TX15) (N := 163) hx hb ht uX15 tyX15 tkX15 nmX15 hown hK hP hD hS 0 rfl rfl 53 (by decide) (ht _ k_11_1) (fun _ h9 => h9) rfl (by decide +kernel) rfl rfl (by rw [L_F8]; decide) dX15_feed_30 (fun H locs hP hD hS => ?_)
  obtain ⟨F12, eF12⟩ : ∃ g : List Value, g = F8.set 53 (.int 19) := ⟨_, rfl⟩
  rw [← eF12] at hP hD
  have K51_F12 : F12[51]? = some (.int 0) := by rw [eF12, List.getElem?_set_ne (by decide)]; exact K51_F8
  have K52_F12 : F12[52]? = some (.ref tq) := by rw [eF12, List.getElem?_set_ne (by decide)]; exact K52_F8
  have K53_F12 : F12[53]? = some (.int 19) := by rw [eF12]; exact List.getElem?_set_self (by rw [L_F8]; decide)
  have L_F12 : F12.length = 163 := by rw [eF12, List.length_set]; exact L_F8
  have hP : va_P (dC, dI) cls [(q, .inr (15, F12)), (tq, .inl (cT, 2000, .inl f11))] H := hP
  have hD : va_D A [(q, .inr (15, F12)), (tq, .inl (cT, 2000, .inl f11))] := hD
  refine lv_iinc (v := 0) (lv' := [(2, .int 0), (0, .ref q), (1, .int p0)]) hx hb dX15_feed_33 hl (k := 0) rfl (by decide) (by decide) rfl (fun ls hl => ?_)
  refine lv_goto (tgt := 3) hx hb dX15_feed_36 (by decide) ?_
  refine lv_iload_n hx hb dX15_feed_3 rfl (lv_at hl 0 rfl) ?_
  refine lv_if_lt (tgt := 39) hx hb dX15_feed_4 (by decide) (fun c0 => absurd c0 (by decide)) (fun _ => ?_)
  refine lv_aload_n hx hb dX15_feed_7 rfl (lv_at hl 1 rfl) ?_
  refine va_get (D := (dC, dI)) (ci := 15) (v := .ref tq) (C := RX15) (T := TX15) (N := 163) hx hb ht uX15 hown hK hP 0 rfl rfl 52 (by decide) (ht _ k_11_0) (fun _ h9 => h9) K52_F12 dX15_feed_8 ?_
  refine lv_aload_n hx hb dX15_feed_11 rfl (lv_at hl 1 rfl) ?_
  refine va_get (D := (dC, dI)) (ci := 15) (v := .int 19) (C := RX15) (T := TX15) (N := 163) hx hb ht uX15 hown hK hP 0 rfl rfl 53 (by decide) (ht _ k_11_1) (fun _ h9 => h9) K53_F12 dX15_feed_12 ?_
  refine lv_iload_n hx hb dX15_feed_15 rfl (lv_at hl 2 rfl) ?_
  refine lv_iload_n hx hb dX15_feed_16 rfl (lv_at hl 0 rfl) ?_
  refine lv_ishr hx hb dX15_feed_17 ?_
  refine lv_topi (fun x13 ex13 => ?_)
  refine lv_sipush (v := 255) hx hb dX15_feed_18 (by decide) ?_
  refine lv_iand hx hb dX15_feed_21 ?_
  refine lv_topi (fun x14 ex14 => ?_)
  refine va_iast (i := 19) (x := x14) hx hb hK hP hD hS 1 0 rfl rfl (by unfold vp_in; decide) dX15_feed_22 (fun H locs hP hD hS => ?_)
  obtain ⟨f15, ef15⟩ : ∃ g : Nat → Int32, g = upd f11 (19 : Int32).toNatClampNeg x14 := ⟨_, rfl⟩
  rw [← ef15] at hP hD
  have hP : va_P (dC, dI) cls [(q, .inr (15, F12)), (tq, .inl (cT, 2000, .inl f15))] H := hP
  have hD : va_D A [(q, .inr (15, F12)), (tq, .inl (cT, 2000, .inl f15))] := hD
  refine lv_aload_n hx hb dX15_feed_23 rfl (lv_at hl 1 rfl) ?_
  refine lv_dup hx hb dX15_feed_24 rfl ?_
  refine va_get (D := (dC, dI)) (ci := 15) (v := .int 19) (C := RX15) (T := TX15) (N := 163) hx hb ht uX15 hown hK hP 0 rfl rfl 53 (by decide) (ht _ k_11_1) (fun _ h9 => h9) K53_F12 dX15_feed_25 ?_
  refine lv_iconst (v := 1) hx hb dX15_feed_28 (by decide) ?_
  refine lv_iadd hx hb dX15_feed_29 ?_
  refine tk_i (y := 20) (by decide) ?_
  refine va_put (D := (dC, dI)) (ci := 15) (v := .int 20) (ty := .int) (C := RX15) (T := TX15) (N := 163) hx hb ht uX15 tyX15 tkX15 nmX15 hown hK hP hD hS 0 rfl rfl 53 (by decide) (ht _ k_11_1) (fun _ h9 => h9) rfl (by decide +kernel) rfl rfl (by rw [L_F12]; decide) dX15_feed_30 (fun H locs hP hD hS => ?_)
  obtain ⟨F16, eF16⟩ : ∃ g : List Value, g = F12.set 53 (.int 20) := ⟨_, rfl⟩
  rw [← eF16] at hP hD
  have K51_F16 : F16[51]? = some (.int 0) := by rw [eF16, List.getElem?_set_ne (by decide)]; exact K51_F12
  have K52_F16 : F16[52]? = some (.ref tq) := by rw [eF16, List.getElem?_set_ne (by decide)]; exact K52_F12
  have K53_F16 : F16[53]? = some (.int 20) := by rw [eF16]; exact List.getElem?_set_self (by rw [L_F12]; decide)
  have L_F16 : F16.length = 163 := by rw [eF16, List.length_set]; exact L_F12
  have hP : va_P (dC, dI) cls [(q, .inr (15, F16)), (tq, .inl (cT, 2000, .inl f15))] H := hP
  have hD : va_D A [(q, .inr (15, F16)), (tq, .inl (cT, 2000, .inl f15))] := hD
  refine lv_iinc (v := (-8)) (lv' := [(2, .int (-8)), (0, .ref q), (1, .int p0)]) hx hb dX15_feed_33 hl (k := 0) rfl (by decide) (by decide) rfl (fun ls hl => ?_)
  refine lv_goto (tgt := 3) hx hb dX15_feed_36 (by decide) ?_
  refine lv_iload_n hx hb dX15_feed_3 rfl (lv_at hl 0 rfl) ?_
  refine lv_if_lt (tgt := 39) hx hb dX15_feed_4 (by decide) (fun _ => ?_) (fun c0 => absurd c0 (by decide))
  exact W.vret hx hb hr (fun t ht9 hW => ⟨⟨(F16, f15), rfl, ⟨trivial, L_F16, K51_F16, K52_F16, K53_F16⟩, by rw [ht9]; exact hP.sub [0, 1] rfl, va_K.moved hW.alike (hK.sub [0] rfl), hD.sub [0, 1] (by decide) rfl⟩, hS.F ht9⟩) hS.2.2 dX15_feed_39
set_option maxHeartbeats 4000000 in
set_option maxRecDepth 100000 in
theorem r_feed (l : Launch) (dC : Nat → ClassId) (dI : Nat → Nat → Nat) (sz : Nat) (q : Nat) (fs : List Value) (tq : Nat) (cT : ClassId) (ft : Nat → Int32) (p0 : Int32) (p1 : Int32) (p2 : Int32) (p3 : Int32) (p4 : Int32) (L_fs : fs.length = 163) (K52_fs : fs[52]? = some (.ref tq)) (K53_fs : fs[53]? = some (.int 0)) : Met l yX15_feed_ (Cond.code yX15_feed_ cX15_feed_ 6 (some .int) :: tb) ({ frames := 1, cells := 0, slots := 0, locals := 22 }) (pcw [.ref q, .int p0, .int p1, .int p2, .int p3, .int p4] (dC, dI) [(q, .inr (15, fs)), (tq, .inl (cT, 2000, .inl ft))] [(cT, .int)] sz) (va_Qi (fun (r : Int32) => (fun (fs1 : List Value) => (r = 20) ∧ (fs1.length = 163) ∧ (fs1[51]? = some (.int 0)))) (bw (dC, dI) (va_A [(q, .inr (15, fs)), (tq, .inl (cT, 2000, .inl ft))] sz) (fun (fs1 : List Value) => [(q, .inr (15, fs1))]) (fun (fs1 : List Value) => [])) (va_A [(q, .inr (15, fs)), (tq, .inl (cT, 2000, .inl ft))] sz)) 0 0 (va_A [(q, .inr (15, fs)), (tq, .inl (cT, 2000, .inl ft))] sz) := by
  refine Met.ofW (cc := cX15_feed_) (maxL := 6) (ret := (some .int)) (by decide) rfl ?_
  intro p e s m args below meth c s₁ B hml hv
  obtain ⟨rfl, hsz, hP, hK, hD0⟩ := hv
  have hx := B.exec
  have hb := B.bytes
  have hr := B.returns
  have hts := atoms_spec (ws := Cond.code yX15_feed_ cX15_feed_ 6 (some .int) :: tb) B.pre
  have ht : ∀ w ∈ tb, w.before _ s = true := fun w h => hts w (List.mem_cons_of_mem _ h)
  have hown : s.vm.findClass RX15 = some m.cls := findClass_of_methodNamed B.named
  have hlocks := B.notSynchronized
  subst hsz
  have hD := hD0.self (sz := s.heap.size)
  generalize hAe : va_A [(q, .inr (15, fs)), (tq, .inl (cT, 2000, .inl ft))] s.heap.size = A at hD ⊢
  have hA : ∀ q : Nat, s.heap.size ≤ q → A q := fun q h => by rw [← hAe]; exact Or.inr h
  have hS : va_S A s.heap s.heap [] := va_S.rf
  have hl := lv_entry ([.ref q, .int p0, .int p1, .int p2, .int p3, .int p4]) (n := 6) (Nat.le_of_ble_eq_true rfl)
  rw [lg_entry_eq]
  generalize (lg_sl ([.ref q, .int p0, .int p1, .int p2, .int p3, .int p4]) ++ List.replicate (6 - (lg_sl ([.ref q, .int p0, .int p1, .int p2, .int p3, .int p4])).length) Slot.unset).toArray = ls at hl ⊢
  have hl : lv_has ls 6 [(0, .ref q), (1, .int p0), (2, .int p1), (3, .int p2), (4, .int p3), (5, .int p4)] := hl
  have hP : va_P (dC, dI) cls [(q, .inr (15, fs)), (tq, .inl (cT, 2000, .inl ft))] s.heap := hP
  refine lv_aload_n hx hb dX15_feed__0 rfl (lv_at hl 0 rfl) ?_
  refine lv_aload_n hx hb dX15_feed__1 rfl (lv_at hl 0 rfl) ?_
  refine va_get (D := (dC, dI)) (ci := 15) (v := .int 0) (C := RX15) (T := TX15) (N := 163) hx hb ht uX15 hown hK hP 0 rfl rfl 53 (by decide) (ht _ k_11_1) (fun _ h9 => h9) K53_fs dX15_feed__2 ?_
  refine lv_bipush (v := 20) hx hb dX15_feed__5 (by decide) ?_
  refine lv_iadd hx hb dX15_feed__7 ?_
  refine tk_i (y := 20) (by decide) ?_
  refine lv_sipush (v := 2000) hx hb dX15_feed__8 (by decide) ?_
  refine lv_icmp_le (tgt := 18) hx hb dX15_feed__11 (by decide) (fun _ => ?_) (fun c0 => absurd c0 (by decide))
  refine lv_iconst (v := 0) hx hb dX15_feed__18 (by decide) ?_
  refine va_put (D := (dC, dI)) (ci := 15) (v := .int 0) (ty := .int) (C := RX15) (T := TX15) (N := 163) hx hb ht uX15 tyX15 tkX15 nmX15 hown hK hP hD hS 0 rfl rfl 51 (by decide) (ht _ k_10_239) (fun _ h9 => h9) rfl (by decide +kernel) rfl rfl (by rw [L_fs]; decide) dX15_feed__19 (fun H locs hP hD hS => ?_)
  obtain ⟨F1, eF1⟩ : ∃ g : List Value, g = fs.set 51 (.int 0) := ⟨_, rfl⟩
  rw [← eF1] at hP hD
  have K52_F1 : F1[52]? = some (.ref tq) := by rw [eF1, List.getElem?_set_ne (by decide)]; exact K52_fs
  have K53_F1 : F1[53]? = some (.int 0) := by rw [eF1, List.getElem?_set_ne (by decide)]; exact K53_fs
  have K51_F1 : F1[51]? = some (.int 0) := by rw [eF1]; exact List.getElem?_set_self (by rw [L_fs]; decide)
  have L_F1 : F1.length = 163 := by rw [eF1, List.length_set]; exact L_fs
  have hP : va_P (dC, dI) cls [(q, .inr (15, F1)), (tq, .inl (cT, 2000, .inl ft))] H := hP
  have hD : va_D A [(q, .inr (15, F1)), (tq, .inl (cT, 2000, .inl ft))] := hD
  refine lv_aload_n hx hb dX15_feed__22 rfl (lv_at hl 0 rfl) ?_
  refine va_get (D := (dC, dI)) (ci := 15) (v := .int 0) (C := RX15) (T := TX15) (N := 163) hx hb ht uX15 hown hK hP 0 rfl rfl 51 (by decide) (ht _ k_10_239) (fun _ h9 => h9) K51_F1 dX15_feed__23 ?_
  refine lv_if_le (tgt := 31) hx hb dX15_feed__26 (by decide) (fun _ => ?_) (fun c0 => absurd c0 (by decide))
  refine lv_aload_n hx hb dX15_feed__31 rfl (lv_at hl 0 rfl) ?_
  refine lv_iload_n hx hb dX15_feed__32 rfl (lv_at hl 1 rfl) ?_
  refine ca_v (wr := []) (va_runV (As := [.int p0]) (rest := []) ⟨hx, hb, hml, hown, ht⟩ (r_feed1_0 l dC dI H.size q F1 tq cT ft p0 L_F1 K51_F1 K52_F1 K53_F1 ) (cwV 1 ht (gdV k_12_209 k_12_206 k_12_208 ks_111 k_1_17) rfl rfl rfl (by decide +kernel) ⟨Nat.le_of_ble_eq_true rfl, Nat.le_of_ble_eq_true rfl⟩) ⟨pcw_blind, va_recv hK hP (ci := 15) (q0 := 0) rfl rfl, pcw_at hP hD hK [0, 1] [0] (by decide) rfl rfl rfl⟩ rfl rfl hl.1 rfl (lv_room (Nat.le_of_ble_eq_true rfl)) dX15_feed__33 ⟨Nat.le_of_ble_eq_true rfl, Nat.le_of_ble_eq_true rfl⟩) hP hD hK hS hA [0, 1] [] rfl rfl (by decide) (by decide) (fun u H locs w3 hK hP hD hS => ?_)
  obtain ⟨F4, y5⟩ := u
  have hK : va_K (dC, dI) cls [(cT, .int), (cT, .int)] s := hK
  have hP : va_P (dC, dI) cls [(q, .inr (15, F4)), (tq, .inl (cT, 2000, .inl y5))] H := hP
  have hD : va_D A [(q, .inr (15, F4)), (tq, .inl (cT, 2000, .inl y5))] := hD
  obtain ⟨w3, K6, K7, K8, K9⟩ := w3
  refine lv_aload_n hx hb dX15_feed__36 rfl (lv_at hl 0 rfl) ?_
  refine lv_iload_n hx hb dX15_feed__37 rfl (lv_at hl 2 rfl) ?_
  refine ca_v (wr := []) (va_runV (As := [.int p1]) (rest := []) ⟨hx, hb, hml, hown, ht⟩ (r_feed1_4 l dC dI H.size q F4 tq cT y5 p1 K6 K7 K8 K9 ) (cwV 1 ht (gdV k_12_209 k_12_206 k_12_208 ks_111 k_1_17) rfl rfl rfl (by decide +kernel) ⟨Nat.le_of_ble_eq_true rfl, Nat.le_of_ble_eq_true rfl⟩) ⟨pcw_blind, va_recv hK hP (ci := 15) (q0 := 0) rfl rfl, pcw_at hP hD hK [0, 1] [0] (by decide) rfl rfl rfl⟩ rfl rfl hl.1 rfl (lv_room (Nat.le_of_ble_eq_true rfl)) dX15_feed__38 ⟨Nat.le_of_ble_eq_true rfl, Nat.le_of_ble_eq_true rfl⟩) hP hD hK hS hA [0, 1] [] rfl rfl (by decide) (by decide) (fun u H locs w11 hK hP hD hS => ?_)
  obtain ⟨F12, y13⟩ := u
  have hK : va_K (dC, dI) cls [(cT, .int), (cT, .int), (cT, .int)] s := hK
  have hP : va_P (dC, dI) cls [(q, .inr (15, F12)), (tq, .inl (cT, 2000, .inl y13))] H := hP
  have hD : va_D A [(q, .inr (15, F12)), (tq, .inl (cT, 2000, .inl y13))] := hD
  obtain ⟨w11, K14, K15, K16, K17⟩ := w11
  refine lv_aload_n hx hb dX15_feed__41 rfl (lv_at hl 0 rfl) ?_
  refine lv_iload_n hx hb dX15_feed__42 rfl (lv_at hl 3 rfl) ?_
  refine ca_v (wr := []) (va_runV (As := [.int p2]) (rest := []) ⟨hx, hb, hml, hown, ht⟩ (r_feed1_8 l dC dI H.size q F12 tq cT y13 p2 K14 K15 K16 K17 ) (cwV 1 ht (gdV k_12_209 k_12_206 k_12_208 ks_111 k_1_17) rfl rfl rfl (by decide +kernel) ⟨Nat.le_of_ble_eq_true rfl, Nat.le_of_ble_eq_true rfl⟩) ⟨pcw_blind, va_recv hK hP (ci := 15) (q0 := 0) rfl rfl, pcw_at hP hD hK [0, 1] [0] (by decide) rfl rfl rfl⟩ rfl rfl hl.1 rfl (lv_room (Nat.le_of_ble_eq_true rfl)) dX15_feed__43 ⟨Nat.le_of_ble_eq_true rfl, Nat.le_of_ble_eq_true rfl⟩) hP hD hK hS hA [0, 1] [] rfl rfl (by decide) (by decide) (fun u H locs w19 hK hP hD hS => ?_)
  obtain ⟨F20, y21⟩ := u
  have hK : va_K (dC, dI) cls [(cT, .int), (cT, .int), (cT, .int), (cT, .int)] s := hK
  have hP : va_P (dC, dI) cls [(q, .inr (15, F20)), (tq, .inl (cT, 2000, .inl y21))] H := hP
  have hD : va_D A [(q, .inr (15, F20)), (tq, .inl (cT, 2000, .inl y21))] := hD
  obtain ⟨w19, K22, K23, K24, K25⟩ := w19
  refine lv_aload_n hx hb dX15_feed__46 rfl (lv_at hl 0 rfl) ?_
  refine lv_iload hx hb dX15_feed__47 (lv_at hl 4 rfl) ?_
  refine ca_v (wr := []) (va_runV (As := [.int p3]) (rest := []) ⟨hx, hb, hml, hown, ht⟩ (r_feed1_12 l dC dI H.size q F20 tq cT y21 p3 K22 K23 K24 K25 ) (cwV 1 ht (gdV k_12_209 k_12_206 k_12_208 ks_111 k_1_17) rfl rfl rfl (by decide +kernel) ⟨Nat.le_of_ble_eq_true rfl, Nat.le_of_ble_eq_true rfl⟩) ⟨pcw_blind, va_recv hK hP (ci := 15) (q0 := 0) rfl rfl, pcw_at hP hD hK [0, 1] [0] (by decide) rfl rfl rfl⟩ rfl rfl hl.1 rfl (lv_room (Nat.le_of_ble_eq_true rfl)) dX15_feed__49 ⟨Nat.le_of_ble_eq_true rfl, Nat.le_of_ble_eq_true rfl⟩) hP hD hK hS hA [0, 1] [] rfl rfl (by decide) (by decide) (fun u H locs w27 hK hP hD hS => ?_)
  obtain ⟨F28, y29⟩ := u
  have hK : va_K (dC, dI) cls [(cT, .int), (cT, .int), (cT, .int), (cT, .int), (cT, .int)] s := hK
  have hP : va_P (dC, dI) cls [(q, .inr (15, F28)), (tq, .inl (cT, 2000, .inl y29))] H := hP
  have hD : va_D A [(q, .inr (15, F28)), (tq, .inl (cT, 2000, .inl y29))] := hD
  obtain ⟨w27, K30, K31, K32, K33⟩ := w27
  refine lv_aload_n hx hb dX15_feed__52 rfl (lv_at hl 0 rfl) ?_
  refine lv_iload hx hb dX15_feed__53 (lv_at hl 5 rfl) ?_
  refine ca_v (wr := []) (va_runV (As := [.int p4]) (rest := []) ⟨hx, hb, hml, hown, ht⟩ (r_feed1_16 l dC dI H.size q F28 tq cT y29 p4 K30 K31 K32 K33 ) (cwV 1 ht (gdV k_12_209 k_12_206 k_12_208 ks_111 k_1_17) rfl rfl rfl (by decide +kernel) ⟨Nat.le_of_ble_eq_true rfl, Nat.le_of_ble_eq_true rfl⟩) ⟨pcw_blind, va_recv hK hP (ci := 15) (q0 := 0) rfl rfl, pcw_at hP hD hK [0, 1] [0] (by decide) rfl rfl rfl⟩ rfl rfl hl.1 rfl (lv_room (Nat.le_of_ble_eq_true rfl)) dX15_feed__55 ⟨Nat.le_of_ble_eq_true rfl, Nat.le_of_ble_eq_true rfl⟩) hP hD hK hS hA [0, 1] [] rfl rfl (by decide) (by decide) (fun u H locs w35 hK hP hD hS => ?_)
  obtain ⟨F36, y37⟩ := u
  have hK : va_K (dC, dI) cls [(cT, .int), (cT, .int), (cT, .int), (cT, .int), (cT, .int), (cT, .int)] s := hK
  have hP : va_P (dC, dI) cls [(q, .inr (15, F36)), (tq, .inl (cT, 2000, .inl y37))] H := hP
  have hD : va_D A [(q, .inr (15, F36)), (tq, .inl (cT, 2000, .inl y37))] := hD
  obtain ⟨w35, K38, K39, K40, K41⟩ := w35
  refine lv_aload_n hx hb dX15_feed__58 rfl (lv_at hl 0 rfl) ?_
  refine va_get (D := (dC, dI)) (ci := 15) (v := .int 20) (C := RX15) (T := TX15) (N := 163) hx hb ht uX15 hown hK hP 0 rfl rfl 53 (by decide) (ht _ k_11_1) (fun _ h9 => h9) K41 dX15_feed__59 ?_
  exact W.iret (v := 20) hx hb hr (fun t ht9 hW => ⟨⟨20, (F36), rfl, ⟨rfl, K38, K39⟩, by rw [ht9]; exact hP.sub [0] rfl, va_K.moved hW.alike (hK.sub [] rfl), hD.sub [0] (by decide) rfl⟩, hS.F ht9⟩) hS.2.2 dX15_feed__62
def sp_end (p : Int32) : Int32 := if p = 0 then 0 else 1
