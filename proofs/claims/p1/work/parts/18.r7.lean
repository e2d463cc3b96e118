theorem dX15_cheaper_0 : decode cX15_cheaper 0 = .ok (.aload_n 0, 1) := by decide +kernel
theorem dX15_cheaper_1 : decode cX15_cheaper 1 = .ok (.invokevirtual 785, 3) := by decide +kernel
theorem dX15_cheaper_4 : decode cX15_cheaper 4 = .ok (.ifCond .eq 6, 3) := by decide +kernel
theorem dX15_cheaper_10 : decode cX15_cheaper 10 = .ok (.aload_n 0, 1) := by decide +kernel
theorem dX15_cheaper_11 : decode cX15_cheaper 11 = .ok (.invokevirtual 806, 3) := by decide +kernel
theorem dX15_cheaper_14 : decode cX15_cheaper 14 = .ok (.aload_n 0, 1) := by decide +kernel
theorem dX15_cheaper_15 : decode cX15_cheaper 15 = .ok (.iconst 0, 1) := by decide +kernel
theorem dX15_cheaper_16 : decode cX15_cheaper 16 = .ok (.iconst 1, 1) := by decide +kernel
theorem k_14_179 : Jvm.Cond.code ({ cls := "FinderHouseModel", name := "readTerm", desc := "(ZZ)I" } : Jvm.MethodName) prog_14_method_111_code (4 : Nat) (Option.some Jvm.ClassFile.FieldType.int) ∈ tb := tb14 179 (by decide +kernel) (by decide +kernel)
theorem k_14_176 : Jvm.Cond.methodLink "FinderHouseModel" (891 : Nat) ({ cls := "FinderHouseModel", name := "readTerm", desc := "(ZZ)I" } : Jvm.MethodName) ∈ tb := tb14 176 (by decide +kernel) (by decide +kernel)
theorem k_14_178 : Jvm.Cond.instanceMethod ({ cls := "FinderHouseModel", name := "readTerm", desc := "(ZZ)I" } : Jvm.MethodName) ∈ tb := tb14 178 (by decide +kernel) (by decide +kernel)
theorem ks_191 : Jvm.Cond.selects "FinderHouseModel" ({ cls := "FinderHouseModel", name := "readTerm", desc := "(ZZ)I" } : Jvm.MethodName) ({ cls := "FinderHouseModel", name := "readTerm", desc := "(ZZ)I" } : Jvm.MethodName) ∈ tb := tbp 191 (by decide +kernel) (by decide +kernel)
theorem dX15_cheaper_17 : decode cX15_cheaper 17 = .ok (.invokevirtual 891, 3) := by decide +kernel
theorem k_9_235 : Jvm.Cond.classLink "FinderHouseModel" (89 : Nat) "FinderHouseModel$Bad" ∈ tb := tb9 235 (by decide +kernel) (by decide +kernel)
theorem kn_9_237 : Jvm.Cond.castable "FinderHouseModel$Bad" "FinderHouseModel$Bad" ∈ nb := nb_of (List.mem_of_getElem? (i := 2157) (by decide +kernel)) (by decide +kernel)
theorem dX15_cheaper_28 : decode cX15_cheaper 28 = .ok (.astore_n 2, 1) := by decide +kernel
theorem dX15_cheaper_29 : decode cX15_cheaper 29 = .ok (.aload_n 0, 1) := by decide +kernel
theorem dX15_cheaper_30 : decode cX15_cheaper 30 = .ok (.aload_n 2, 1) := by decide +kernel
theorem k_13_169 : Jvm.Cond.code ({ cls := "FinderHouseModel", name := "faulty", desc := "(LFinderHouseModel$Bad;)I" } : Jvm.MethodName) prog_14_method_95_code (2 : Nat) (Option.some Jvm.ClassFile.FieldType.int) ∈ tb := tb13 169 (by decide +kernel) (by decide +kernel)
theorem k_13_166 : Jvm.Cond.methodLink "FinderHouseModel" (815 : Nat) ({ cls := "FinderHouseModel", name := "faulty", desc := "(LFinderHouseModel$Bad;)I" } : Jvm.MethodName) ∈ tb := tb13 166 (by decide +kernel) (by decide +kernel)
theorem k_13_168 : Jvm.Cond.instanceMethod ({ cls := "FinderHouseModel", name := "faulty", desc := "(LFinderHouseModel$Bad;)I" } : Jvm.MethodName) ∈ tb := tb13 168 (by decide +kernel) (by decide +kernel)
theorem ks_145 : Jvm.Cond.selects "FinderHouseModel" ({ cls := "FinderHouseModel", name := "faulty", desc := "(LFinderHouseModel$Bad;)I" } : Jvm.MethodName) ({ cls := "FinderHouseModel", name := "faulty", desc := "(LFinderHouseModel$Bad;)I" } : Jvm.MethodName) ∈ tb := tbp 145 (by decide +kernel) (by decide +kernel)
theorem dX15_cheaper_31 : decode cX15_cheaper 31 = .ok (.invokevirtual 815, 3) := by decide +kernel
theorem dX15_cheaper_34 : decode cX15_cheaper 34 = .ok (.ireturn, 1) := by decide +kernel
theorem dX15_sketch_0 : decode cX15_sketch 0 = .ok (.aload_n 0, 1) := by decide +kernel
theorem dX15_sketch_1 : decode cX15_sketch 1 = .ok (.invokevirtual 785, 3) := by decide +kernel
theorem dX15_sketch_4 : decode cX15_sketch 4 = .ok (.ifCond .eq 6, 3) := by decide +kernel
theorem dX15_sketch_10 : decode cX15_sketch 10 = .ok (.aload_n 0, 1) := by decide +kernel
theorem dX15_sketch_11 : decode cX15_sketch 11 = .ok (.invokevirtual 806, 3) := by decide +kernel
theorem dX15_sketch_14 : decode cX15_sketch 14 = .ok (.aload_n 0, 1) := by decide +kernel
theorem dX15_sketch_15 : decode cX15_sketch 15 = .ok (.iconst 1, 1) := by decide +kernel
theorem dX15_sketch_16 : decode cX15_sketch 16 = .ok (.iconst 1, 1) := by decide +kernel
theorem dX15_sketch_17 : decode cX15_sketch 17 = .ok (.invokevirtual 891, 3) := by decide +kernel
theorem dX15_sketch_69 : decode cX15_sketch 69 = .ok (.astore_n 2, 1) := by decide +kernel
theorem dX15_sketch_70 : decode cX15_sketch 70 = .ok (.aload_n 0, 1) := by decide +kernel
theorem dX15_sketch_71 : decode cX15_sketch 71 = .ok (.aload_n 2, 1) := by decide +kernel
theorem dX15_sketch_72 : decode cX15_sketch 72 = .ok (.invokevirtual 815, 3) := by decide +kernel
theorem dX15_sketch_75 : decode cX15_sketch 75 = .ok (.ireturn, 1) := by decide +kernel
theorem dX15_value_0 : decode cX15_value 0 = .ok (.aload_n 0, 1) := by decide +kernel
theorem dX15_value_1 : decode cX15_value 1 = .ok (.invokevirtual 785, 3) := by decide +kernel
theorem dX15_value_4 : decode cX15_value 4 = .ok (.ifCond .eq 6, 3) := by decide +kernel
theorem dX15_value_10 : decode cX15_value 10 = .ok (.aload_n 0, 1) := by decide +kernel
theorem dX15_value_11 : decode cX15_value 11 = .ok (.invokevirtual 806, 3) := by decide +kernel
theorem dX15_value_14 : decode cX15_value 14 = .ok (.aload_n 0, 1) := by decide +kernel
theorem dX15_value_15 : decode cX15_value 15 = .ok (.iconst 0, 1) := by decide +kernel
theorem dX15_value_16 : decode cX15_value 16 = .ok (.iconst 0, 1) := by decide +kernel
theorem dX15_value_17 : decode cX15_value 17 = .ok (.invokevirtual 891, 3) := by decide +kernel
theorem dX15_value_51 : decode cX15_value 51 = .ok (.astore_n 1, 1) := by decide +kernel
theorem dX15_value_52 : decode cX15_value 52 = .ok (.aload_n 0, 1) := by decide +kernel
theorem dX15_value_53 : decode cX15_value 53 = .ok (.aload_n 1, 1) := by decide +kernel
theorem dX15_value_54 : decode cX15_value 54 = .ok (.invokevirtual 815, 3) := by decide +kernel
theorem dX15_value_57 : decode cX15_value 57 = .ok (.ireturn, 1) := by decide +kernel
theorem dX15_mend_0 : decode cX15_mend 0 = .ok (.aload_n 0, 1) := by decide +kernel
theorem dX15_mend_1 : decode cX15_mend 1 = .ok (.invokevirtual 785, 3) := by decide +kernel
theorem dX15_mend_4 : decode cX15_mend 4 = .ok (.ifCond .eq 6, 3) := by decide +kernel
theorem dX15_mend_10 : decode cX15_mend 10 = .ok (.aload_n 0, 1) := by decide +kernel
theorem dX15_mend_11 : decode cX15_mend 11 = .ok (.invokevirtual 806, 3) := by decide +kernel
theorem dX15_mend_14 : decode cX15_mend 14 = .ok (.iload_n 1, 1) := by decide +kernel
theorem dX15_mend_15 : decode cX15_mend 15 = .ok (.i2l, 1) := by decide +kernel
theorem dX15_mend_16 : decode cX15_mend 16 = .ok (.lconst 1, 1) := by decide +kernel
theorem dX15_mend_17 : decode cX15_mend 17 = .ok (.ldc2_w 788, 3) := by decide +kernel
theorem dX15_mend_20 : decode cX15_mend 20 = .ok (.invokestatic 623, 3) := by decide +kernel
theorem dX15_mend_23 : decode cX15_mend 23 = .ok (.ifCond .ne 5, 3) := by decide +kernel
theorem dX15_mend_28 : decode cX15_mend 28 = .ok (.aload_n 0, 1) := by decide +kernel
theorem dX15_mend_29 : decode cX15_mend 29 = .ok (.iconst 0, 1) := by decide +kernel
theorem dX15_mend_30 : decode cX15_mend 30 = .ok (.iconst 1, 1) := by decide +kernel
theorem dX15_mend_31 : decode cX15_mend 31 = .ok (.invokevirtual 891, 3) := by decide +kernel
theorem dX15_mend_83 : decode cX15_mend 83 = .ok (.astore_n 3, 1) := by decide +kernel
theorem dX15_mend_84 : decode cX15_mend 84 = .ok (.aload_n 0, 1) := by decide +kernel
theorem dX15_mend_85 : decode cX15_mend 85 = .ok (.aload_n 3, 1) := by decide +kernel
theorem dX15_mend_86 : decode cX15_mend 86 = .ok (.invokevirtual 815, 3) := by decide +kernel
theorem dX15_mend_89 : decode cX15_mend 89 = .ok (.ireturn, 1) := by decide +kernel
theorem dX15_mend_26 : decode cX15_mend 26 = .ok (.iconst (-1), 1) := by decide +kernel
theorem dX15_mend_27 : decode cX15_mend 27 = .ok (.ireturn, 1) := by decide +kernel
theorem dX15_keeps_0 : decode cX15_keeps 0 = .ok (.aload_n 0, 1) := by decide +kernel
theorem dX15_keeps_1 : decode cX15_keeps 1 = .ok (.invokevirtual 785, 3) := by decide +kernel
theorem dX15_keeps_4 : decode cX15_keeps 4 = .ok (.ifCond .eq 6, 3) := by decide +kernel
theorem dX15_keeps_10 : decode cX15_keeps 10 = .ok (.aload_n 0, 1) := by decide +kernel
theorem dX15_keeps_11 : decode cX15_keeps 11 = .ok (.invokevirtual 806, 3) := by decide +kernel
theorem dX15_keeps_14 : decode cX15_keeps 14 = .ok (.aload_n 0, 1) := by decide +kernel
theorem dX15_keeps_15 : decode cX15_keeps 15 = .ok (.invokevirtual 809, 3) := by decide +kernel
theorem dX15_keeps_18 : decode cX15_keeps 18 = .ok (.aload_n 0, 1) := by decide +kernel
theorem dX15_keeps_19 : decode cX15_keeps 19 = .ok (.sipush 4400, 3) := by decide +kernel
theorem dX15_keeps_22 : decode cX15_keeps 22 = .ok (.putfield 349, 3) := by decide +kernel
theorem dX15_keeps_25 : decode cX15_keeps 25 = .ok (.aload_n 0, 1) := by decide +kernel
theorem dX15_keeps_26 : decode cX15_keeps 26 = .ok (.iconst 0, 1) := by decide +kernel
theorem dX15_keeps_27 : decode cX15_keeps 27 = .ok (.iconst 0, 1) := by decide +kernel
theorem dX15_keeps_28 : decode cX15_keeps 28 = .ok (.invokevirtual 493, 3) := by decide +kernel
theorem dX15_keeps_103 : decode cX15_keeps 103 = .ok (.astore_n 2, 1) := by decide +kernel
theorem dX15_keeps_104 : decode cX15_keeps 104 = .ok (.aload_n 0, 1) := by decide +kernel
theorem dX15_keeps_105 : decode cX15_keeps 105 = .ok (.aload_n 2, 1) := by decide +kernel
theorem dX15_keeps_106 : decode cX15_keeps 106 = .ok (.invokevirtual 815, 3) := by decide +kernel
theorem dX15_keeps_109 : decode cX15_keeps 109 = .ok (.ireturn, 1) := by decide +kernel
theorem dX15_readAsk_0 : decode cX15_readAsk 0 = .ok (.aload_n 0, 1) := by decide +kernel
theorem dX15_readAsk_1 : decode cX15_readAsk 1 = .ok (.aload_n 1, 1) := by decide +kernel
theorem k_10_33 : Jvm.Cond.fieldLink "FinderHouseModel" (543 : Nat) "FinderHouseModel$Ask" "at" "I" ∈ tb := tb10 33 (by decide +kernel) (by decide +kernel)
theorem dX15_readAsk_2 : decode cX15_readAsk 2 = .ok (.getfield 543, 3) := by decide +kernel
theorem dX15_readAsk_5 : decode cX15_readAsk 5 = .ok (.putfield 349, 3) := by decide +kernel
theorem dX15_readAsk_8 : decode cX15_readAsk 8 = .ok (.aload_n 0, 1) := by decide +kernel
theorem k_13_31 : Jvm.Cond.fieldLink "FinderHouseModel" (544 : Nat) "FinderHouseModel" "FIND" "J" ∈ tb := tb13 31 (by decide +kernel) (by decide +kernel)
theorem dX15_readAsk_9 : decode cX15_readAsk 9 = .ok (.getstatic 544, 3) := by decide +kernel
theorem k_13_36 : Jvm.Cond.code ({ cls := "FinderHouseModel", name := "passName", desc := "(J)V" } : Jvm.MethodName) prog_14_method_39_code (3 : Nat) (Option.none : Option Jvm.ClassFile.FieldType) ∈ tb := tb13 36 (by decide +kernel) (by decide +kernel)
theorem k_13_33 : Jvm.Cond.methodLink "FinderHouseModel" (547 : Nat) ({ cls := "FinderHouseModel", name := "passName", desc := "(J)V" } : Jvm.MethodName) ∈ tb := tb13 33 (by decide +kernel) (by decide +kernel)
theorem k_13_35 : Jvm.Cond.instanceMethod ({ cls := "FinderHouseModel", name := "passName", desc := "(J)V" } : Jvm.MethodName) ∈ tb := tb13 35 (by decide +kernel) (by decide +kernel)
theorem ks_120 : Jvm.Cond.selects "FinderHouseModel" ({ cls := "FinderHouseModel", name := "passName", desc := "(J)V" } : Jvm.MethodName) ({ cls := "FinderHouseModel", name := "passName", desc := "(J)V" } : Jvm.MethodName) ∈ tb := tbp 120 (by decide +kernel) (by decide +kernel)
theorem dX15_readAsk_12 : decode cX15_readAsk 12 = .ok (.invokevirtual 547, 3) := by decide +kernel
theorem dX15_ask_0 : decode cX15_ask 0 = .ok (.aload_n 0, 1) := by decide +kernel
theorem dX15_ask_1 : decode cX15_ask 1 = .ok (.invokevirtual 785, 3) := by decide +kernel
theorem dX15_ask_4 : decode cX15_ask 4 = .ok (.ifCond .eq 6, 3) := by decide +kernel
theorem dX15_ask_10 : decode cX15_ask 10 = .ok (.aload_n 0, 1) := by decide +kernel
theorem dX15_ask_11 : decode cX15_ask 11 = .ok (.invokevirtual 806, 3) := by decide +kernel
theorem dX15_ask_14 : decode cX15_ask 14 = .ok (.aload_n 0, 1) := by decide +kernel
theorem dX15_ask_15 : decode cX15_ask 15 = .ok (.getfield 404, 3) := by decide +kernel
theorem dX15_ask_18 : decode cX15_ask 18 = .ok (.aload_n 0, 1) := by decide +kernel
theorem k_10_224 : Jvm.Cond.fieldLink "FinderHouseModel" (110 : Nat) "FinderHouseModel" "first" "LFinderHouseModel$Ask;" ∈ tb := tb10 224 (by decide +kernel) (by decide +kernel)
theorem dX15_ask_19 : decode cX15_ask 19 = .ok (.getfield 110, 3) := by decide +kernel
theorem dX15_ask_22 : decode cX15_ask 22 = .ok (.if_acmp .ne 10, 3) := by decide +kernel
theorem dX15_ask_32 : decode cX15_ask 32 = .ok (.aload_n 0, 1) := by decide +kernel
theorem dX15_ask_33 : decode cX15_ask 33 = .ok (.getfield 110, 3) := by decide +kernel
theorem dX15_ask_36 : decode cX15_ask 36 = .ok (.astore_n 1, 1) := by decide +kernel
theorem dX15_ask_37 : decode cX15_ask 37 = .ok (.aload_n 0, 1) := by decide +kernel
theorem dX15_ask_38 : decode cX15_ask 38 = .ok (.invokevirtual 809, 3) := by decide +kernel
theorem dX15_ask_41 : decode cX15_ask 41 = .ok (.aload_n 0, 1) := by decide +kernel
theorem dX15_ask_42 : decode cX15_ask 42 = .ok (.aload_n 1, 1) := by decide +kernel
theorem k_13_30 : Jvm.Cond.code ({ cls := "FinderHouseModel", name := "readAsk", desc := "(LFinderHouseModel$Ask;)V" } : Jvm.MethodName) prog_14_method_55_code (5 : Nat) (Option.none : Option Jvm.ClassFile.FieldType) ∈ tb := tb13 30 (by decide +kernel) (by decide +kernel)
theorem k_13_27 : Jvm.Cond.methodLink "FinderHouseModel" (812 : Nat) ({ cls := "FinderHouseModel", name := "readAsk", desc := "(LFinderHouseModel$Ask;)V" } : Jvm.MethodName) ∈ tb := tb13 27 (by decide +kernel) (by decide +kernel)
theorem k_13_29 : Jvm.Cond.instanceMethod ({ cls := "FinderHouseModel", name := "readAsk", desc := "(LFinderHouseModel$Ask;)V" } : Jvm.MethodName) ∈ tb := tb13 29 (by decide +kernel) (by decide +kernel)
theorem ks_119 : Jvm.Cond.selects "FinderHouseModel" ({ cls := "FinderHouseModel", name := "readAsk", desc := "(LFinderHouseModel$Ask;)V" } : Jvm.MethodName) ({ cls := "FinderHouseModel", name := "readAsk", desc := "(LFinderHouseModel$Ask;)V" } : Jvm.MethodName) ∈ tb := tbp 119 (by decide +kernel) (by decide +kernel)
theorem dX15_ask_43 : decode cX15_ask 43 = .ok (.invokevirtual 812, 3) := by decide +kernel
theorem dX15_ask_56 : decode cX15_ask 56 = .ok (.astore_n 2, 1) := by decide +kernel
theorem dX15_ask_57 : decode cX15_ask 57 = .ok (.aload_n 0, 1) := by decide +kernel
theorem dX15_ask_58 : decode cX15_ask 58 = .ok (.aload_n 2, 1) := by decide +kernel
theorem dX15_ask_59 : decode cX15_ask 59 = .ok (.invokevirtual 815, 3) := by decide +kernel
theorem dX15_ask_62 : decode cX15_ask 62 = .ok (.ireturn, 1) := by decide +kernel
theorem dX15_readAct_0 : decode cX15_readAct 0 = .ok (.aload_n 0, 1) := by decide +kernel
theorem dX15_readAct_1 : decode cX15_readAct 1 = .ok (.invokevirtual 809, 3) := by decide +kernel
theorem dX15_readAct_4 : decode cX15_readAct 4 = .ok (.aload_n 0, 1) := by decide +kernel
theorem dX15_readAct_5 : decode cX15_readAct 5 = .ok (.sipush 4400, 3) := by decide +kernel
theorem dX15_readAct_8 : decode cX15_readAct 8 = .ok (.putfield 349, 3) := by decide +kernel
theorem dX15_readAct_11 : decode cX15_readAct 11 = .ok (.aload_n 0, 1) := by decide +kernel
theorem k_13_178 : Jvm.Cond.fieldLink "FinderHouseModel" (831 : Nat) "FinderHouseModel" "ACT" "J" ∈ tb := tb13 178 (by decide +kernel) (by decide +kernel)
theorem dX15_readAct_12 : decode cX15_readAct 12 = .ok (.getstatic 831, 3) := by decide +kernel
theorem dX15_readAct_15 : decode cX15_readAct 15 = .ok (.invokevirtual 547, 3) := by decide +kernel
theorem dX15_act_0 : decode cX15_act 0 = .ok (.aload_n 0, 1) := by decide +kernel
theorem dX15_act_1 : decode cX15_act 1 = .ok (.invokevirtual 785, 3) := by decide +kernel
theorem dX15_act_4 : decode cX15_act 4 = .ok (.ifCond .eq 6, 3) := by decide +kernel
theorem dX15_act_10 : decode cX15_act 10 = .ok (.aload_n 0, 1) := by decide +kernel
theorem dX15_act_11 : decode cX15_act 11 = .ok (.invokevirtual 806, 3) := by decide +kernel
theorem dX15_act_14 : decode cX15_act 14 = .ok (.aload_n 0, 1) := by decide +kernel
theorem k_13_177 : Jvm.Cond.code ({ cls := "FinderHouseModel", name := "readAct", desc := "()V" } : Jvm.MethodName) prog_14_method_100_code (3 : Nat) (Option.none : Option Jvm.ClassFile.FieldType) ∈ tb := tb13 177 (by decide +kernel) (by decide +kernel)
theorem k_13_174 : Jvm.Cond.methodLink "FinderHouseModel" (853 : Nat) ({ cls := "FinderHouseModel", name := "readAct", desc := "()V" } : Jvm.MethodName) ∈ tb := tb13 174 (by decide +kernel) (by decide +kernel)
theorem k_13_176 : Jvm.Cond.instanceMethod ({ cls := "FinderHouseModel", name := "readAct", desc := "()V" } : Jvm.MethodName) ∈ tb := tb13 176 (by decide +kernel) (by decide +kernel)
theorem ks_146 : Jvm.Cond.selects "FinderHouseModel" ({ cls := "FinderHouseModel", name := "readAct", desc := "()V" } : Jvm.MethodName) ({ cls := "FinderHouseModel", name := "readAct", desc := "()V" } : Jvm.MethodName) ∈ tb := tbp 146 (by decide +kernel) (by decide +kernel)
theorem dX15_act_15 : decode cX15_act 15 = .ok (.invokevirtual 853, 3) := by decide +kernel
theorem dX15_act_21 : decode cX15_act 21 = .ok (.astore_n 1, 1) := by decide +kernel
theorem dX15_act_22 : decode cX15_act 22 = .ok (.aload_n 0, 1) := by decide +kernel
theorem dX15_act_23 : decode cX15_act 23 = .ok (.aload_n 1, 1) := by decide +kernel
theorem dX15_act_24 : decode cX15_act 24 = .ok (.invokevirtual 815, 3) := by decide +kernel
theorem dX15_act_27 : decode cX15_act 27 = .ok (.ireturn, 1) := by decide +kernel
theorem dX15_readLoop_0 : decode cX15_readLoop 0 = .ok (.aload_n 0, 1) := by decide +kernel
theorem dX15_readLoop_1 : decode cX15_readLoop 1 = .ok (.invokevirtual 809, 3) := by decide +kernel
theorem dX15_readLoop_4 : decode cX15_readLoop 4 = .ok (.aload_n 0, 1) := by decide +kernel
theorem dX15_readLoop_5 : decode cX15_readLoop 5 = .ok (.aload_n 1, 1) := by decide +kernel
theorem k_10_146 : Jvm.Cond.fieldLink "FinderHouseModel" (980 : Nat) "FinderHouseModel$Loop" "at" "I" ∈ tb := tb10 146 (by decide +kernel) (by decide +kernel)
theorem dX15_readLoop_6 : decode cX15_readLoop 6 = .ok (.getfield 980, 3) := by decide +kernel
theorem dX15_readLoop_9 : decode cX15_readLoop 9 = .ok (.putfield 349, 3) := by decide +kernel
theorem dX15_readLoop_12 : decode cX15_readLoop 12 = .ok (.aload_n 0, 1) := by decide +kernel
theorem k_15_68 : Jvm.Cond.fieldLink "FinderHouseModel" (981 : Nat) "FinderHouseModel" "LOOP" "J" ∈ tb := tb15 68 (by decide +kernel) (by decide +kernel)
theorem dX15_readLoop_13 : decode cX15_readLoop 13 = .ok (.getstatic 981, 3) := by decide +kernel
theorem dX15_readLoop_16 : decode cX15_readLoop 16 = .ok (.invokevirtual 547, 3) := by decide +kernel
theorem dX15_loop_0 : decode cX15_loop 0 = .ok (.aload_n 0, 1) := by decide +kernel
theorem dX15_loop_1 : decode cX15_loop 1 = .ok (.invokevirtual 785, 3) := by decide +kernel
theorem dX15_loop_4 : decode cX15_loop 4 = .ok (.ifCond .eq 6, 3) := by decide +kernel
theorem dX15_loop_10 : decode cX15_loop 10 = .ok (.aload_n 0, 1) := by decide +kernel
theorem dX15_loop_11 : decode cX15_loop 11 = .ok (.invokevirtual 806, 3) := by decide +kernel
theorem dX15_loop_14 : decode cX15_loop 14 = .ok (.aload_n 0, 1) := by decide +kernel
theorem dX15_loop_15 : decode cX15_loop 15 = .ok (.getfield 1052, 3) := by decide +kernel
theorem dX15_loop_18 : decode cX15_loop 18 = .ok (.aload_n 0, 1) := by decide +kernel
theorem k_11_38 : Jvm.Cond.fieldLink "FinderHouseModel" (202 : Nat) "FinderHouseModel" "one" "LFinderHouseModel$Loop;" ∈ tb := tb11 38 (by decide +kernel) (by decide +kernel)
theorem dX15_loop_19 : decode cX15_loop 19 = .ok (.getfield 202, 3) := by decide +kernel
theorem dX15_loop_22 : decode cX15_loop 22 = .ok (.if_acmp .ne 10, 3) := by decide +kernel
theorem dX15_loop_32 : decode cX15_loop 32 = .ok (.aload_n 0, 1) := by decide +kernel
theorem dX15_loop_33 : decode cX15_loop 33 = .ok (.getfield 202, 3) := by decide +kernel
theorem dX15_loop_36 : decode cX15_loop 36 = .ok (.astore_n 1, 1) := by decide +kernel
theorem dX15_loop_37 : decode cX15_loop 37 = .ok (.aload_n 0, 1) := by decide +kernel
theorem dX15_loop_38 : decode cX15_loop 38 = .ok (.aload_n 1, 1) := by decide +kernel
theorem k_15_67 : Jvm.Cond.code ({ cls := "FinderHouseModel", name := "readLoop", desc := "(LFinderHouseModel$Loop;)V" } : Jvm.MethodName) prog_14_method_141_code (8 : Nat) (Option.none : Option Jvm.ClassFile.FieldType) ∈ tb := tb15 67 (by decide +kernel) (by decide +kernel)
theorem k_15_64 : Jvm.Cond.methodLink "FinderHouseModel" (1070 : Nat) ({ cls := "FinderHouseModel", name := "readLoop", desc := "(LFinderHouseModel$Loop;)V" } : Jvm.MethodName) ∈ tb := tb15 64 (by decide +kernel) (by decide +kernel)
theorem k_15_66 : Jvm.Cond.instanceMethod ({ cls := "FinderHouseModel", name := "readLoop", desc := "(LFinderHouseModel$Loop;)V" } : Jvm.MethodName) ∈ tb := tb15 66 (by decide +kernel) (by decide +kernel)
theorem ks_209 : Jvm.Cond.selects "FinderHouseModel" ({ cls := "FinderHouseModel", name := "readLoop", desc := "(LFinderHouseModel$Loop;)V" } : Jvm.MethodName) ({ cls := "FinderHouseModel", name := "readLoop", desc := "(LFinderHouseModel$Loop;)V" } : Jvm.MethodName) ∈ tb := tbp 209 (by decide +kernel) (by decide +kernel)
theorem dX15_loop_39 : decode cX15_loop 39 = .ok (.invokevirtual 1070, 3) := by decide +kernel
theorem dX15_loop_50 : decode cX15_loop 50 = .ok (.astore_n 2, 1) := by decide +kernel
theorem dX15_loop_51 : decode cX15_loop 51 = .ok (.aload_n 0, 1) := by decide +kernel
theorem dX15_loop_52 : decode cX15_loop 52 = .ok (.aload_n 2, 1) := by decide +kernel
theorem dX15_loop_53 : decode cX15_loop 53 = .ok (.invokevirtual 815, 3) := by decide +kernel
theorem dX15_loop_56 : decode cX15_loop 56 = .ok (.ireturn, 1) := by decide +kernel
set_option maxHeartbeats 4000000 in
set_option maxRecDepth 100000 in
theorem r_takeTape_rd (l : Launch) (dC : Nat → ClassId) (dI : Nat → Nat → Nat) (sz : Nat) (q : Nat) (fs : List Value) (bd : Nat) (L_fs : fs.length = 163) (K23_fs : fs[23]? = some (.ref bd)) (K53_fs : fs[53]? = some (.int 0)) : Met l yX15_takeTape (Cond.code yX15_takeTape cX15_takeTape 2 none :: tb) ({ frames := 0, cells := 0, slots := 0, locals := 0 }) (pcw [.ref q] (dC, dI) [(q, .inr (15, fs))] [] sz) (va_Qv (fun (fs1 : List Value) => (True) ∧ (fs1.length = 163) ∧ (fs1[23]? = some (.ref bd)) ∧ (fs1[25]? = some (.int 0)) ∧ (fs1[51]? = some (.int 0)) ∧ (fs1[53]? = some (.int 0))) (bw (dC, dI) (va_A [(q, .inr (15, fs))] sz) (fun (fs1 : List Value) => [(q, .inr (15, fs1))]) (fun (fs1 : List Value) => [])) (va_A [(q, .inr (15, fs))] sz)) 0 0 (va_A [(q, .inr (15, fs))] sz) := by
  refine Met.ofW (cc := cX15_takeTape) (maxL := 2) (ret := none) (by decide) rfl ?_
  intro p e s m args below meth c s₁ B hml hv
  obtain ⟨rfl, hsz, hP, hK, hD0⟩ := hv
  have hx := B.exec
  have hb := B.bytes
  have hr := B.returns
  have hts := atoms_spec (ws := Cond.code yX15_takeTape cX15_takeTape 2 none :: tb) B.pre
  have ht : ∀ w ∈ tb, w.before _ s = true := fun w h => hts w (List.mem_cons_of_mem _ h)
  have hown : s.vm.findClass RX15 = some m.cls := findClass_of_methodNamed B.named
  have hlocks := B.notSynchronized
  subst hsz
  have hD := hD0.self (sz := s.heap.size)
  generalize hAe : va_A [(q, .inr (15, fs))] s.heap.size = A at hD ⊢
  have hA : ∀ q : Nat, s.heap.size ≤ q → A q := fun q h => by rw [← hAe]; exact Or.inr h
  have hS : va_S A s.heap s.heap [] := va_S.rf
  have hl := lv_entry ([.ref q]) (n := 2) (Nat.le_of_ble_eq_true rfl)
  rw [lg_entry_eq]
  generalize (lg_sl ([.ref q]) ++ List.replicate (2 - (lg_sl ([.ref q])).length) Slot.unset).toArray = ls at hl ⊢
  have hl : lv_has ls 2 [(0, .ref q)] := hl
  have hP : va_P (dC, dI) cls [(q, .inr (15, fs))] s.heap := hP
  refine lv_aload_n hx hb dX15_takeTape_0 rfl (lv_at hl 0 rfl) ?_
  refine lv_iconst (v := 0) hx hb dX15_takeTape_1 (by decide) ?_
  refine va_put (D := (dC, dI)) (ci := 15) (v := .int 0) (ty := .int) (C := RX15) (T := TX15) (N := 163) hx hb ht uX15 tyX15 tkX15 nmX15 hown hK hP hD hS 0 rfl rfl 51 (by decide) (ht _ k_10_239) (fun _ h9 => h9) rfl (by decide +kernel) rfl rfl (by rw [L_fs]; decide) dX15_takeTape_2 (fun H locs hP hD hS => ?_)
  obtain ⟨F_1, eF_1⟩ : ∃ g : List Value, g = fs.set 51 (.int 0) := ⟨_, rfl⟩
  rw [← eF_1] at hP hD
  have K23_F_1 : F_1[23]? = some (.ref bd) := by rw [eF_1, List.getElem?_set_ne (by decide)]; exact K23_fs
  have K53_F_1 : F_1[53]? = some (.int 0) := by rw [eF_1, List.getElem?_set_ne (by decide)]; exact K53_fs
  have K51_F_1 : F_1[51]? = some (.int 0) := by rw [eF_1]; exact List.getElem?_set_self (by rw [L_fs]; decide)
  have L_F_1 : F_1.length = 163 := by rw [eF_1, List.length_set]; exact L_fs
  have hP : va_P (dC, dI) cls [(q, .inr (15, F_1))] H := hP
  have hD : va_D A [(q, .inr (15, F_1))] := hD
  refine lv_iconst (v := 0) hx hb dX15_takeTape_5 (by decide) ?_
  refine lv_istore_n (lv' := [(1, .int 0), (0, .ref q)]) hx hb dX15_takeTape_6 rfl hl (by decide) rfl (fun ls hl => ?_)
  refine lv_iload_n hx hb dX15_takeTape_7 rfl (lv_at hl 0 rfl) ?_
  refine lv_aload_n hx hb dX15_takeTape_8 rfl (lv_at hl 1 rfl) ?_
  refine va_get (D := (dC, dI)) (ci := 15) (v := .int 0) (C := RX15) (T := TX15) (N := 163) hx hb ht uX15 hown hK hP 0 rfl rfl 53 (by decide) (ht _ k_11_1) (fun _ h9 => h9) K53_F_1 dX15_takeTape_9 ?_
  refine lv_icmp_ge (tgt := 33) hx hb dX15_takeTape_12 (by decide) (fun _ => ?_) (fun c0 => absurd c0 (by decide))
  refine lv_aload_n hx hb dX15_takeTape_33 rfl (lv_at hl 1 rfl) ?_
  refine lv_aload_n hx hb dX15_takeTape_34 rfl (lv_at hl 1 rfl) ?_
  refine va_get (D := (dC, dI)) (ci := 15) (v := .int 0) (C := RX15) (T := TX15) (N := 163) hx hb ht uX15 hown hK hP 0 rfl rfl 53 (by decide) (ht _ k_11_1) (fun _ h9 => h9) K53_F_1 dX15_takeTape_35 ?_
  refine va_put (D := (dC, dI)) (ci := 15) (v := .int 0) (ty := .int) (C := RX15) (T := TX15) (N := 163) hx hb ht uX15 tyX15 tkX15 nmX15 hown hK hP hD hS 0 rfl rfl 25 (by decide) (ht _ k_10_213) (fun _ h9 => h9) rfl (by decide +kernel) rfl rfl (by rw [L_F_1]; decide) dX15_takeTape_38 (fun H locs hP hD hS => ?_)
  obtain ⟨F_2, eF_2⟩ : ∃ g : List Value, g = F_1.set 25 (.int 0) := ⟨_, rfl⟩
  rw [← eF_2] at hP hD
  have K23_F_2 : F_2[23]? = some (.ref bd) := by rw [eF_2, List.getElem?_set_ne (by decide)]; exact K23_F_1
  have K51_F_2 : F_2[51]? = some (.int 0) := by rw [eF_2, List.getElem?_set_ne (by decide)]; exact K51_F_1
  have K53_F_2 : F_2[53]? = some (.int 0) := by rw [eF_2, List.getElem?_set_ne (by decide)]; exact K53_F_1
  have K25_F_2 : F_2[25]? = some (.int 0) := by rw [eF_2]; exact List.getElem?_set_self (by rw [L_F_1]; decide)
  have L_F_2 : F_2.length = 163 := by rw [eF_2, List.length_set]; exact L_F_1
  have hP : va_P (dC, dI) cls [(q, .inr (15, F_2))] H := hP
  have hD : va_D A [(q, .inr (15, F_2))] := hD
  refine lv_aload_n hx hb dX15_takeTape_41 rfl (lv_at hl 1 rfl) ?_
  refine lv_iconst (v := 0) hx hb dX15_takeTape_42 (by decide) ?_
  refine va_put (D := (dC, dI)) (ci := 15) (v := .int 0) (ty := .int) (C := RX15) (T := TX15) (N := 163) hx hb ht uX15 tyX15 tkX15 nmX15 hown hK hP hD hS 0 rfl rfl 53 (by decide) (ht _ k_11_1) (fun _ h9 => h9) rfl (by decide +kernel) rfl rfl (by rw [L_F_2]; decide) dX15_takeTape_43 (fun H locs hP hD hS => ?_)
  obtain ⟨F_3, eF_3⟩ : ∃ g : List Value, g = F_2.set 53 (.int 0) := ⟨_, rfl⟩
  rw [← eF_3] at hP hD
  have K23_F_3 : F_3[23]? = some (.ref bd) := by rw [eF_3, List.getElem?_set_ne (by decide)]; exact K23_F_2
  have K25_F_3 : F_3[25]? = some (.int 0) := by rw [eF_3, List.getElem?_set_ne (by decide)]; exact K25_F_2
  have K51_F_3 : F_3[51]? = some (.int 0) := by rw [eF_3, List.getElem?_set_ne (by decide)]; exact K51_F_2
  have K53_F_3 : F_3[53]? = some (.int 0) := by rw [eF_3]; exact List.getElem?_set_self (by rw [L_F_2]; decide)
  have L_F_3 : F_3.length = 163 := by rw [eF_3, List.length_set]; exact L_F_2
  have hP : va_P (dC, dI) cls [(q, .inr (15, F_3))] H := hP
  have hD : va_D A [(q, .inr (15, F_3))] := hD
  exact W.vret hx hb hr (fun t ht9 hW => ⟨⟨(F_3), rfl, ⟨trivial, L_F_3, K23_F_3, K25_F_3, K51_F_3, K53_F_3⟩, by rw [ht9]; exact hP.sub [0] rfl, va_K.moved hW.alike (hK.sub [] rfl), hD.sub [0] (by decide) rfl⟩, hS.F ht9⟩) hS.2.2 dX15_takeTape_46
set_option maxHeartbeats 4000000 in
set_option maxRecDepth 100000 in
theorem r_isDown_rd (l : Launch) (dC : Nat → ClassId) (dI : Nat → Nat → Nat) (sz : Nat) (q : Nat) (fs : List Value) (bd : Nat) (L_fs : fs.length = 163) (K23_fs : fs[23]? = some (.ref bd)) (K53_fs : fs[53]? = some (.int 0)) (K54_fs : fs[54]? = some (.int 0)) : Met l yX15_isDown (Cond.code yX15_isDown cX15_isDown 1 (some .boolean) :: tb) ({ frames := 0, cells := 0, slots := 0, locals := 0 }) (pcw [.ref q] (dC, dI) [(q, .inr (15, fs))] [] sz) (va_Qi (fun (r : Int32) => (fun (fs1 : List Value) => (r = 0) ∧ (fs1.length = 163) ∧ (fs1[23]? = some (.ref bd)) ∧ (fs1[51]? = some (.int 0)) ∧ (fs1[53]? = some (.int 0)) ∧ (fs1[54]? = some (.int 0)))) (bw (dC, dI) (va_A [(q, .inr (15, fs))] sz) (fun (fs1 : List Value) => [(q, .inr (15, fs1))]) (fun (fs1 : List Value) => [])) (va_A [(q, .inr (15, fs))] sz)) 0 0 (va_A [(q, .inr (15, fs))] sz) := by
  refine Met.ofW (cc := cX15_isDown) (maxL := 1) (ret := (some .boolean)) (by decide) rfl ?_
  intro p e s m args below meth c s₁ B hml hv
  obtain ⟨rfl, hsz, hP, hK, hD0⟩ := hv
  have hx := B.exec
  have hb := B.bytes
  have hr := B.returns
  have hts := atoms_spec (ws := Cond.code yX15_isDown cX15_isDown 1 (some .boolean) :: tb) B.pre
  have ht : ∀ w ∈ tb, w.before _ s = true := fun w h => hts w (List.mem_cons_of_mem _ h)
  have hown : s.vm.findClass RX15 = some m.cls := findClass_of_methodNamed B.named
  have hlocks := B.notSynchronized
  subst hsz
  have hD := hD0.self (sz := s.heap.size)
  generalize hAe : va_A [(q, .inr (15, fs))] s.heap.size = A at hD ⊢
  have hA : ∀ q : Nat, s.heap.size ≤ q → A q := fun q h => by rw [← hAe]; exact Or.inr h
  have hS : va_S A s.heap s.heap [] := va_S.rf
  have hl := lv_entry ([.ref q]) (n := 1) (Nat.le_of_ble_eq_true rfl)
  rw [lg_entry_eq]
  generalize (lg_sl ([.ref q]) ++ List.replicate (1 - (lg_sl ([.ref q])).length) Slot.unset).toArray = ls at hl ⊢
  have hl : lv_has ls 1 [(0, .ref q)] := hl
  have hP : va_P (dC, dI) cls [(q, .inr (15, fs))] s.heap := hP
  refine lv_aload_n hx hb dX15_isDown_0 rfl (lv_at hl 0 rfl) ?_
  refine lv_iconst (v := 0) hx hb dX15_isDown_1 (by decide) ?_
  refine va_put (D := (dC, dI)) (ci := 15) (v := .int 0) (ty := .int) (C := RX15) (T := TX15) (N := 163) hx hb ht uX15 tyX15 tkX15 nmX15 hown hK hP hD hS 0 rfl rfl 51 (by decide) (ht _ k_10_239) (fun _ h9 => h9) rfl (by decide +kernel) rfl rfl (by rw [L_fs]; decide) dX15_isDown_2 (fun H locs hP hD hS => ?_)
  obtain ⟨F_1, eF_1⟩ : ∃ g : List Value, g = fs.set 51 (.int 0) := ⟨_, rfl⟩
  rw [← eF_1] at hP hD
  have K23_F_1 : F_1[23]? = some (.ref bd) := by rw [eF_1, List.getElem?_set_ne (by decide)]; exact K23_fs
  have K53_F_1 : F_1[53]? = some (.int 0) := by rw [eF_1, List.getElem?_set_ne (by decide)]; exact K53_fs
  have K54_F_1 : F_1[54]? = some (.int 0) := by rw [eF_1, List.getElem?_set_ne (by decide)]; exact K54_fs
  have K51_F_1 : F_1[51]? = some (.int 0) := by rw [eF_1]; exact List.getElem?_set_self (by rw [L_fs]; decide)
  have L_F_1 : F_1.length = 163 := by rw [eF_1, List.length_set]; exact L_fs
  have hP : va_P (dC, dI) cls [(q, .inr (15, F_1))] H := hP
  have hD : va_D A [(q, .inr (15, F_1))] := hD
  refine lv_aload_n hx hb dX15_isDown_5 rfl (lv_at hl 0 rfl) ?_
  refine va_get (D := (dC, dI)) (ci := 15) (v := .int 0) (C := RX15) (T := TX15) (N := 163) hx hb ht uX15 hown hK hP 0 rfl rfl 54 (by decide) (ht _ k_11_2) (fun _ h9 => h9) K54_F_1 dX15_isDown_6 ?_
  exact W.zret (v := 0) hx hb hr rfl (fun t ht9 hW => ⟨⟨0, (F_1), rfl, ⟨rfl, L_F_1, K23_F_1, K51_F_1, K53_F_1, K54_F_1⟩, by rw [ht9]; exact hP.sub [0] rfl, va_K.moved hW.alike (hK.sub [] rfl), hD.sub [0] (by decide) rfl⟩, hS.F ht9⟩) hS.2.2 dX15_isDown_9
set_option maxHeartbeats 4000000 in
set_option maxRecDepth 100000 in
theorem r_cheaper (l : Launch) (dC : Nat → ClassId) (dI : Nat → Nat → Nat) (sz : Nat) (q : Nat) (fs : List Value) (bd : Nat) (gb : List Value) (vTRUE : Int64) (vFALSE : Int64) (L_fs : fs.length = 163) (K23_fs : fs[23]? = some (.ref bd)) (K53_fs : fs[53]? = some (.int 0)) (K54_fs : fs[54]? = some (.int 0)) (L_gb : gb.length = 8) : Met l yX15_cheaper (Cond.codeWith yX15_cheaper cX15_cheaper 4 (some .int) [(14, 25, 28, 89)] :: tb) ({ frames := 4, cells := 0, slots := 0, locals := 93 }) (pcx [.inl ("FinderHouseModel", "TRUE", "J", .long vTRUE), .inl ("FinderHouseModel", "FALSE", "J", .long vFALSE), .inr (.inr (.inr (.inr (.inr (.inr ())))))] [.ref q] (dC, dI) [(q, .inr (15, fs)), (bd, .inr (13, gb))] [] sz) (va_Qi (fun (r : Int32) => (fun (_ : Unit) => r = -11)) (bw (dC, dI) (va_A [(q, .inr (15, fs)), (bd, .inr (13, gb))] sz) (fun (_ : Unit) => []) (fun (_ : Unit) => [])) (va_A [(q, .inr (15, fs)), (bd, .inr (13, gb))] sz)) 0 0 (va_A [(q, .inr (15, fs)), (bd, .inr (13, gb))] sz) := by
  refine va_MetW (cc := cX15_cheaper) (maxL := 4) (ret := (some .int)) (hh := [(14, 25, 28, 89)]) (by decide) rfl ?_
  intro p e s m args below meth c s₁ B hml hv
  obtain ⟨rfl, hsz, hP, hK, hD0, hE⟩ := hv
  have hx := B.exec
  have hb := B.bytes
  have hr := B.returns
  have hts := atoms_spec (ws := Cond.codeWith yX15_cheaper cX15_cheaper 4 (some .int) [(14, 25, 28, 89)] :: tb) B.pre
  have htab : c.exceptionTable.toList = tableOf [(14, 25, 28, 89)] := vx_table (x := yX15_cheaper) B (hts _ List.mem_cons_self)
  have ht : ∀ w ∈ tb, w.before _ s = true := fun w h => hts w (List.mem_cons_of_mem _ h)
  have hown : s.vm.findClass RX15 = some m.cls := findClass_of_methodNamed B.named
  have hlocks := B.notSynchronized
  subst hsz
  have hD := hD0.self (sz := s.heap.size)
  generalize hAe : va_A [(q, .inr (15, fs)), (bd, .inr (13, gb))] s.heap.size = A at hD hE ⊢
  have hA : ∀ q : Nat, s.heap.size ≤ q → A q := fun q h => by rw [← hAe]; exact Or.inr h
  have hS : va_S A s.heap s.heap [] := va_S.rf
  have hl := lv_entry ([.ref q]) (n := 4) (Nat.le_of_ble_eq_true rfl)
  rw [lg_entry_eq]
  generalize (lg_sl ([.ref q]) ++ List.replicate (4 - (lg_sl ([.ref q])).length) Slot.unset).toArray = ls at hl ⊢
  have hl : lv_has ls 4 [(0, .ref q)] := hl
  have hP : va_P (dC, dI) cls [(q, .inr (15, fs)), (bd, .inr (13, gb))] s.heap := hP
  refine lv_aload_n hx hb dX15_cheaper_0 rfl (lv_at hl 0 rfl) ?_
  refine ca_i (wr := [(bd, .inr (13, gb))]) (va_runV (As := []) (rest := []) ⟨hx, hb, hml, hown, ht⟩ (r_isDown_rd l dC dI s.heap.size q fs bd L_fs K23_fs K53_fs K54_fs ) (cwV 0 ht (gdV k_12_228 k_12_225 k_12_227 ks_112 k_1_17) rfl rfl rfl (by decide +kernel) ⟨Nat.le_of_ble_eq_true rfl, Nat.le_of_ble_eq_true rfl⟩) ⟨pcw_blind, va_recv hK hP (ci := 15) (q0 := 0) rfl rfl, pcw_at hP hD hK [0] [] (by decide) rfl rfl rfl⟩ rfl rfl hl.1 rfl (lv_room (Nat.le_of_ble_eq_true rfl)) dX15_cheaper_1 ⟨Nat.le_of_ble_eq_true rfl, Nat.le_of_ble_eq_true rfl⟩) hP hD hK hS hA [0] [1] rfl rfl (by decide) (by decide) (fun r_1 u H locs w_2 hK hP hD hS => ?_)
  obtain ⟨F_3, rfl⟩ : ∃ z, z = u := ⟨_, rfl⟩
  have hK : va_K (dC, dI) cls [] s := hK
  have hP : va_P (dC, dI) cls [(bd, .inr (13, gb)), (q, .inr (15, F_3))] H := hP
  have hD : va_D A [(bd, .inr (13, gb)), (q, .inr (15, F_3))] := hD
  obtain ⟨w_2, K_4, K_5, K_6, K_7, K_8⟩ := w_2
  obtain rfl : r_1 = 0 := w_2
  refine lv_if_eq (tgt := 10) hx hb dX15_cheaper_4 (by decide) (fun _ => ?_) (fun c0 => absurd c0 (by decide))
  refine lv_aload_n hx hb dX15_cheaper_10 rfl (lv_at hl 0 rfl) ?_
  refine ca_v (wr := [(bd, .inr (13, gb))]) (va_runV (As := []) (rest := []) ⟨hx, hb, hml, hown, ht⟩ (r_takeTape_rd l dC dI H.size q F_3 bd K_4 K_5 K_7 ) (cwV 0 ht (gdV k_12_237 k_12_234 k_12_236 ks_113 k_1_17) rfl rfl rfl (by decide +kernel) ⟨Nat.le_of_ble_eq_true rfl, Nat.le_of_ble_eq_true rfl⟩) ⟨pcw_blind, va_recv hK hP (ci := 15) (q0 := 1) rfl rfl, pcw_at hP hD hK [1] [] (by decide) rfl rfl rfl⟩ rfl rfl hl.1 rfl (lv_room (Nat.le_of_ble_eq_true rfl)) dX15_cheaper_11 ⟨Nat.le_of_ble_eq_true rfl, Nat.le_of_ble_eq_true rfl⟩) hP hD hK hS hA [1] [0] rfl rfl (by decide) (by decide) (fun u H locs w_10 hK hP hD hS => ?_)
  obtain ⟨F_11, rfl⟩ : ∃ z, z = u := ⟨_, rfl⟩
  have hK : va_K (dC, dI) cls [] s := hK
  have hP : va_P (dC, dI) cls [(bd, .inr (13, gb)), (q, .inr (15, F_11))] H := hP
  have hD : va_D A [(bd, .inr (13, gb)), (q, .inr (15, F_11))] := hD
  obtain ⟨w_10, K_12, K_13, K_14, K_15, K_16⟩ := w_10
  refine lv_aload_n hx hb dX15_cheaper_14 rfl (lv_at hl 0 rfl) ?_
  refine lv_iconst (v := 0) hx hb dX15_cheaper_15 (by decide) ?_
  refine lv_iconst (v := 1) hx hb dX15_cheaper_16 (by decide) ?_
  have hFc := va_free (wc := [(q, .inr (15, F_11)), (bd, .inr (13, gb))]) hD hS hA [1, 0] rfl
  refine ux_calli (ux_runV (As := [.int 0, .int 1]) (rest := []) ⟨hx, hb, hml, hown, ht⟩ (r_readTerm_01 l dC dI H.size q F_11 bd gb vTRUE vFALSE K_12 K_13 K_14 L_gb ) (cwV 2 ht (gdV k_14_179 k_14_176 k_14_178 ks_191 k_1_17) rfl rfl rfl (by decide +kernel) ⟨Nat.le_of_ble_eq_true rfl, Nat.le_of_ble_eq_true rfl⟩) ⟨pcx_blind, va_recv hK hP (ci := 15) (q0 := 1) rfl rfl, pcx_at hP hD hK hS hA hE [1, 0] [] [0, 1] (by decide) rfl rfl rfl rfl⟩ rfl rfl hl.1 rfl (lv_room (Nat.le_of_ble_eq_true rfl)) dX15_cheaper_17 ⟨Nat.le_of_ble_eq_true rfl, Nat.le_of_ble_eq_true rfl⟩) hS (fun q _ h => hFc q h) hFc (fun q _ h => hFc q h) (fun E9 ce t_17 u t H locs ht9 hvm hpx hB9 hz9 hk9 hS hce hcv hcl => ?_) (fun r u t H locs ht9 hvm hw _ _ _ _ => hw.elim)
  obtain ⟨F_18, F_19⟩ := u
  obtain ⟨hq9, rfl, hP1, hK1, hD1⟩ := hB9
  rw [ht9] at hP1
  rw [hq9] at hce ⊢
  obtain ⟨hP, hD⟩ := va_join (wr := []) (w1 := [(q, .inr (15, F_18)), (bd, .inr (13, F_19))]) hP hD [1, 0] [] rfl rfl (by decide) (by decide) hk9 hFc hP1 hD1
  obtain ⟨K_20, K_21, K_22, K_23, -⟩ := hpx
  have hP : va_P (dC, dI) cls [(q, .inr (15, F_18)), (bd, .inr (13, F_19))] H := hP
  have hD : va_D A [(q, .inr (15, F_18)), (bd, .inr (13, F_19))] := hD
  refine ux_catch (E := "FinderHouseModel$Bad") (name := "FinderHouseModel$Bad") hown [] ⟨14, 25, 28, 89⟩ [] htab (fun z hz => by cases hz) (by decide) (by decide) (ht _ k_9_235) (nb_args rfl (xf_n hE 2 rfl _ kn_9_237)) hce hcv hcl ?_
  refine lv_astore_n (lv' := [(2, .ref bd), (0, .ref q)]) hx hb dX15_cheaper_28 rfl hl (by decide) rfl (fun ls hl => ?_)
  refine lv_aload_n hx hb dX15_cheaper_29 rfl (lv_at hl 1 rfl) ?_
  refine lv_aload_n hx hb dX15_cheaper_30 rfl (lv_at hl 0 rfl) ?_
  refine ca_i (wr := []) (va_runV (As := [.ref bd]) (rest := []) ⟨hx, hb, hml, hown, ht⟩ (r_faulty l dC dI H.size q F_18 bd F_19 K_20 K_21 K_22 K_23 ) (cwV 1 ht (gdV k_13_169 k_13_166 k_13_168 ks_145 k_1_17) rfl rfl rfl (by decide +kernel) ⟨Nat.le_of_ble_eq_true rfl, Nat.le_of_ble_eq_true rfl⟩) ⟨pcw_blind, va_recv hK hP (ci := 15) (q0 := 0) rfl rfl, pcw_at hP hD hK [0, 1] [] (by decide) rfl rfl rfl⟩ rfl rfl hl.1 rfl (lv_room (Nat.le_of_ble_eq_true rfl)) dX15_cheaper_31 ⟨Nat.le_of_ble_eq_true rfl, Nat.le_of_ble_eq_true rfl⟩) hP hD hK hS hA [0, 1] [] rfl rfl (by decide) (by decide) (fun r_24 u H locs w_25 hK hP hD hS => ?_)
  have hK : va_K (dC, dI) cls [] s := hK
  have hP : va_P (dC, dI) cls [] H := hP
  have hD : va_D A [] := hD
  obtain rfl : r_24 = (-11) := w_25
  exact W.iret (v := (-11)) hx hb hr (fun t ht9 hW => ⟨⟨(-11), (), rfl, rfl, by rw [ht9]; exact hP.sub [] rfl, va_K.moved hW.alike (hK.sub [] rfl), hD.sub [] (by decide) rfl⟩, hS.F ht9⟩) hS.2.2 dX15_cheaper_34
set_option maxHeartbeats 4000000 in
set_option maxRecDepth 100000 in
theorem r_sketch (l : Launch) (dC : Nat → ClassId) (dI : Nat → Nat → Nat) (sz : Nat) (q : Nat) (fs : List Value) (bd : Nat) (gb : List Value) (vTRUE : Int64) (vFALSE : Int64) (L_fs : fs.length = 163) (K23_fs : fs[23]? = some (.ref bd)) (K53_fs : fs[53]? = some (.int 0)) (K54_fs : fs[54]? = some (.int 0)) (L_gb : gb.length = 8) : Met l yX15_sketch (Cond.codeWith yX15_sketch cX15_sketch 5 (some .int) [(14, 66, 69, 89)] :: tb) ({ frames := 4, cells := 0, slots := 0, locals := 93 }) (pcx [.inl ("FinderHouseModel", "TRUE", "J", .long vTRUE), .inl ("FinderHouseModel", "FALSE", "J", .long vFALSE), .inr (.inr (.inr (.inr (.inr (.inr ())))))] [.ref q] (dC, dI) [(q, .inr (15, fs)), (bd, .inr (13, gb))] [] sz) (va_Qi (fun (r : Int32) => (fun (_ : Unit) => r = -11)) (bw (dC, dI) (va_A [(q, .inr (15, fs)), (bd, .inr (13, gb))] sz) (fun (_ : Unit) => []) (fun (_ : Unit) => [])) (va_A [(q, .inr (15, fs)), (bd, .inr (13, gb))] sz)) 0 0 (va_A [(q, .inr (15, fs)), (bd, .inr (13, gb))] sz) := by
  refine va_MetW (cc := cX15_sketch) (maxL := 5) (ret := (some .int)) (hh := [(14, 66, 69, 89)]) (by decide) rfl ?_
  intro p e s m args below meth c s₁ B hml hv
  obtain ⟨rfl, hsz, hP, hK, hD0, hE⟩ := hv
  have hx := B.exec
  have hb := B.bytes
  have hr := B.returns
  have hts := atoms_spec (ws := Cond.codeWith yX15_sketch cX15_sketch 5 (some .int) [(14, 66, 69, 89)] :: tb) B.pre
  have htab : c.exceptionTable.toList = tableOf [(14, 66, 69, 89)] := vx_table (x := yX15_sketch) B (hts _ List.mem_cons_self)
  have ht : ∀ w ∈ tb, w.before _ s = true := fun w h => hts w (List.mem_cons_of_mem _ h)
  have hown : s.vm.findClass RX15 = some m.cls := findClass_of_methodNamed B.named
  have hlocks := B.notSynchronized
  subst hsz
  have hD := hD0.self (sz := s.heap.size)
  generalize hAe : va_A [(q, .inr (15, fs)), (bd, .inr (13, gb))] s.heap.size = A at hD hE ⊢
  have hA : ∀ q : Nat, s.heap.size ≤ q → A q := fun q h => by rw [← hAe]; exact Or.inr h
  have hS : va_S A s.heap s.heap [] := va_S.rf
  have hl := lv_entry ([.ref q]) (n := 5) (Nat.le_of_ble_eq_true rfl)
  rw [lg_entry_eq]
  generalize (lg_sl ([.ref q]) ++ List.replicate (5 - (lg_sl ([.ref q])).length) Slot.unset).toArray = ls at hl ⊢
  have hl : lv_has ls 5 [(0, .ref q)] := hl
  have hP : va_P (dC, dI) cls [(q, .inr (15, fs)), (bd, .inr (13, gb))] s.heap := hP
  refine lv_aload_n hx hb dX15_sketch_0 rfl (lv_at hl 0 rfl) ?_
  refine ca_i (wr := [(bd, .inr (13, gb))]) (va_runV (As := []) (rest := []) ⟨hx, hb, hml, hown, ht⟩ (r_isDown_rd l dC dI s.heap.size q fs bd L_fs K23_fs K53_fs K54_fs ) (cwV 0 ht (gdV k_12_228 k_12_225 k_12_227 ks_112 k_1_17) rfl rfl rfl (by decide +kernel) ⟨Nat.le_of_ble_eq_true rfl, Nat.le_of_ble_eq_true rfl⟩) ⟨pcw_blind, va_recv hK hP (ci := 15) (q0 := 0) rfl rfl, pcw_at hP hD hK [0] [] (by decide) rfl rfl rfl⟩ rfl rfl hl.1 rfl (lv_room (Nat.le_of_ble_eq_true rfl)) dX15_sketch_1 ⟨Nat.le_of_ble_eq_true rfl, Nat.le_of_ble_eq_true rfl⟩) hP hD hK hS hA [0] [1] rfl rfl (by decide) (by decide) (fun r_1 u H locs w_2 hK hP hD hS => ?_)
  obtain ⟨F_3, rfl⟩ : ∃ z, z = u := ⟨_, rfl⟩
  have hK : va_K (dC, dI) cls [] s := hK
  have hP : va_P (dC, dI) cls [(bd, .inr (13, gb)), (q, .inr (15, F_3))] H := hP
  have hD : va_D A [(bd, .inr (13, gb)), (q, .inr (15, F_3))] := hD
  obtain ⟨w_2, K_4, K_5, K_6, K_7, K_8⟩ := w_2
  obtain rfl : r_1 = 0 := w_2
  refine lv_if_eq (tgt := 10) hx hb dX15_sketch_4 (by decide) (fun _ => ?_) (fun c0 => absurd c0 (by decide))
  refine lv_aload_n hx hb dX15_sketch_10 rfl (lv_at hl 0 rfl) ?_
  refine ca_v (wr := [(bd, .inr (13, gb))]) (va_runV (As := []) (rest := []) ⟨hx, hb, hml, hown, ht⟩ (r_takeTape_rd l dC dI H.size q F_3 bd K_4 K_5 K_7 ) (cwV 0 ht (gdV k_12_237 k_12_234 k_12_236 ks_113 k_1_17) rfl rfl rfl (by decide +kernel) ⟨Nat.le_of_ble_eq_true rfl, Nat.le_of_ble_eq_true rfl⟩) ⟨pcw_blind, va_recv hK hP (ci := 15) (q0 := 1) rfl rfl, pcw_at hP hD hK [1] [] (by decide) rfl rfl rfl⟩ rfl rfl hl.1 rfl (lv_room (Nat.le_of_ble_eq_true rfl)) dX15_sketch_11 ⟨Nat.le_of_ble_eq_true rfl, Nat.le_of_ble_eq_true rfl⟩) hP hD hK hS hA [1] [0] rfl rfl (by decide) (by decide) (fun u H locs w_10 hK hP hD hS => ?_)
  obtain ⟨F_11, rfl⟩ : ∃ z, z = u := ⟨_, rfl⟩
  have hK : va_K (dC, dI) cls [] s := hK
  have hP : va_P (dC, dI) cls [(bd, .inr (13, gb)), (q, .inr (15, F_11))] H := hP
  have hD : va_D A [(bd, .inr (13, gb)), (q, .inr (15, F_11))] := hD
  obtain ⟨w_10, K_12, K_13, K_14, K_15, K_16⟩ := w_10
  refine lv_aload_n hx hb dX15_sketch_14 rfl (lv_at hl 0 rfl) ?_
  refine lv_iconst (v := 1) hx hb dX15_sketch_15 (by decide) ?_
  refine lv_iconst (v := 1) hx hb dX15_sketch_16 (by decide) ?_
  have hFc := va_free (wc := [(q, .inr (15, F_11)), (bd, .inr (13, gb))]) hD hS hA [1, 0] rfl
  refine ux_calli (ux_runV (As := [.int 1, .int 1]) (rest := []) ⟨hx, hb, hml, hown, ht⟩ (r_readTerm_11 l dC dI H.size q F_11 bd gb vTRUE vFALSE K_12 K_13 K_14 L_gb ) (cwV 2 ht (gdV k_14_179 k_14_176 k_14_178 ks_191 k_1_17) rfl rfl rfl (by decide +kernel) ⟨Nat.le_of_ble_eq_true rfl, Nat.le_of_ble_eq_true rfl⟩) ⟨pcx_blind, va_recv hK hP (ci := 15) (q0 := 1) rfl rfl, pcx_at hP hD hK hS hA hE [1, 0] [] [0, 1] (by decide) rfl rfl rfl rfl⟩ rfl rfl hl.1 rfl (lv_room (Nat.le_of_ble_eq_true rfl)) dX15_sketch_17 ⟨Nat.le_of_ble_eq_true rfl, Nat.le_of_ble_eq_true rfl⟩) hS (fun q _ h => hFc q h) hFc (fun q _ h => hFc q h) (fun E9 ce t_17 u t H locs ht9 hvm hpx hB9 hz9 hk9 hS hce hcv hcl => ?_) (fun r u t H locs ht9 hvm hw _ _ _ _ => hw.elim)
  obtain ⟨F_18, F_19⟩ := u
  obtain ⟨hq9, rfl, hP1, hK1, hD1⟩ := hB9
  rw [ht9] at hP1
  rw [hq9] at hce ⊢
  obtain ⟨hP, hD⟩ := va_join (wr := []) (w1 := [(q, .inr (15, F_18)), (bd, .inr (13, F_19))]) hP hD [1, 0] [] rfl rfl (by decide) (by decide) hk9 hFc hP1 hD1
  obtain ⟨K_20, K_21, K_22, K_23, -⟩ := hpx
  have hP : va_P (dC, dI) cls [(q, .inr (15, F_18)), (bd, .inr (13, F_19))] H := hP
  have hD : va_D A [(q, .inr (15, F_18)), (bd, .inr (13, F_19))] := hD
  refine ux_catch (E := "FinderHouseModel$Bad") (name := "FinderHouseModel$Bad") hown [] ⟨14, 66, 69, 89⟩ [] htab (fun z hz => by cases hz) (by decide) (by decide) (ht _ k_9_235) (nb_args rfl (xf_n hE 2 rfl _ kn_9_237)) hce hcv hcl ?_
  refine lv_astore_n (lv' := [(2, .ref bd), (0, .ref q)]) hx hb dX15_sketch_69 rfl hl (by decide) rfl (fun ls hl => ?_)
  refine lv_aload_n hx hb dX15_sketch_70 rfl (lv_at hl 1 rfl) ?_
  refine lv_aload_n hx hb dX15_sketch_71 rfl (lv_at hl 0 rfl) ?_
  refine ca_i (wr := []) (va_runV (As := [.ref bd]) (rest := []) ⟨hx, hb, hml, hown, ht⟩ (r_faulty l dC dI H.size q F_18 bd F_19 K_20 K_21 K_22 K_23 ) (cwV 1 ht (gdV k_13_169 k_13_166 k_13_168 ks_145 k_1_17) rfl rfl rfl (by decide +kernel) ⟨Nat.le_of_ble_eq_true rfl, Nat.le_of_ble_eq_true rfl⟩) ⟨pcw_blind, va_recv hK hP (ci := 15) (q0 := 0) rfl rfl, pcw_at hP hD hK [0, 1] [] (by decide) rfl rfl rfl⟩ rfl rfl hl.1 rfl (lv_room (Nat.le_of_ble_eq_true rfl)) dX15_sketch_72 ⟨Nat.le_of_ble_eq_true rfl, Nat.le_of_ble_eq_true rfl⟩) hP hD hK hS hA [0, 1] [] rfl rfl (by decide) (by decide) (fun r_24 u H locs w_25 hK hP hD hS => ?_)
  have hK : va_K (dC, dI) cls [] s := hK
  have hP : va_P (dC, dI) cls [] H := hP
  have hD : va_D A [] := hD
  obtain rfl : r_24 = (-11) := w_25
  exact W.iret (v := (-11)) hx hb hr (fun t ht9 hW => ⟨⟨(-11), (), rfl, rfl, by rw [ht9]; exact hP.sub [] rfl, va_K.moved hW.alike (hK.sub [] rfl), hD.sub [] (by decide) rfl⟩, hS.F ht9⟩) hS.2.2 dX15_sketch_75
set_option maxHeartbeats 4000000 in
set_option maxRecDepth 100000 in
theorem r_value (l : Launch) (dC : Nat → ClassId) (dI : Nat → Nat → Nat) (sz : Nat) (q : Nat) (fs : List Value) (bd : Nat) (gb : List Value) (vTRUE : Int64) (vFALSE : Int64) (L_fs : fs.length = 163) (K23_fs : fs[23]? = some (.ref bd)) (K53_fs : fs[53]? = some (.int 0)) (K54_fs : fs[54]? = some (.int 0)) (L_gb : gb.length = 8) : Met l yX15_value (Cond.codeWith yX15_value cX15_value 3 (some .int) [(14, 50, 51, 89)] :: tb) ({ frames := 4, cells := 0, slots := 0, locals := 93 }) (pcx [.inl ("FinderHouseModel", "TRUE", "J", .long vTRUE), .inl ("FinderHouseModel", "FALSE", "J", .long vFALSE), .inr (.inr (.inr (.inr (.inr (.inr ())))))] [.ref q] (dC, dI) [(q, .inr (15, fs)), (bd, .inr (13, gb))] [] sz) (va_Qi (fun (r : Int32) => (fun (_ : Unit) => r = -11)) (bw (dC, dI) (va_A [(q, .inr (15, fs)), (bd, .inr (13, gb))] sz) (fun (_ : Unit) => []) (fun (_ : Unit) => [])) (va_A [(q, .inr (15, fs)), (bd, .inr (13, gb))] sz)) 0 0 (va_A [(q, .inr (15, fs)), (bd, .inr (13, gb))] sz) := by
  refine va_MetW (cc := cX15_value) (maxL := 3) (ret := (some .int)) (hh := [(14, 50, 51, 89)]) (by decide) rfl ?_
  intro p e s m args below meth c s₁ B hml hv
  obtain ⟨rfl, hsz, hP, hK, hD0, hE⟩ := hv
  have hx := B.exec
  have hb := B.bytes
  have hr := B.returns
  have hts := atoms_spec (ws := Cond.codeWith yX15_value cX15_value 3 (some .int) [(14, 50, 51, 89)] :: tb) B.pre
  have htab : c.exceptionTable.toList = tableOf [(14, 50, 51, 89)] := vx_table (x := yX15_value) B (hts _ List.mem_cons_self)
  have ht : ∀ w ∈ tb, w.before _ s = true := fun w h => hts w (List.mem_cons_of_mem _ h)
  have hown : s.vm.findClass RX15 = some m.cls := findClass_of_methodNamed B.named
  have hlocks := B.notSynchronized
  subst hsz
  have hD := hD0.self (sz := s.heap.size)
  generalize hAe : va_A [(q, .inr (15, fs)), (bd, .inr (13, gb))] s.heap.size = A at hD hE ⊢
  have hA : ∀ q : Nat, s.heap.size ≤ q → A q := fun q h => by rw [← hAe]; exact Or.inr h
  have hS : va_S A s.heap s.heap [] := va_S.rf
  have hl := lv_entry ([.ref q]) (n := 3) (Nat.le_of_ble_eq_true rfl)
  rw [lg_entry_eq]
  generalize (lg_sl ([.ref q]) ++ List.replicate (3 - (lg_sl ([.ref q])).length) Slot.unset).toArray = ls at hl ⊢
  have hl : lv_has ls 3 [(0, .ref q)] := hl
  have hP : va_P (dC, dI) cls [(q, .inr (15, fs)), (bd, .inr (13, gb))] s.heap := hP
  refine lv_aload_n hx hb dX15_value_0 rfl (lv_at hl 0 rfl) ?_
  refine ca_i (wr := [(bd, .inr (13, gb))]) (va_runV (As := []) (rest := []) ⟨hx, hb, hml, hown, ht⟩ (r_isDown_rd l dC dI s.heap.size q fs bd L_fs K23_fs K53_fs K54_fs ) (cwV 0 ht (gdV k_12_228 k_12_225 k_12_227 ks_112 k_1_17) rfl rfl rfl (by decide +kernel) ⟨Nat.le_of_ble_eq_true rfl, Nat.le_of_ble_eq_true rfl⟩) ⟨pcw_blind, va_recv hK hP (ci := 15) (q0 := 0) rfl rfl, pcw_at hP hD hK [0] [] (by decide) rfl rfl rfl⟩ rfl rfl hl.1 rfl (lv_room (Nat.le_of_ble_eq_true rfl)) dX15_value_1 ⟨Nat.le_of_ble_eq_true rfl, Nat.le_of_ble_eq_true rfl⟩) hP hD hK hS hA [0] [1] rfl rfl (by decide) (by decide) (fun r_1 u H locs w_2 hK hP hD hS => ?_)
  obtain ⟨F_3, rfl⟩ : ∃ z, z = u := ⟨_, rfl⟩
  have hK : va_K (dC, dI) cls [] s := hK
  have hP : va_P (dC, dI) cls [(bd, .inr (13, gb)), (q, .inr (15, F_3))] H := hP
  have hD : va_D A [(bd, .inr (13, gb)), (q, .inr (15, F_3))] := hD
  obtain ⟨w_2, K_4, K_5, K_6, K_7, K_8⟩ := w_2
  obtain rfl : r_1 = 0 := w_2
  refine lv_if_eq (tgt := 10) hx hb dX15_value_4 (by decide) (fun _ => ?_) (fun c0 => absurd c0 (by decide))
  refine lv_aload_n hx hb dX15_value_10 rfl (lv_at hl 0 rfl) ?_
  refine ca_v (wr := [(bd, .inr (13, gb))]) (va_runV (As := []) (rest := []) ⟨hx, hb, hml, hown, ht⟩ (r_takeTape_rd l dC dI H.size q F_3 bd K_4 K_5 K_7 ) (cwV 0 ht (gdV k_12_237 k_12_234 k_12_236 ks_113 k_1_17) rfl rfl rfl (by decide +kernel) ⟨Nat.le_of_ble_eq_true rfl, Nat.le_of_ble_eq_true rfl⟩) ⟨pcw_blind, va_recv hK hP (ci := 15) (q0 := 1) rfl rfl, pcw_at hP hD hK [1] [] (by decide) rfl rfl rfl⟩ rfl rfl hl.1 rfl (lv_room (Nat.le_of_ble_eq_true rfl)) dX15_value_11 ⟨Nat.le_of_ble_eq_true rfl, Nat.le_of_ble_eq_true rfl⟩) hP hD hK hS hA [1] [0] rfl rfl (by decide) (by decide) (fun u H locs w_10 hK hP hD hS => ?_)
  obtain ⟨F_11, rfl⟩ : ∃ z, z = u := ⟨_, rfl⟩
  have hK : va_K (dC, dI) cls [] s := hK
  have hP : va_P (dC, dI) cls [(bd, .inr (13, gb)), (q, .inr (15, F_11))] H := hP
  have hD : va_D A [(bd, .inr (13, gb)), (q, .inr (15, F_11))] := hD
  obtain ⟨w_10, K_12, K_13, K_14, K_15, K_16⟩ := w_10
  refine lv_aload_n hx hb dX15_value_14 rfl (lv_at hl 0 rfl) ?_
  refine lv_iconst (v := 0) hx hb dX15_value_15 (by decide) ?_
  refine lv_iconst (v := 0) hx hb dX15_value_16 (by decide) ?_
  have hFc := va_free (wc := [(q, .inr (15, F_11)), (bd, .inr (13, gb))]) hD hS hA [1, 0] rfl
  refine ux_calli (ux_runV (As := [.int 0, .int 0]) (rest := []) ⟨hx, hb, hml, hown, ht⟩ (r_readTerm_00 l dC dI H.size q F_11 bd gb vTRUE vFALSE K_12 K_13 K_14 L_gb ) (cwV 2 ht (gdV k_14_179 k_14_176 k_14_178 ks_191 k_1_17) rfl rfl rfl (by decide +kernel) ⟨Nat.le_of_ble_eq_true rfl, Nat.le_of_ble_eq_true rfl⟩) ⟨pcx_blind, va_recv hK hP (ci := 15) (q0 := 1) rfl rfl, pcx_at hP hD hK hS hA hE [1, 0] [] [0, 1] (by decide) rfl rfl rfl rfl⟩ rfl rfl hl.1 rfl (lv_room (Nat.le_of_ble_eq_true rfl)) dX15_value_17 ⟨Nat.le_of_ble_eq_true rfl, Nat.le_of_ble_eq_true rfl⟩) hS (fun q _ h => hFc q h) hFc (fun q _ h => hFc q h) (fun E9 ce t_17 u t H locs ht9 hvm hpx hB9 hz9 hk9 hS hce hcv hcl => ?_) (fun r u t H locs ht9 hvm hw _ _ _ _ => hw.elim)
  obtain ⟨F_18, F_19⟩ := u
  obtain ⟨hq9, rfl, hP1, hK1, hD1⟩ := hB9
  rw [ht9] at hP1
  rw [hq9] at hce ⊢
  obtain ⟨hP, hD⟩ := va_join (wr := []) (w1 := [(q, .inr (15, F_18)), (bd, .inr (13, F_19))]) hP hD [1, 0] [] rfl rfl (by decide) (by decide) hk9 hFc hP1 hD1
  obtain ⟨K_20, K_21, K_22, K_23, -⟩ := hpx
  have hP : va_P (dC, dI) cls [(q, .inr (15, F_18)), (bd, .inr (13, F_19))] H := hP
  have hD : va_D A [(q, .inr (15, F_18)), (bd, .inr (13, F_19))] := hD
  refine ux_catch (E := "FinderHouseModel$Bad") (name := "FinderHouseModel$Bad") hown [] ⟨14, 50, 51, 89⟩ [] htab (fun z hz => by cases hz) (by decide) (by decide) (ht _ k_9_235) (nb_args rfl (xf_n hE 2 rfl _ kn_9_237)) hce hcv hcl ?_
  refine lv_astore_n (lv' := [(1, .ref bd), (0, .ref q)]) hx hb dX15_value_51 rfl hl (by decide) rfl (fun ls hl => ?_)
  refine lv_aload_n hx hb dX15_value_52 rfl (lv_at hl 1 rfl) ?_
  refine lv_aload_n hx hb dX15_value_53 rfl (lv_at hl 0 rfl) ?_
  refine ca_i (wr := []) (va_runV (As := [.ref bd]) (rest := []) ⟨hx, hb, hml, hown, ht⟩ (r_faulty l dC dI H.size q F_18 bd F_19 K_20 K_21 K_22 K_23 ) (cwV 1 ht (gdV k_13_169 k_13_166 k_13_168 ks_145 k_1_17) rfl rfl rfl (by decide +kernel) ⟨Nat.le_of_ble_eq_true rfl, Nat.le_of_ble_eq_true rfl⟩) ⟨pcw_blind, va_recv hK hP (ci := 15) (q0 := 0) rfl rfl, pcw_at hP hD hK [0, 1] [] (by decide) rfl rfl rfl⟩ rfl rfl hl.1 rfl (lv_room (Nat.le_of_ble_eq_true rfl)) dX15_value_54 ⟨Nat.le_of_ble_eq_true rfl, Nat.le_of_ble_eq_true rfl⟩) hP hD hK hS hA [0, 1] [] rfl rfl (by decide) (by decide) (fun r_24 u H locs w_25 hK hP hD hS => ?_)
  have hK : va_K (dC, dI) cls [] s := hK
  have hP : va_P (dC, dI) cls [] H := hP
  have hD : va_D A [] := hD
  obtain rfl : r_24 = (-11) := w_25
  exact W.iret (v := (-11)) hx hb hr (fun t ht9 hW => ⟨⟨(-11), (), rfl, rfl, by rw [ht9]; exact hP.sub [] rfl, va_K.moved hW.alike (hK.sub [] rfl), hD.sub [] (by decide) rfl⟩, hS.F ht9⟩) hS.2.2 dX15_value_57
set_option maxHeartbeats 4000000 in
set_option maxRecDepth 100000 in
theorem r_mend (l : Launch) (dC : Nat → ClassId) (dI : Nat → Nat → Nat) (sz : Nat) (q : Nat) (fs : List Value) (bd : Nat) (gb : List Value) (vTRUE : Int64) (vFALSE : Int64) (p0 : Int32) (L_fs : fs.length = 163) (K23_fs : fs[23]? = some (.ref bd)) (K53_fs : fs[53]? = some (.int 0)) (K54_fs : fs[54]? = some (.int 0)) (L_gb : gb.length = 8) : Met l yX15_mend (Cond.codeWith yX15_mend cX15_mend 8 (some .int) [(28, 80, 83, 89)] :: tb) ({ frames := 4, cells := 0, slots := 0, locals := 93 }) (pcx [.inl ("FinderHouseModel", "TRUE", "J", .long vTRUE), .inl ("FinderHouseModel", "FALSE", "J", .long vFALSE), .inr (.inr (.inr (.inr (.inr (.inr ())))))] [.ref q, .int p0] (dC, dI) [(q, .inr (15, fs)), (bd, .inr (13, gb))] [] sz) (va_Qi (fun (r : Int32) => (fun (_ : Unit) => r = sp_mend p0)) (bw (dC, dI) (va_A [(q, .inr (15, fs)), (bd, .inr (13, gb))] sz) (fun (_ : Unit) => []) (fun (_ : Unit) => [])) (va_A [(q, .inr (15, fs)), (bd, .inr (13, gb))] sz)) 0 0 (va_A [(q, .inr (15, fs)), (bd, .inr (13, gb))] sz) := by
  refine va_MetW (cc := cX15_mend) (maxL := 8) (ret := (some .int)) (hh := [(28, 80, 83, 89)]) (by decide) rfl ?_
  intro p e s m args below meth c s₁ B hml hv
  obtain ⟨rfl, hsz, hP, hK, hD0, hE⟩ := hv
  have hx := B.exec
  have hb := B.bytes
  have hr := B.returns
  have hts := atoms_spec (ws := Cond.codeWith yX15_mend cX15_mend 8 (some .int) [(28, 80, 83, 89)] :: tb) B.pre
  have htab : c.exceptionTable.toList = tableOf [(28, 80, 83, 89)] := vx_table (x := yX15_mend) B (hts _ List.mem_cons_self)
  have ht : ∀ w ∈ tb, w.before _ s = true := fun w h => hts w (List.mem_cons_of_mem _ h)
  have hown : s.vm.findClass RX15 = some m.cls := findClass_of_methodNamed B.named
  have hlocks := B.notSynchronized
  subst hsz
  have hD := hD0.self (sz := s.heap.size)
  generalize hAe : va_A [(q, .inr (15, fs)), (bd, .inr (13, gb))] s.heap.size = A at hD hE ⊢
  have hA : ∀ q : Nat, s.heap.size ≤ q → A q := fun q h => by rw [← hAe]; exact Or.inr h
  have hS : va_S A s.heap s.heap [] := va_S.rf
  have hl := lv_entry ([.ref q, .int p0]) (n := 8) (Nat.le_of_ble_eq_true rfl)
  rw [lg_entry_eq]
  generalize (lg_sl ([.ref q, .int p0]) ++ List.replicate (8 - (lg_sl ([.ref q, .int p0])).length) Slot.unset).toArray = ls at hl ⊢
  have hl : lv_has ls 8 [(0, .ref q), (1, .int p0)] := hl
  have hP : va_P (dC, dI) cls [(q, .inr (15, fs)), (bd, .inr (13, gb))] s.heap := hP
  refine lv_aload_n hx hb dX15_mend_0 rfl (lv_at hl 0 rfl) ?_
  refine ca_i (wr := [(bd, .inr (13, gb))]) (va_runV (As := []) (rest := []) ⟨hx, hb, hml, hown, ht⟩ (r_isDown_rd l dC dI s.heap.size q fs bd L_fs K23_fs K53_fs K54_fs ) (cwV 0 ht (gdV k_12_228 k_12_225 k_12_227 ks_112 k_1_17) rfl rfl rfl (by decide +kernel) ⟨Nat.le_of_ble_eq_true rfl, Nat.le_of_ble_eq_true rfl⟩) ⟨pcw_blind, va_recv hK hP (ci := 15) (q0 := 0) rfl rfl, pcw_at hP hD hK [0] [] (by decide) rfl rfl rfl⟩ rfl rfl hl.1 rfl (lv_room (Nat.le_of_ble_eq_true rfl)) dX15_mend_1 ⟨Nat.le_of_ble_eq_true rfl, Nat.le_of_ble_eq_true rfl⟩) hP hD hK hS hA [0] [1] rfl rfl (by decide) (by decide) (fun r_1 u H locs w_2 hK hP hD hS => ?_)
  obtain ⟨F_3, rfl⟩ : ∃ z, z = u := ⟨_, rfl⟩
  have hK : va_K (dC, dI) cls [] s := hK
  have hP : va_P (dC, dI) cls [(bd, .inr (13, gb)), (q, .inr (15, F_3))] H := hP
  have hD : va_D A [(bd, .inr (13, gb)), (q, .inr (15, F_3))] := hD
  obtain ⟨w_2, K_4, K_5, K_6, K_7, K_8⟩ := w_2
  obtain rfl : r_1 = 0 := w_2
  refine lv_if_eq (tgt := 10) hx hb dX15_mend_4 (by decide) (fun _ => ?_) (fun c0 => absurd c0 (by decide))
  refine lv_aload_n hx hb dX15_mend_10 rfl (lv_at hl 0 rfl) ?_
  refine ca_v (wr := [(bd, .inr (13, gb))]) (va_runV (As := []) (rest := []) ⟨hx, hb, hml, hown, ht⟩ (r_takeTape_rd l dC dI H.size q F_3 bd K_4 K_5 K_7 ) (cwV 0 ht (gdV k_12_237 k_12_234 k_12_236 ks_113 k_1_17) rfl rfl rfl (by decide +kernel) ⟨Nat.le_of_ble_eq_true rfl, Nat.le_of_ble_eq_true rfl⟩) ⟨pcw_blind, va_recv hK hP (ci := 15) (q0 := 1) rfl rfl, pcw_at hP hD hK [1] [] (by decide) rfl rfl rfl⟩ rfl rfl hl.1 rfl (lv_room (Nat.le_of_ble_eq_true rfl)) dX15_mend_11 ⟨Nat.le_of_ble_eq_true rfl, Nat.le_of_ble_eq_true rfl⟩) hP hD hK hS hA [1] [0] rfl rfl (by decide) (by decide) (fun u H locs w_10 hK hP hD hS => ?_)
  obtain ⟨F_11, rfl⟩ : ∃ z, z = u := ⟨_, rfl⟩
  have hK : va_K (dC, dI) cls [] s := hK
  have hP : va_P (dC, dI) cls [(bd, .inr (13, gb)), (q, .inr (15, F_11))] H := hP
  have hD : va_D A [(bd, .inr (13, gb)), (q, .inr (15, F_11))] := hD
  obtain ⟨w_10, K_12, K_13, K_14, K_15, K_16⟩ := w_10
  refine lv_iload_n hx hb dX15_mend_14 rfl (lv_at hl 1 rfl) ?_
  refine lv_i2l hx hb dX15_mend_15 rfl ?_
  refine lv_topl (fun x_17 ex_17 => ?_)
  refine lv_lconst (v := 1) hx hb dX15_mend_16 (by decide) ?_
  refine lv_ldc2 (v := 12) hx hb hown (ht _ k_12_229) dX15_mend_17 ?_
  refine ca_i (wr := [(bd, .inr (13, gb)), (q, .inr (15, F_11))]) (va_runS (As := [.long x_17, .long 1, .long 12]) (rest := []) ⟨hx, hb, hml, hown, ht⟩ (r_in l dC dI H.size x_17 1 12  ) (cwS 3 ht (gdS k_12_216 k_12_214 k_12_215 k_1_17) rfl rfl rfl (by decide +kernel) ⟨Nat.le_of_ble_eq_true rfl, Nat.le_of_ble_eq_true rfl⟩) ⟨pcw_blind, pcw_at hP hD hK [] [] (by decide) rfl rfl rfl⟩ rfl rfl hl.1 rfl (lv_room (Nat.le_of_ble_eq_true rfl)) dX15_mend_20 ⟨Nat.le_of_ble_eq_true rfl, Nat.le_of_ble_eq_true rfl⟩) hP hD hK hS hA [] [0, 1] rfl rfl (by decide) (by decide) (fun r_18 u H locs w_19 hK hP hD hS => ?_)
  have hK : va_K (dC, dI) cls [] s := hK
  have hP : va_P (dC, dI) cls [(bd, .inr (13, gb)), (q, .inr (15, F_11))] H := hP
  have hD : va_D A [(bd, .inr (13, gb)), (q, .inr (15, F_11))] := hD
  rcases w_19 with ⟨rfl, n_20⟩ | ⟨rfl, n_20⟩
  · obtain ⟨n_20a, n_20b⟩ := in_yes (p := p0) (lo := 1) (hi := 12) ex_17 (by decide) (by decide) n_20
    refine lv_if_ne (tgt := 28) hx hb dX15_mend_23 (by decide) (fun _ => ?_) (fun c0 => absurd c0 (by decide))
    refine lv_aload_n hx hb dX15_mend_28 rfl (lv_at hl 0 rfl) ?_
    refine lv_iconst (v := 0) hx hb dX15_mend_29 (by decide) ?_
    refine lv_iconst (v := 1) hx hb dX15_mend_30 (by decide) ?_
    have hFc := va_free (wc := [(q, .inr (15, F_11)), (bd, .inr (13, gb))]) hD hS hA [1, 0] rfl
    refine ux_calli (ux_runV (As := [.int 0, .int 1]) (rest := []) ⟨hx, hb, hml, hown, ht⟩ (r_readTerm_01 l dC dI H.size q F_11 bd gb vTRUE vFALSE K_12 K_13 K_14 L_gb ) (cwV 2 ht (gdV k_14_179 k_14_176 k_14_178 ks_191 k_1_17) rfl rfl rfl (by decide +kernel) ⟨Nat.le_of_ble_eq_true rfl, Nat.le_of_ble_eq_true rfl⟩) ⟨pcx_blind, va_recv hK hP (ci := 15) (q0 := 1) rfl rfl, pcx_at hP hD hK hS hA hE [1, 0] [] [0, 1] (by decide) rfl rfl rfl rfl⟩ rfl rfl hl.1 rfl (lv_room (Nat.le_of_ble_eq_true rfl)) dX15_mend_31 ⟨Nat.le_of_ble_eq_true rfl, Nat.le_of_ble_eq_true rfl⟩) hS (fun q _ h => hFc q h) hFc (fun q _ h => hFc q h) (fun E9 ce t_21 u t H locs ht9 hvm hpx hB9 hz9 hk9 hS hce hcv hcl => ?_) (fun r u t H locs ht9 hvm hw _ _ _ _ => hw.elim)
    obtain ⟨F_22, F_23⟩ := u
    obtain ⟨hq9, rfl, hP1, hK1, hD1⟩ := hB9
    rw [ht9] at hP1
    rw [hq9] at hce ⊢
    obtain ⟨hP, hD⟩ := va_join (wr := []) (w1 := [(q, .inr (15, F_22)), (bd, .inr (13, F_23))]) hP hD [1, 0] [] rfl rfl (by decide) (by decide) hk9 hFc hP1 hD1
    obtain ⟨K_24, K_25, K_26, K_27, -⟩ := hpx
    have hP : va_P (dC, dI) cls [(q, .inr (15, F_22)), (bd, .inr (13, F_23))] H := hP
    have hD : va_D A [(q, .inr (15, F_22)), (bd, .inr (13, F_23))] := hD
    refine ux_catch (E := "FinderHouseModel$Bad") (name := "FinderHouseModel$Bad") hown [] ⟨28, 80, 83, 89⟩ [] htab (fun z hz => by cases hz) (by decide) (by decide) (ht _ k_9_235) (nb_args rfl (xf_n hE 2 rfl _ kn_9_237)) hce hcv hcl ?_
    refine lv_astore_n (lv' := [(3, .ref bd), (0, .ref q), (1, .int p0)]) hx hb dX15_mend_83 rfl hl (by decide) rfl (fun ls hl => ?_)
    refine lv_aload_n hx hb dX15_mend_84 rfl (lv_at hl 1 rfl) ?_
    refine lv_aload_n hx hb dX15_mend_85 rfl (lv_at hl 0 rfl) ?_
    refine ca_i (wr := []) (va_runV (As := [.ref bd]) (rest := []) ⟨hx, hb, hml, hown, ht⟩ (r_faulty l dC dI H.size q F_22 bd F_23 K_24 K_25 K_26 K_27 ) (cwV 1 ht (gdV k_13_169 k_13_166 k_13_168 ks_145 k_1_17) rfl rfl rfl (by decide +kernel) ⟨Nat.le_of_ble_eq_true rfl, Nat.le_of_ble_eq_true rfl⟩) ⟨pcw_blind, va_recv hK hP (ci := 15) (q0 := 0) rfl rfl, pcw_at hP hD hK [0, 1] [] (by decide) rfl rfl rfl⟩ rfl rfl hl.1 rfl (lv_room (Nat.le_of_ble_eq_true rfl)) dX15_mend_86 ⟨Nat.le_of_ble_eq_true rfl, Nat.le_of_ble_eq_true rfl⟩) hP hD hK hS hA [0, 1] [] rfl rfl (by decide) (by decide) (fun r_28 u H locs w_29 hK hP hD hS => ?_)
    have hK : va_K (dC, dI) cls [] s := hK
    have hP : va_P (dC, dI) cls [] H := hP
    have hD : va_D A [] := hD
    obtain rfl : r_28 = (-11) := w_29
    exact W.iret (v := (-11)) hx hb hr (fun t ht9 hW => ⟨⟨(-11), (), rfl, (by simp [sp_mend, n_20a, n_20b]), by rw [ht9]; exact hP.sub [] rfl, va_K.moved hW.alike (hK.sub [] rfl), hD.sub [] (by decide) rfl⟩, hS.F ht9⟩) hS.2.2 dX15_mend_89
  · rcases in_no (p := p0) (lo := 1) (hi := 12) ex_17 (by decide) (by decide) n_20 with n_20c | n_20c
    · refine lv_if_ne (tgt := 28) hx hb dX15_mend_23 (by decide) (fun c0 => absurd c0 (by decide)) (fun _ => ?_)
      refine lv_iconst (v := (-1)) hx hb dX15_mend_26 (by decide) ?_
      exact W.iret (v := (-1)) hx hb hr (fun t ht9 hW => ⟨⟨(-1), (), rfl, (by simp [sp_mend, n_20c]), by rw [ht9]; exact hP.sub [] rfl, va_K.moved hW.alike (hK.sub [] rfl), hD.sub [] (by decide) rfl⟩, hS.F ht9⟩) hS.2.2 dX15_mend_27
    · refine lv_if_ne (tgt := 28) hx hb dX15_mend_23 (by decide) (fun c0 => absurd c0 (by decide)) (fun _ => ?_)
      refine lv_iconst (v := (-1)) hx hb dX15_mend_26 (by decide) ?_
      exact W.iret (v := (-1)) hx hb hr (fun t ht9 hW => ⟨⟨(-1), (), rfl, (by simp [sp_mend, n_20c]), by rw [ht9]; exact hP.sub [] rfl, va_K.moved hW.alike (hK.sub [] rfl), hD.sub [] (by decide) rfl⟩, hS.F ht9⟩) hS.2.2 dX15_mend_27
set_option maxHeartbeats 4000000 in
set_option maxRecDepth 100000 in
theorem r_keeps (l : Launch) (dC : Nat → ClassId) (dI : Nat → Nat → Nat) (sz : Nat) (q : Nat) (fs : List Value) (bd : Nat) (gb : List Value) (vTRUE : Int64) (vFALSE : Int64) (L_fs : fs.length = 163) (K23_fs : fs[23]? = some (.ref bd)) (K53_fs : fs[53]? = some (.int 0)) (K54_fs : fs[54]? = some (.int 0)) (L_gb : gb.length = 8) : Met l yX15_keeps (Cond.codeWith yX15_keeps cX15_keeps 3 (some .int) [(14, 100, 103, 89)] :: tb) ({ frames := 3, cells := 0, slots := 0, locals := 70 }) (pcx [.inl ("FinderHouseModel", "TRUE", "J", .long vTRUE), .inl ("FinderHouseModel", "FALSE", "J", .long vFALSE), .inr (.inr (.inr (.inr (.inr (.inr ())))))] [.ref q] (dC, dI) [(q, .inr (15, fs)), (bd, .inr (13, gb))] [] sz) (va_Qi (fun (r : Int32) => (fun (_ : Unit) => r = -11)) (bw (dC, dI) (va_A [(q, .inr (15, fs)), (bd, .inr (13, gb))] sz) (fun (_ : Unit) => []) (fun (_ : Unit) => [])) (va_A [(q, .inr (15, fs)), (bd, .inr (13, gb))] sz)) 0 0 (va_A [(q, .inr (15, fs)), (bd, .inr (13, gb))] sz) := by
  refine va_MetW (cc := cX15_keeps) (maxL := 3) (ret := (some .int)) (hh := [(14, 100, 103, 89)]) (by decide) rfl ?_
  intro p e s m args below meth c s₁ B hml hv
  obtain ⟨rfl, hsz, hP, hK, hD0, hE⟩ := hv
  have hx := B.exec
  have hb := B.bytes
  have hr := B.returns
  have hts := atoms_spec (ws := Cond.codeWith yX15_keeps cX15_keeps 3 (some .int) [(14, 100, 103, 89)] :: tb) B.pre
  have htab : c.exceptionTable.toList = tableOf [(14, 100, 103, 89)] := vx_table (x := yX15_keeps) B (hts _ List.mem_cons_self)
  have ht : ∀ w ∈ tb, w.before _ s = true := fun w h => hts w (List.mem_cons_of_mem _ h)
  have hown : s.vm.findClass RX15 = some m.cls := findClass_of_methodNamed B.named
  have hlocks := B.notSynchronized
  subst hsz
  have hD := hD0.self (sz := s.heap.size)
  generalize hAe : va_A [(q, .inr (15, fs)), (bd, .inr (13, gb))] s.heap.size = A at hD hE ⊢
  have hA : ∀ q : Nat, s.heap.size ≤ q → A q := fun q h => by rw [← hAe]; exact Or.inr h
  have hS : va_S A s.heap s.heap [] := va_S.rf
  have hl := lv_entry ([.ref q]) (n := 3) (Nat.le_of_ble_eq_true rfl)
  rw [lg_entry_eq]
  generalize (lg_sl ([.ref q]) ++ List.replicate (3 - (lg_sl ([.ref q])).length) Slot.unset).toArray = ls at hl ⊢
  have hl : lv_has ls 3 [(0, .ref q)] := hl
  have hP : va_P (dC, dI) cls [(q, .inr (15, fs)), (bd, .inr (13, gb))] s.heap := hP
  refine lv_aload_n hx hb dX15_keeps_0 rfl (lv_at hl 0 rfl) ?_
  refine ca_i (wr := [(bd, .inr (13, gb))]) (va_runV (As := []) (rest := []) ⟨hx, hb, hml, hown, ht⟩ (r_isDown_rd l dC dI s.heap.size q fs bd L_fs K23_fs K53_fs K54_fs ) (cwV 0 ht (gdV k_12_228 k_12_225 k_12_227 ks_112 k_1_17) rfl rfl rfl (by decide +kernel) ⟨Nat.le_of_ble_eq_true rfl, Nat.le_of_ble_eq_true rfl⟩) ⟨pcw_blind, va_recv hK hP (ci := 15) (q0 := 0) rfl rfl, pcw_at hP hD hK [0] [] (by decide) rfl rfl rfl⟩ rfl rfl hl.1 rfl (lv_room (Nat.le_of_ble_eq_true rfl)) dX15_keeps_1 ⟨Nat.le_of_ble_eq_true rfl, Nat.le_of_ble_eq_true rfl⟩) hP hD hK hS hA [0] [1] rfl rfl (by decide) (by decide) (fun r_1 u H locs w_2 hK hP hD hS => ?_)
  obtain ⟨F_3, rfl⟩ : ∃ z, z = u := ⟨_, rfl⟩
  have hK : va_K (dC, dI) cls [] s := hK
  have hP : va_P (dC, dI) cls [(bd, .inr (13, gb)), (q, .inr (15, F_3))] H := hP
  have hD : va_D A [(bd, .inr (13, gb)), (q, .inr (15, F_3))] := hD
  obtain ⟨w_2, K_4, K_5, K_6, K_7, K_8⟩ := w_2
  obtain rfl : r_1 = 0 := w_2
  refine lv_if_eq (tgt := 10) hx hb dX15_keeps_4 (by decide) (fun _ => ?_) (fun c0 => absurd c0 (by decide))
  refine lv_aload_n hx hb dX15_keeps_10 rfl (lv_at hl 0 rfl) ?_
  refine ca_v (wr := [(bd, .inr (13, gb))]) (va_runV (As := []) (rest := []) ⟨hx, hb, hml, hown, ht⟩ (r_takeTape_rd l dC dI H.size q F_3 bd K_4 K_5 K_7 ) (cwV 0 ht (gdV k_12_237 k_12_234 k_12_236 ks_113 k_1_17) rfl rfl rfl (by decide +kernel) ⟨Nat.le_of_ble_eq_true rfl, Nat.le_of_ble_eq_true rfl⟩) ⟨pcw_blind, va_recv hK hP (ci := 15) (q0 := 1) rfl rfl, pcw_at hP hD hK [1] [] (by decide) rfl rfl rfl⟩ rfl rfl hl.1 rfl (lv_room (Nat.le_of_ble_eq_true rfl)) dX15_keeps_11 ⟨Nat.le_of_ble_eq_true rfl, Nat.le_of_ble_eq_true rfl⟩) hP hD hK hS hA [1] [0] rfl rfl (by decide) (by decide) (fun u H locs w_10 hK hP hD hS => ?_)
  obtain ⟨F_11, rfl⟩ : ∃ z, z = u := ⟨_, rfl⟩
  have hK : va_K (dC, dI) cls [] s := hK
  have hP : va_P (dC, dI) cls [(bd, .inr (13, gb)), (q, .inr (15, F_11))] H := hP
  have hD : va_D A [(bd, .inr (13, gb)), (q, .inr (15, F_11))] := hD
  obtain ⟨w_10, K_12, K_13, K_14, K_15, K_16⟩ := w_10
  refine lv_aload_n hx hb dX15_keeps_14 rfl (lv_at hl 0 rfl) ?_
  refine ca_v (wr := [(bd, .inr (13, gb))]) (va_runV (As := []) (rest := []) ⟨hx, hb, hml, hown, ht⟩ (r_begin l dC dI H.size q F_11 bd K_12 K_13 K_14 ) (cwV 0 ht (gdV k_13_1 k_12_238 k_13_0 ks_114 k_1_17) rfl rfl rfl (by decide +kernel) ⟨Nat.le_of_ble_eq_true rfl, Nat.le_of_ble_eq_true rfl⟩) ⟨pcw_blind, va_recv hK hP (ci := 15) (q0 := 1) rfl rfl, pcw_at hP hD hK [1] [] (by decide) rfl rfl rfl⟩ rfl rfl hl.1 rfl (lv_room (Nat.le_of_ble_eq_true rfl)) dX15_keeps_15 ⟨Nat.le_of_ble_eq_true rfl, Nat.le_of_ble_eq_true rfl⟩) hP hD hK hS hA [1] [0] rfl rfl (by decide) (by decide) (fun u H locs w_18 hK hP hD hS => ?_)
  obtain ⟨F_19, rfl⟩ : ∃ z, z = u := ⟨_, rfl⟩
  have hK : va_K (dC, dI) cls [] s := hK
  have hP : va_P (dC, dI) cls [(bd, .inr (13, gb)), (q, .inr (15, F_19))] H := hP
  have hD : va_D A [(bd, .inr (13, gb)), (q, .inr (15, F_19))] := hD
  obtain ⟨w_18, K_20, K_21, K_22, K_23⟩ := w_18
  refine lv_aload_n hx hb dX15_keeps_18 rfl (lv_at hl 0 rfl) ?_
  refine lv_sipush (v := 4400) hx hb dX15_keeps_19 (by decide) ?_
  refine va_put (D := (dC, dI)) (ci := 15) (v := .int 4400) (ty := .int) (C := RX15) (T := TX15) (N := 163) hx hb ht uX15 tyX15 tkX15 nmX15 hown hK hP hD hS 1 rfl rfl 17 (by decide) (ht _ k_10_205) (fun _ h9 => h9) rfl (by decide +kernel) rfl rfl (by rw [K_20]; decide) dX15_keeps_22 (fun H locs hP hD hS => ?_)
  obtain ⟨F_24, eF_24⟩ : ∃ g : List Value, g = F_19.set 17 (.int 4400) := ⟨_, rfl⟩
  rw [← eF_24] at hP hD
  have K23_F_24 : F_24[23]? = some (.ref bd) := by rw [eF_24, List.getElem?_set_ne (by decide)]; exact K_21
  have K27_F_24 : F_24[27]? = some (.int 0) := by rw [eF_24, List.getElem?_set_ne (by decide)]; exact K_22
  have K29_F_24 : F_24[29]? = some (.int 0) := by rw [eF_24, List.getElem?_set_ne (by decide)]; exact K_23
  have K17_F_24 : F_24[17]? = some (.int 4400) := by rw [eF_24]; exact List.getElem?_set_self (by rw [K_20]; decide)
  have L_F_24 : F_24.length = 163 := by rw [eF_24, List.length_set]; exact K_20
  have hP : va_P (dC, dI) cls [(bd, .inr (13, gb)), (q, .inr (15, F_24))] H := hP
  have hD : va_D A [(bd, .inr (13, gb)), (q, .inr (15, F_24))] := hD
  refine lv_aload_n hx hb dX15_keeps_25 rfl (lv_at hl 0 rfl) ?_
  refine lv_iconst (v := 0) hx hb dX15_keeps_26 (by decide) ?_
  refine lv_iconst (v := 0) hx hb dX15_keeps_27 (by decide) ?_
  have hFc := va_free (wc := [(q, .inr (15, F_24)), (bd, .inr (13, gb))]) hD hS hA [1, 0] rfl
  refine ux_calli (ux_runV (As := [.int 0, .int 0]) (rest := []) ⟨hx, hb, hml, hown, ht⟩ (r_takeTerm_0 l dC dI H.size q F_24 bd gb vTRUE vFALSE L_F_24 K23_F_24 K27_F_24 K29_F_24 L_gb ) (cwV 2 ht (gdV k_13_141 k_13_138 k_13_140 ks_139 k_1_17) rfl rfl rfl (by decide +kernel) ⟨Nat.le_of_ble_eq_true rfl, Nat.le_of_ble_eq_true rfl⟩) ⟨pcx_blind, va_recv hK hP (ci := 15) (q0 := 1) rfl rfl, pcx_at hP hD hK hS hA hE [1, 0] [] [0, 1] (by decide) rfl rfl rfl rfl⟩ rfl rfl hl.1 rfl (lv_room (Nat.le_of_ble_eq_true rfl)) dX15_keeps_28 ⟨Nat.le_of_ble_eq_true rfl, Nat.le_of_ble_eq_true rfl⟩) hS (fun q _ h => hFc q h) hFc (fun q _ h => hFc q h) (fun E9 ce t_25 u t H locs ht9 hvm hpx hB9 hz9 hk9 hS hce hcv hcl => ?_) (fun r u t H locs ht9 hvm hw _ _ _ _ => hw.elim)
  obtain ⟨F_26, rfl⟩ : ∃ z, z = u := ⟨_, rfl⟩
  obtain ⟨hq9, rfl, hP1, hK1, hD1⟩ := hB9
  rw [ht9] at hP1
  rw [hq9] at hce ⊢
  obtain ⟨hP, hD⟩ := va_join (wr := []) (w1 := [(q, .inr (15, F_24)), (bd, .inr (13, F_26))]) hP hD [1, 0] [] rfl rfl (by decide) (by decide) hk9 hFc hP1 hD1
  obtain ⟨K_27, K_28, K_29, -⟩ := hpx
  have hP : va_P (dC, dI) cls [(q, .inr (15, F_24)), (bd, .inr (13, F_26))] H := hP
  have hD : va_D A [(q, .inr (15, F_24)), (bd, .inr (13, F_26))] := hD
  refine ux_catch (E := "FinderHouseModel$Bad") (name := "FinderHouseModel$Bad") hown [] ⟨14, 100, 103, 89⟩ [] htab (fun z hz => by cases hz) (by decide) (by decide) (ht _ k_9_235) (nb_args rfl (xf_n hE 2 rfl _ kn_9_237)) hce hcv hcl ?_
  refine lv_astore_n (lv' := [(2, .ref bd), (0, .ref q)]) hx hb dX15_keeps_103 rfl hl (by decide) rfl (fun ls hl => ?_)
  refine lv_aload_n hx hb dX15_keeps_104 rfl (lv_at hl 1 rfl) ?_
  refine lv_aload_n hx hb dX15_keeps_105 rfl (lv_at hl 0 rfl) ?_
  refine ca_i (wr := []) (va_runV (As := [.ref bd]) (rest := []) ⟨hx, hb, hml, hown, ht⟩ (r_faulty l dC dI H.size q F_24 bd F_26 L_F_24 K_27 K_28 K_29 ) (cwV 1 ht (gdV k_13_169 k_13_166 k_13_168 ks_145 k_1_17) rfl rfl rfl (by decide +kernel) ⟨Nat.le_of_ble_eq_true rfl, Nat.le_of_ble_eq_true rfl⟩) ⟨pcw_blind, va_recv hK hP (ci := 15) (q0 := 0) rfl rfl, pcw_at hP hD hK [0, 1] [] (by decide) rfl rfl rfl⟩ rfl rfl hl.1 rfl (lv_room (Nat.le_of_ble_eq_true rfl)) dX15_keeps_106 ⟨Nat.le_of_ble_eq_true rfl, Nat.le_of_ble_eq_true rfl⟩) hP hD hK hS hA [0, 1] [] rfl rfl (by decide) (by decide) (fun r_30 u H locs w_31 hK hP hD hS => ?_)
  have hK : va_K (dC, dI) cls [] s := hK
  have hP : va_P (dC, dI) cls [] H := hP
  have hD : va_D A [] := hD
  obtain rfl : r_30 = (-11) := w_31
  exact W.iret (v := (-11)) hx hb hr (fun t ht9 hW => ⟨⟨(-11), (), rfl, rfl, by rw [ht9]; exact hP.sub [] rfl, va_K.moved hW.alike (hK.sub [] rfl), hD.sub [] (by decide) rfl⟩, hS.F ht9⟩) hS.2.2 dX15_keeps_109
set_option maxHeartbeats 4000000 in
set_option maxRecDepth 100000 in
theorem r_readAsk (l : Launch) (dC : Nat → ClassId) (dI : Nat → Nat → Nat) (sz : Nat) (q : Nat) (fs : List Value) (bd : Nat) (gb : List Value) (fa : Nat) (ga : List Value) (vFIND : Int64) (p0 : Int32) (L_fs : fs.length = 163) (K23_fs : fs[23]? = some (.ref bd)) (K27_fs : fs[27]? = some (.int 0)) (K29_fs : fs[29]? = some (.int 0)) (L_gb : gb.length = 8) (L_ga : ga.length = 28) (K0_ga : ga[0]? = some (.int p0)) : ux_Met l yX15_readAsk (Cond.code yX15_readAsk cX15_readAsk 5 none :: tb) ({ frames := 2, cells := 0, slots := 0, locals := 44 }) (pcx [.inl ("FinderHouseModel", "FIND", "J", .long vFIND)] [.ref q, .ref fa] (dC, dI) [(q, .inr (15, fs)), (bd, .inr (13, gb)), (fa, .inr (12, ga))] [] sz) (va_Qv (fun (_ : Unit) => False) (bw (dC, dI) (va_A [(q, .inr (15, fs)), (bd, .inr (13, gb)), (fa, .inr (12, ga))] sz) (fun (_ : Unit) => []) (fun (_ : Unit) => [])) (va_A [(q, .inr (15, fs)), (bd, .inr (13, gb)), (fa, .inr (12, ga))] sz)) (ux_X (fun (u : (List Value) × (List Value)) => match u with | (fs1, gb1) => fs1.length = 163 ∧ gb1.length = 8 ∧ gb1[6]? = some (.int 1) ∧ gb1[7]? = some (.int 0) ∧ True) (fun q9 E9 u9 t9 => q9 = bd ∧ E9 = "FinderHouseModel$Bad" ∧ bw (dC, dI) (va_A [(q, .inr (15, fs)), (bd, .inr (13, gb)), (fa, .inr (12, ga))] sz) (fun (u : (List Value) × (List Value)) => match u with | (fs1, gb1) => [(q, .inr (15, fs1)), (bd, .inr (13, gb1))]) (fun (u : (List Value) × (List Value)) => match u with | (fs1, gb1) => []) u9 t9) (va_A [(q, .inr (15, fs)), (bd, .inr (13, gb)), (fa, .inr (12, ga))] sz)) 0 0 (va_A [(q, .inr (15, fs)), (bd, .inr (13, gb)), (fa, .inr (12, ga))] sz) := by
  refine ux_ofW (cc := cX15_readAsk) (maxL := 5) (ret := none) (by decide) rfl ?_
  intro p e s m args below meth c s₁ B hml htab hv
  obtain ⟨rfl, hsz, hP, hK, hD0, hE⟩ := hv
  have hx := B.exec
  have hb := B.bytes
  have hr := B.returns
  have hts := atoms_spec (ws := Cond.code yX15_readAsk cX15_readAsk 5 none :: tb) B.pre
  have ht : ∀ w ∈ tb, w.before _ s = true := fun w h => hts w (List.mem_cons_of_mem _ h)
  have hown : s.vm.findClass RX15 = some m.cls := findClass_of_methodNamed B.named
  have hlocks := B.notSynchronized
  subst hsz
  have hD := hD0.self (sz := s.heap.size)
  generalize hAe : va_A [(q, .inr (15, fs)), (bd, .inr (13, gb)), (fa, .inr (12, ga))] s.heap.size = A at hD hE ⊢
  have hA : ∀ q : Nat, s.heap.size ≤ q → A q := fun q h => by rw [← hAe]; exact Or.inr h
  have hS : va_S A s.heap s.heap [] := va_S.rf
  have hl := lv_entry ([.ref q, .ref fa]) (n := 5) (Nat.le_of_ble_eq_true rfl)
  rw [lg_entry_eq]
  generalize (lg_sl ([.ref q, .ref fa]) ++ List.replicate (5 - (lg_sl ([.ref q, .ref fa])).length) Slot.unset).toArray = ls at hl ⊢
  have hl : lv_has ls 5 [(0, .ref q), (1, .ref fa)] := hl
  have hP : va_P (dC, dI) cls [(q, .inr (15, fs)), (bd, .inr (13, gb)), (fa, .inr (12, ga))] s.heap := hP
  refine lv_aload_n hx hb dX15_readAsk_0 rfl (lv_at hl 0 rfl) ?_
  refine lv_aload_n hx hb dX15_readAsk_1 rfl (lv_at hl 1 rfl) ?_
  refine va_get (D := (dC, dI)) (ci := 12) (v := .int p0) (C := RX12) (T := TX12) (N := 28) hx hb ht uX12 hown hK hP 2 rfl rfl 0 (by decide) (ht _ k_10_33) (fun _ h9 => h9) K0_ga dX15_readAsk_2 ?_
  refine va_put (D := (dC, dI)) (ci := 15) (v := .int p0) (ty := .int) (C := RX15) (T := TX15) (N := 163) hx hb ht uX15 tyX15 tkX15 nmX15 hown hK hP hD hS 0 rfl rfl 17 (by decide) (ht _ k_10_205) (fun _ h9 => h9) rfl (by decide +kernel) rfl rfl (by rw [L_fs]; decide) dX15_readAsk_5 (fun H locs hP hD hS => ?_)
  obtain ⟨F_1, eF_1⟩ : ∃ g : List Value, g = fs.set 17 (.int p0) := ⟨_, rfl⟩
  rw [← eF_1] at hP hD
  have K23_F_1 : F_1[23]? = some (.ref bd) := by rw [eF_1, List.getElem?_set_ne (by decide)]; exact K23_fs
  have K27_F_1 : F_1[27]? = some (.int 0) := by rw [eF_1, List.getElem?_set_ne (by decide)]; exact K27_fs
  have K29_F_1 : F_1[29]? = some (.int 0) := by rw [eF_1, List.getElem?_set_ne (by decide)]; exact K29_fs
  have K17_F_1 : F_1[17]? = some (.int p0) := by rw [eF_1]; exact List.getElem?_set_self (by rw [L_fs]; decide)
  have L_F_1 : F_1.length = 163 := by rw [eF_1, List.length_set]; exact L_fs
  have hP : va_P (dC, dI) cls [(q, .inr (15, F_1)), (bd, .inr (13, gb)), (fa, .inr (12, ga))] H := hP
  have hD : va_D A [(q, .inr (15, F_1)), (bd, .inr (13, gb)), (fa, .inr (12, ga))] := hD
  refine lv_aload_n hx hb dX15_readAsk_8 rfl (lv_at hl 0 rfl) ?_
  refine va_gets (v := .long vFIND) hx hb (xf_z hE 0 rfl) hS hown (ht _ k_13_31) (fun _ h9 => h9) dX15_readAsk_9 ?_
  have hFc := va_free (wc := [(q, .inr (15, F_1)), (bd, .inr (13, gb))]) hD hS hA [0, 1] rfl
  refine ux_callv (ux_runV (As := [.long vFIND]) (rest := []) ⟨hx, hb, hml, hown, ht⟩ (r_passName l dC dI H.size q F_1 bd gb vFIND L_F_1 K23_F_1 K27_F_1 K29_F_1 L_gb ) (cwV 1 ht (gdV k_13_36 k_13_33 k_13_35 ks_120 k_1_17) rfl rfl rfl (by decide +kernel) ⟨Nat.le_of_ble_eq_true rfl, Nat.le_of_ble_eq_true rfl⟩) ⟨pcw_blind, va_recv hK hP (ci := 15) (q0 := 0) rfl rfl, pcw_at hP hD hK [0, 1] [] (by decide) rfl rfl rfl⟩ rfl rfl hl.1 rfl (lv_room (Nat.le_of_ble_eq_true rfl)) dX15_readAsk_12 ⟨Nat.le_of_ble_eq_true rfl, Nat.le_of_ble_eq_true rfl⟩) hS (fun q _ h => hFc q h) hFc (fun q _ h => hFc q h) (fun E9 ce t_2 u t H locs ht9 hvm hpx hB9 hz9 hk9 hS hce hcv hcl => ?_) (fun u t H locs ht9 hvm hw _ _ _ _ => hw.elim)
  obtain ⟨F_3, rfl⟩ : ∃ z, z = u := ⟨_, rfl⟩
  obtain ⟨hq9, rfl, hP1, hK1, hD1⟩ := hB9
  rw [ht9] at hP1
  rw [hq9] at hce ⊢
  obtain ⟨hP, hD⟩ := va_join (wr := [(fa, .inr (12, ga))]) (w1 := [(q, .inr (15, F_1)), (bd, .inr (13, F_3))]) hP hD [0, 1] [2] rfl rfl (by decide) (by decide) hk9 hFc hP1 hD1
  obtain ⟨K_4, K_5, K_6, -⟩ := hpx
  have hP : va_P (dC, dI) cls [(fa, .inr (12, ga)), (q, .inr (15, F_1)), (bd, .inr (13, F_3))] H := hP
  have hD : va_D A [(fa, .inr (12, ga)), (q, .inr (15, F_1)), (bd, .inr (13, F_3))] := hD
  exact ux_out (E := "FinderHouseModel$Bad") (fun x hx9 => (htab x hx9).elim) hlocks hce hcv hcl (fun t ht9 hvm9 => ⟨(F_1, F_3), ⟨L_F_1, K_4, K_5, K_6, trivial⟩, ⟨rfl, rfl, by rw [ht9]; exact hP.sub [1, 2] rfl, va_K.moved hvm9 (hK.sub [] rfl), hD.sub [1, 2] (by decide) rfl⟩, hS.F ht9⟩) hS.2.2 (Nat.le_of_ble_eq_true rfl) (Nat.le_of_ble_eq_true rfl)
set_option maxHeartbeats 4000000 in
set_option maxRecDepth 100000 in
theorem r_takeTape_ask (l : Launch) (dC : Nat → ClassId) (dI : Nat → Nat → Nat) (sz : Nat) (q : Nat) (fs : List Value) (bd : Nat) (fa : Nat) (L_fs : fs.length = 163) (K23_fs : fs[23]? = some (.ref bd)) (K36_fs : fs[36]? = some (.ref fa)) (K38_fs : fs[38]? = some (.null)) (K53_fs : fs[53]? = some (.int 0)) : Met l yX15_takeTape (Cond.code yX15_takeTape cX15_takeTape 2 none :: tb) ({ frames := 0, cells := 0, slots := 0, locals := 0 }) (pcw [.ref q] (dC, dI) [(q, .inr (15, fs))] [] sz) (va_Qv (fun (fs1 : List Value) => (True) ∧ (fs1.length = 163) ∧ (fs1[23]? = some (.ref bd)) ∧ (fs1[25]? = some (.int 0)) ∧ (fs1[36]? = some (.ref fa)) ∧ (fs1[38]? = some (.null)) ∧ (fs1[51]? = some (.int 0)) ∧ (fs1[53]? = some (.int 0))) (bw (dC, dI) (va_A [(q, .inr (15, fs))] sz) (fun (fs1 : List Value) => [(q, .inr (15, fs1))]) (fun (fs1 : List Value) => [])) (va_A [(q, .inr (15, fs))] sz)) 0 0 (va_A [(q, .inr (15, fs))] sz) := by
  refine Met.ofW (cc := cX15_takeTape) (maxL := 2) (ret := none) (by decide) rfl ?_
  intro p e s m args below meth c s₁ B hml hv
  obtain ⟨rfl, hsz, hP, hK, hD0⟩ := hv
  have hx := B.exec
  have hb := B.bytes
  have hr := B.returns
  have hts := atoms_spec (ws := Cond.code yX15_takeTape cX15_takeTape 2 none :: tb) B.pre
  have ht : ∀ w ∈ tb, w.before _ s = true := fun w h => hts w (List.mem_cons_of_mem _ h)
  have hown : s.vm.findClass RX15 = some m.cls := findClass_of_methodNamed B.named
  have hlocks := B.notSynchronized
  subst hsz
  have hD := hD0.self (sz := s.heap.size)
  generalize hAe : va_A [(q, .inr (15, fs))] s.heap.size = A at hD ⊢
  have hA : ∀ q : Nat, s.heap.size ≤ q → A q := fun q h => by rw [← hAe]; exact Or.inr h
  have hS : va_S A s.heap s.heap [] := va_S.rf
  have hl := lv_entry ([.ref q]) (n := 2) (Nat.le_of_ble_eq_true rfl)
  rw [lg_entry_eq]
  generalize (lg_sl ([.ref q]) ++ List.replicate (2 - (lg_sl ([.ref q])).length) Slot.unset).toArray = ls at hl ⊢
  have hl : lv_has ls 2 [(0, .ref q)] := hl
  have hP : va_P (dC, dI) cls [(q, .inr (15, fs))] s.heap := hP
  refine lv_aload_n hx hb dX15_takeTape_0 rfl (lv_at hl 0 rfl) ?_
  refine lv_iconst (v := 0) hx hb dX15_takeTape_1 (by decide) ?_
  refine va_put (D := (dC, dI)) (ci := 15) (v := .int 0) (ty := .int) (C := RX15) (T := TX15) (N := 163) hx hb ht uX15 tyX15 tkX15 nmX15 hown hK hP hD hS 0 rfl rfl 51 (by decide) (ht _ k_10_239) (fun _ h9 => h9) rfl (by decide +kernel) rfl rfl (by rw [L_fs]; decide) dX15_takeTape_2 (fun H locs hP hD hS => ?_)
  obtain ⟨F_1, eF_1⟩ : ∃ g : List Value, g = fs.set 51 (.int 0) := ⟨_, rfl⟩
  rw [← eF_1] at hP hD
  have K23_F_1 : F_1[23]? = some (.ref bd) := by rw [eF_1, List.getElem?_set_ne (by decide)]; exact K23_fs
  have K36_F_1 : F_1[36]? = some (.ref fa) := by rw [eF_1, List.getElem?_set_ne (by decide)]; exact K36_fs
  have K38_F_1 : F_1[38]? = some (.null) := by rw [eF_1, List.getElem?_set_ne (by decide)]; exact K38_fs
  have K53_F_1 : F_1[53]? = some (.int 0) := by rw [eF_1, List.getElem?_set_ne (by decide)]; exact K53_fs
  have K51_F_1 : F_1[51]? = some (.int 0) := by rw [eF_1]; exact List.getElem?_set_self (by rw [L_fs]; decide)
  have L_F_1 : F_1.length = 163 := by rw [eF_1, List.length_set]; exact L_fs
  have hP : va_P (dC, dI) cls [(q, .inr (15, F_1))] H := hP
  have hD : va_D A [(q, .inr (15, F_1))] := hD
  refine lv_iconst (v := 0) hx hb dX15_takeTape_5 (by decide) ?_
  refine lv_istore_n (lv' := [(1, .int 0), (0, .ref q)]) hx hb dX15_takeTape_6 rfl hl (by decide) rfl (fun ls hl => ?_)
  refine lv_iload_n hx hb dX15_takeTape_7 rfl (lv_at hl 0 rfl) ?_
  refine lv_aload_n hx hb dX15_takeTape_8 rfl (lv_at hl 1 rfl) ?_
  refine va_get (D := (dC, dI)) (ci := 15) (v := .int 0) (C := RX15) (T := TX15) (N := 163) hx hb ht uX15 hown hK hP 0 rfl rfl 53 (by decide) (ht _ k_11_1) (fun _ h9 => h9) K53_F_1 dX15_takeTape_9 ?_
  refine lv_icmp_ge (tgt := 33) hx hb dX15_takeTape_12 (by decide) (fun _ => ?_) (fun c0 => absurd c0 (by decide))
  refine lv_aload_n hx hb dX15_takeTape_33 rfl (lv_at hl 1 rfl) ?_
  refine lv_aload_n hx hb dX15_takeTape_34 rfl (lv_at hl 1 rfl) ?_
  refine va_get (D := (dC, dI)) (ci := 15) (v := .int 0) (C := RX15) (T := TX15) (N := 163) hx hb ht uX15 hown hK hP 0 rfl rfl 53 (by decide) (ht _ k_11_1) (fun _ h9 => h9) K53_F_1 dX15_takeTape_35 ?_
  refine va_put (D := (dC, dI)) (ci := 15) (v := .int 0) (ty := .int) (C := RX15) (T := TX15) (N := 163) hx hb ht uX15 tyX15 tkX15 nmX15 hown hK hP hD hS 0 rfl rfl 25 (by decide) (ht _ k_10_213) (fun _ h9 => h9) rfl (by decide +kernel) rfl rfl (by rw [L_F_1]; decide) dX15_takeTape_38 (fun H locs hP hD hS => ?_)
  obtain ⟨F_2, eF_2⟩ : ∃ g : List Value, g = F_1.set 25 (.int 0) := ⟨_, rfl⟩
  rw [← eF_2] at hP hD
  have K23_F_2 : F_2[23]? = some (.ref bd) := by rw [eF_2, List.getElem?_set_ne (by decide)]; exact K23_F_1
  have K36_F_2 : F_2[36]? = some (.ref fa) := by rw [eF_2, List.getElem?_set_ne (by decide)]; exact K36_F_1
  have K38_F_2 : F_2[38]? = some (.null) := by rw [eF_2, List.getElem?_set_ne (by decide)]; exact K38_F_1
  have K51_F_2 : F_2[51]? = some (.int 0) := by rw [eF_2, List.getElem?_set_ne (by decide)]; exact K51_F_1
  have K53_F_2 : F_2[53]? = some (.int 0) := by rw [eF_2, List.getElem?_set_ne (by decide)]; exact K53_F_1
  have K25_F_2 : F_2[25]? = some (.int 0) := by rw [eF_2]; exact List.getElem?_set_self (by rw [L_F_1]; decide)
  have L_F_2 : F_2.length = 163 := by rw [eF_2, List.length_set]; exact L_F_1
  have hP : va_P (dC, dI) cls [(q, .inr (15, F_2))] H := hP
  have hD : va_D A [(q, .inr (15, F_2))] := hD
  refine lv_aload_n hx hb dX15_takeTape_41 rfl (lv_at hl 1 rfl) ?_
  refine lv_iconst (v := 0) hx hb dX15_takeTape_42 (by decide) ?_
  refine va_put (D := (dC, dI)) (ci := 15) (v := .int 0) (ty := .int) (C := RX15) (T := TX15) (N := 163) hx hb ht uX15 tyX15 tkX15 nmX15 hown hK hP hD hS 0 rfl rfl 53 (by decide) (ht _ k_11_1) (fun _ h9 => h9) rfl (by decide +kernel) rfl rfl (by rw [L_F_2]; decide) dX15_takeTape_43 (fun H locs hP hD hS => ?_)
  obtain ⟨F_3, eF_3⟩ : ∃ g : List Value, g = F_2.set 53 (.int 0) := ⟨_, rfl⟩
  rw [← eF_3] at hP hD
  have K23_F_3 : F_3[23]? = some (.ref bd) := by rw [eF_3, List.getElem?_set_ne (by decide)]; exact K23_F_2
  have K25_F_3 : F_3[25]? = some (.int 0) := by rw [eF_3, List.getElem?_set_ne (by decide)]; exact K25_F_2
  have K36_F_3 : F_3[36]? = some (.ref fa) := by rw [eF_3, List.getElem?_set_ne (by decide)]; exact K36_F_2
  have K38_F_3 : F_3[38]? = some (.null) := by rw [eF_3, List.getElem?_set_ne (by decide)]; exact K38_F_2
  have K51_F_3 : F_3[51]? = some (.int 0) := by rw [eF_3, List.getElem?_set_ne (by decide)]; exact K51_F_2
  have K53_F_3 : F_3[53]? = some (.int 0) := by rw [eF_3]; exact List.getElem?_set_self (by rw [L_F_2]; decide)
  have L_F_3 : F_3.length = 163 := by rw [eF_3, List.length_set]; exact L_F_2
  have hP : va_P (dC, dI) cls [(q, .inr (15, F_3))] H := hP
  have hD : va_D A [(q, .inr (15, F_3))] := hD
  exact W.vret hx hb hr (fun t ht9 hW => ⟨⟨(F_3), rfl, ⟨trivial, L_F_3, K23_F_3, K25_F_3, K36_F_3, K38_F_3, K51_F_3, K53_F_3⟩, by rw [ht9]; exact hP.sub [0] rfl, va_K.moved hW.alike (hK.sub [] rfl), hD.sub [0] (by decide) rfl⟩, hS.F ht9⟩) hS.2.2 dX15_takeTape_46
set_option maxHeartbeats 4000000 in
set_option maxRecDepth 100000 in
theorem r_isDown_ask (l : Launch) (dC : Nat → ClassId) (dI : Nat → Nat → Nat) (sz : Nat) (q : Nat) (fs : List Value) (bd : Nat) (fa : Nat) (L_fs : fs.length = 163) (K23_fs : fs[23]? = some (.ref bd)) (K36_fs : fs[36]? = some (.ref fa)) (K38_fs : fs[38]? = some (.null)) (K53_fs : fs[53]? = some (.int 0)) (K54_fs : fs[54]? = some (.int 0)) : Met l yX15_isDown (Cond.code yX15_isDown cX15_isDown 1 (some .boolean) :: tb) ({ frames := 0, cells := 0, slots := 0, locals := 0 }) (pcw [.ref q] (dC, dI) [(q, .inr (15, fs))] [] sz) (va_Qi (fun (r : Int32) => (fun (fs1 : List Value) => (r = 0) ∧ (fs1.length = 163) ∧ (fs1[23]? = some (.ref bd)) ∧ (fs1[36]? = some (.ref fa)) ∧ (fs1[38]? = some (.null)) ∧ (fs1[51]? = some (.int 0)) ∧ (fs1[53]? = some (.int 0)) ∧ (fs1[54]? = some (.int 0)))) (bw (dC, dI) (va_A [(q, .inr (15, fs))] sz) (fun (fs1 : List Value) => [(q, .inr (15, fs1))]) (fun (fs1 : List Value) => [])) (va_A [(q, .inr (15, fs))] sz)) 0 0 (va_A [(q, .inr (15, fs))] sz) := by
  refine Met.ofW (cc := cX15_isDown) (maxL := 1) (ret := (some .boolean)) (by decide) rfl ?_
  intro p e s m args below meth c s₁ B hml hv
  obtain ⟨rfl, hsz, hP, hK, hD0⟩ := hv
  have hx := B.exec
  have hb := B.bytes
  have hr := B.returns
  have hts := atoms_spec (ws := Cond.code yX15_isDown cX15_isDown 1 (some .boolean) :: tb) B.pre
  have ht : ∀ w ∈ tb, w.before _ s = true := fun w h => hts w (List.mem_cons_of_mem _ h)
  have hown : s.vm.findClass RX15 = some m.cls := findClass_of_methodNamed B.named
  have hlocks := B.notSynchronized
  subst hsz
  have hD := hD0.self (sz := s.heap.size)
  generalize hAe : va_A [(q, .inr (15, fs))] s.heap.size = A at hD ⊢
  have hA : ∀ q : Nat, s.heap.size ≤ q → A q := fun q h => by rw [← hAe]; exact Or.inr h
  have hS : va_S A s.heap s.heap [] := va_S.rf
  have hl := lv_entry ([.ref q]) (n := 1) (Nat.le_of_ble_eq_true rfl)
  rw [lg_entry_eq]
  generalize (lg_sl ([.ref q]) ++ List.replicate (1 - (lg_sl ([.ref q])).length) Slot.unset).toArray = ls at hl ⊢
  have hl : lv_has ls 1 [(0, .ref q)] := hl
  have hP : va_P (dC, dI) cls [(q, .inr (15, fs))] s.heap := hP
  refine lv_aload_n hx hb dX15_isDown_0 rfl (lv_at hl 0 rfl) ?_
  refine lv_iconst (v := 0) hx hb dX15_isDown_1 (by decide) ?_
  refine va_put (D := (dC, dI)) (ci := 15) (v := .int 0) (ty := .int) (C := RX15) (T := TX15) (N := 163) hx hb ht uX15 tyX15 tkX15 nmX15 hown hK hP hD hS 0 rfl rfl 51 (by decide) (ht _ k_10_239) (fun _ h9 => h9) rfl (by decide +kernel) rfl rfl (by rw [L_fs]; decide) dX15_isDown_2 (fun H locs hP hD hS => ?_)
  obtain ⟨F_1, eF_1⟩ : ∃ g : List Value, g = fs.set 51 (.int 0) := ⟨_, rfl⟩
  rw [← eF_1] at hP hD
  have K23_F_1 : F_1[23]? = some (.ref bd) := by rw [eF_1, List.getElem?_set_ne (by decide)]; exact K23_fs
  have K36_F_1 : F_1[36]? = some (.ref fa) := by rw [eF_1, List.getElem?_set_ne (by decide)]; exact K36_fs
  have K38_F_1 : F_1[38]? = some (.null) := by rw [eF_1, List.getElem?_set_ne (by decide)]; exact K38_fs
  have K53_F_1 : F_1[53]? = some (.int 0) := by rw [eF_1, List.getElem?_set_ne (by decide)]; exact K53_fs
  have K54_F_1 : F_1[54]? = some (.int 0) := by rw [eF_1, List.getElem?_set_ne (by decide)]; exact K54_fs
  have K51_F_1 : F_1[51]? = some (.int 0) := by rw [eF_1]; exact List.getElem?_set_self (by rw [L_fs]; decide)
  have L_F_1 : F_1.length = 163 := by rw [eF_1, List.length_set]; exact L_fs
  have hP : va_P (dC, dI) cls [(q, .inr (15, F_1))] H := hP
  have hD : va_D A [(q, .inr (15, F_1))] := hD
  refine lv_aload_n hx hb dX15_isDown_5 rfl (lv_at hl 0 rfl) ?_
  refine va_get (D := (dC, dI)) (ci := 15) (v := .int 0) (C := RX15) (T := TX15) (N := 163) hx hb ht uX15 hown hK hP 0 rfl rfl 54 (by decide) (ht _ k_11_2) (fun _ h9 => h9) K54_F_1 dX15_isDown_6 ?_
  exact W.zret (v := 0) hx hb hr rfl (fun t ht9 hW => ⟨⟨0, (F_1), rfl, ⟨rfl, L_F_1, K23_F_1, K36_F_1, K38_F_1, K51_F_1, K53_F_1, K54_F_1⟩, by rw [ht9]; exact hP.sub [0] rfl, va_K.moved hW.alike (hK.sub [] rfl), hD.sub [0] (by decide) rfl⟩, hS.F ht9⟩) hS.2.2 dX15_isDown_9
set_option maxHeartbeats 4000000 in
set_option maxRecDepth 100000 in
theorem r_ask (l : Launch) (dC : Nat → ClassId) (dI : Nat → Nat → Nat) (sz : Nat) (q : Nat) (fs : List Value) (bd : Nat) (gb : List Value) (fa : Nat) (ga : List Value) (vFIND : Int64) (p0 : Int32) (L_fs : fs.length = 163) (K23_fs : fs[23]? = some (.ref bd)) (K36_fs : fs[36]? = some (.ref fa)) (K38_fs : fs[38]? = some (.null)) (K53_fs : fs[53]? = some (.int 0)) (K54_fs : fs[54]? = some (.int 0)) (L_gb : gb.length = 8) (L_ga : ga.length = 28) (K0_ga : ga[0]? = some (.int p0)) : Met l yX15_ask (Cond.codeWith yX15_ask cX15_ask 3 (some .int) [(37, 55, 56, 89)] :: tb) ({ frames := 3, cells := 0, slots := 0, locals := 68 }) (pcx [.inl ("FinderHouseModel", "FIND", "J", .long vFIND), .inr (.inr (.inr (.inr (.inr (.inr ())))))] [.ref q] (dC, dI) [(q, .inr (15, fs)), (bd, .inr (13, gb)), (fa, .inr (12, ga))] [] sz) (va_Qi (fun (r : Int32) => (fun (_ : Unit) => r = -11)) (bw (dC, dI) (va_A [(q, .inr (15, fs)), (bd, .inr (13, gb)), (fa, .inr (12, ga))] sz) (fun (_ : Unit) => []) (fun (_ : Unit) => [])) (va_A [(q, .inr (15, fs)), (bd, .inr (13, gb)), (fa, .inr (12, ga))] sz)) 0 0 (va_A [(q, .inr (15, fs)), (bd, .inr (13, gb)), (fa, .inr (12, ga))] sz) := by
  refine va_MetW (cc := cX15_ask) (maxL := 3) (ret := (some .int)) (hh := [(37, 55, 56, 89)]) (by decide) rfl ?_
  intro p e s m args below meth c s₁ B hml hv
  obtain ⟨rfl, hsz, hP, hK, hD0, hE⟩ := hv
  have hx := B.exec
  have hb := B.bytes
  have hr := B.returns
  have hts := atoms_spec (ws := Cond.codeWith yX15_ask cX15_ask 3 (some .int) [(37, 55, 56, 89)] :: tb) B.pre
  have htab : c.exceptionTable.toList = tableOf [(37, 55, 56, 89)] := vx_table (x := yX15_ask) B (hts _ List.mem_cons_self)
  have ht : ∀ w ∈ tb, w.before _ s = true := fun w h => hts w (List.mem_cons_of_mem _ h)
  have hown : s.vm.findClass RX15 = some m.cls := findClass_of_methodNamed B.named
  have hlocks := B.notSynchronized
  subst hsz
  have hD := hD0.self (sz := s.heap.size)
  generalize hAe : va_A [(q, .inr (15, fs)), (bd, .inr (13, gb)), (fa, .inr (12, ga))] s.heap.size = A at hD hE ⊢
  have hA : ∀ q : Nat, s.heap.size ≤ q → A q := fun q h => by rw [← hAe]; exact Or.inr h
  have hS : va_S A s.heap s.heap [] := va_S.rf
  have hl := lv_entry ([.ref q]) (n := 3) (Nat.le_of_ble_eq_true rfl)
  rw [lg_entry_eq]
  generalize (lg_sl ([.ref q]) ++ List.replicate (3 - (lg_sl ([.ref q])).length) Slot.unset).toArray = ls at hl ⊢
  have hl : lv_has ls 3 [(0, .ref q)] := hl
  have hP : va_P (dC, dI) cls [(q, .inr (15, fs)), (bd, .inr (13, gb)), (fa, .inr (12, ga))] s.heap := hP
  refine lv_aload_n hx hb dX15_ask_0 rfl (lv_at hl 0 rfl) ?_
  refine ca_i (wr := [(bd, .inr (13, gb)), (fa, .inr (12, ga))]) (va_runV (As := []) (rest := []) ⟨hx, hb, hml, hown, ht⟩ (r_isDown_ask l dC dI s.heap.size q fs bd fa L_fs K23_fs K36_fs K38_fs K53_fs K54_fs ) (cwV 0 ht (gdV k_12_228 k_12_225 k_12_227 ks_112 k_1_17) rfl rfl rfl (by decide +kernel) ⟨Nat.le_of_ble_eq_true rfl, Nat.le_of_ble_eq_true rfl⟩) ⟨pcw_blind, va_recv hK hP (ci := 15) (q0 := 0) rfl rfl, pcw_at hP hD hK [0] [] (by decide) rfl rfl rfl⟩ rfl rfl hl.1 rfl (lv_room (Nat.le_of_ble_eq_true rfl)) dX15_ask_1 ⟨Nat.le_of_ble_eq_true rfl, Nat.le_of_ble_eq_true rfl⟩) hP hD hK hS hA [0] [1, 2] rfl rfl (by decide) (by decide) (fun r_1 u H locs w_2 hK hP hD hS => ?_)
  obtain ⟨F_3, rfl⟩ : ∃ z, z = u := ⟨_, rfl⟩
  have hK : va_K (dC, dI) cls [] s := hK
  have hP : va_P (dC, dI) cls [(bd, .inr (13, gb)), (fa, .inr (12, ga)), (q, .inr (15, F_3))] H := hP
  have hD : va_D A [(bd, .inr (13, gb)), (fa, .inr (12, ga)), (q, .inr (15, F_3))] := hD
  obtain ⟨w_2, K_4, K_5, K_6, K_7, K_8, K_9, K_10⟩ := w_2
  obtain rfl : r_1 = 0 := w_2
  refine lv_if_eq (tgt := 10) hx hb dX15_ask_4 (by decide) (fun _ => ?_) (fun c0 => absurd c0 (by decide))
  refine lv_aload_n hx hb dX15_ask_10 rfl (lv_at hl 0 rfl) ?_
  refine ca_v (wr := [(bd, .inr (13, gb)), (fa, .inr (12, ga))]) (va_runV (As := []) (rest := []) ⟨hx, hb, hml, hown, ht⟩ (r_takeTape_ask l dC dI H.size q F_3 bd fa K_4 K_5 K_6 K_7 K_9 ) (cwV 0 ht (gdV k_12_237 k_12_234 k_12_236 ks_113 k_1_17) rfl rfl rfl (by decide +kernel) ⟨Nat.le_of_ble_eq_true rfl, Nat.le_of_ble_eq_true rfl⟩) ⟨pcw_blind, va_recv hK hP (ci := 15) (q0 := 2) rfl rfl, pcw_at hP hD hK [2] [] (by decide) rfl rfl rfl⟩ rfl rfl hl.1 rfl (lv_room (Nat.le_of_ble_eq_true rfl)) dX15_ask_11 ⟨Nat.le_of_ble_eq_true rfl, Nat.le_of_ble_eq_true rfl⟩) hP hD hK hS hA [2] [0, 1] rfl rfl (by decide) (by decide) (fun u H locs w_12 hK hP hD hS => ?_)
  obtain ⟨F_13, rfl⟩ : ∃ z, z = u := ⟨_, rfl⟩
  have hK : va_K (dC, dI) cls [] s := hK
  have hP : va_P (dC, dI) cls [(bd, .inr (13, gb)), (fa, .inr (12, ga)), (q, .inr (15, F_13))] H := hP
  have hD : va_D A [(bd, .inr (13, gb)), (fa, .inr (12, ga)), (q, .inr (15, F_13))] := hD
  obtain ⟨w_12, K_14, K_15, K_16, K_17, K_18, K_19, K_20⟩ := w_12
  refine lv_aload_n hx hb dX15_ask_14 rfl (lv_at hl 0 rfl) ?_
  refine va_get (D := (dC, dI)) (ci := 15) (v := .null) (C := RX15) (T := TX15) (N := 163) hx hb ht uX15 hown hK hP 2 rfl rfl 38 (by decide) (ht _ k_10_226) (fun _ h9 => h9) K_18 dX15_ask_15 ?_
  refine lv_aload_n hx hb dX15_ask_18 rfl (lv_at hl 0 rfl) ?_
  refine va_get (D := (dC, dI)) (ci := 15) (v := .ref fa) (C := RX15) (T := TX15) (N := 163) hx hb ht uX15 hown hK hP 2 rfl rfl 36 (by decide) (ht _ k_10_224) (fun _ h9 => h9) K_17 dX15_ask_19 ?_
  refine lv_acmp_ne (rx := none) (ry := (some fa)) (tgt := 32) hx hb dX15_ask_22 (by decide) (fun _ => ?_) (fun h => by cases h)
  refine lv_aload_n hx hb dX15_ask_32 rfl (lv_at hl 0 rfl) ?_
  refine va_get (D := (dC, dI)) (ci := 15) (v := .ref fa) (C := RX15) (T := TX15) (N := 163) hx hb ht uX15 hown hK hP 2 rfl rfl 36 (by decide) (ht _ k_10_224) (fun _ h9 => h9) K_17 dX15_ask_33 ?_
  refine lv_astore_n (lv' := [(1, .ref fa), (0, .ref q)]) hx hb dX15_ask_36 rfl hl (by decide) rfl (fun ls hl => ?_)
  refine lv_aload_n hx hb dX15_ask_37 rfl (lv_at hl 1 rfl) ?_
  refine ca_v (wr := [(bd, .inr (13, gb)), (fa, .inr (12, ga))]) (va_runV (As := []) (rest := []) ⟨hx, hb, hml, hown, ht⟩ (r_begin l dC dI H.size q F_13 bd K_14 K_15 K_16 ) (cwV 0 ht (gdV k_13_1 k_12_238 k_13_0 ks_114 k_1_17) rfl rfl rfl (by decide +kernel) ⟨Nat.le_of_ble_eq_true rfl, Nat.le_of_ble_eq_true rfl⟩) ⟨pcw_blind, va_recv hK hP (ci := 15) (q0 := 2) rfl rfl, pcw_at hP hD hK [2] [] (by decide) rfl rfl rfl⟩ rfl rfl hl.1 rfl (lv_room (Nat.le_of_ble_eq_true rfl)) dX15_ask_38 ⟨Nat.le_of_ble_eq_true rfl, Nat.le_of_ble_eq_true rfl⟩) hP hD hK hS hA [2] [0, 1] rfl rfl (by decide) (by decide) (fun u H locs w_22 hK hP hD hS => ?_)
  obtain ⟨F_23, rfl⟩ : ∃ z, z = u := ⟨_, rfl⟩
  have hK : va_K (dC, dI) cls [] s := hK
  have hP : va_P (dC, dI) cls [(bd, .inr (13, gb)), (fa, .inr (12, ga)), (q, .inr (15, F_23))] H := hP
  have hD : va_D A [(bd, .inr (13, gb)), (fa, .inr (12, ga)), (q, .inr (15, F_23))] := hD
  obtain ⟨w_22, K_24, K_25, K_26, K_27⟩ := w_22
  refine lv_aload_n hx hb dX15_ask_41 rfl (lv_at hl 1 rfl) ?_
  refine lv_aload_n hx hb dX15_ask_42 rfl (lv_at hl 0 rfl) ?_
  have hFc := va_free (wc := [(q, .inr (15, F_23)), (bd, .inr (13, gb)), (fa, .inr (12, ga))]) hD hS hA [2, 0, 1] rfl
  refine ux_callv (ux_runV (As := [.ref fa]) (rest := []) ⟨hx, hb, hml, hown, ht⟩ (r_readAsk l dC dI H.size q F_23 bd gb fa ga vFIND p0 K_24 K_25 K_26 K_27 L_gb L_ga K0_ga ) (cwV 1 ht (gdV k_13_30 k_13_27 k_13_29 ks_119 k_1_17) rfl rfl rfl (by decide +kernel) ⟨Nat.le_of_ble_eq_true rfl, Nat.le_of_ble_eq_true rfl⟩) ⟨pcx_blind, va_recv hK hP (ci := 15) (q0 := 2) rfl rfl, pcx_at hP hD hK hS hA hE [2, 0, 1] [] [0] (by decide) rfl rfl rfl rfl⟩ rfl rfl hl.1 rfl (lv_room (Nat.le_of_ble_eq_true rfl)) dX15_ask_43 ⟨Nat.le_of_ble_eq_true rfl, Nat.le_of_ble_eq_true rfl⟩) hS (fun q _ h => hFc q h) hFc (fun q _ h => hFc q h) (fun E9 ce t_28 u t H locs ht9 hvm hpx hB9 hz9 hk9 hS hce hcv hcl => ?_) (fun u t H locs ht9 hvm hw _ _ _ _ => hw.elim)
  obtain ⟨F_29, F_30⟩ := u
  obtain ⟨hq9, rfl, hP1, hK1, hD1⟩ := hB9
  rw [ht9] at hP1
  rw [hq9] at hce ⊢
  obtain ⟨hP, hD⟩ := va_join (wr := []) (w1 := [(q, .inr (15, F_29)), (bd, .inr (13, F_30))]) hP hD [2, 0, 1] [] rfl rfl (by decide) (by decide) hk9 hFc hP1 hD1
  obtain ⟨K_31, K_32, K_33, K_34, -⟩ := hpx
  have hP : va_P (dC, dI) cls [(q, .inr (15, F_29)), (bd, .inr (13, F_30))] H := hP
  have hD : va_D A [(q, .inr (15, F_29)), (bd, .inr (13, F_30))] := hD
  refine ux_catch (E := "FinderHouseModel$Bad") (name := "FinderHouseModel$Bad") hown [] ⟨37, 55, 56, 89⟩ [] htab (fun z hz => by cases hz) (by decide) (by decide) (ht _ k_9_235) (nb_args rfl (xf_n hE 1 rfl _ kn_9_237)) hce hcv hcl ?_
  refine lv_astore_n (lv' := [(2, .ref bd), (1, .ref fa), (0, .ref q)]) hx hb dX15_ask_56 rfl hl (by decide) rfl (fun ls hl => ?_)
  refine lv_aload_n hx hb dX15_ask_57 rfl (lv_at hl 2 rfl) ?_
  refine lv_aload_n hx hb dX15_ask_58 rfl (lv_at hl 0 rfl) ?_
  refine ca_i (wr := []) (va_runV (As := [.ref bd]) (rest := []) ⟨hx, hb, hml, hown, ht⟩ (r_faulty l dC dI H.size q F_29 bd F_30 K_31 K_32 K_33 K_34 ) (cwV 1 ht (gdV k_13_169 k_13_166 k_13_168 ks_145 k_1_17) rfl rfl rfl (by decide +kernel) ⟨Nat.le_of_ble_eq_true rfl, Nat.le_of_ble_eq_true rfl⟩) ⟨pcw_blind, va_recv hK hP (ci := 15) (q0 := 0) rfl rfl, pcw_at hP hD hK [0, 1] [] (by decide) rfl rfl rfl⟩ rfl rfl hl.1 rfl (lv_room (Nat.le_of_ble_eq_true rfl)) dX15_ask_59 ⟨Nat.le_of_ble_eq_true rfl, Nat.le_of_ble_eq_true rfl⟩) hP hD hK hS hA [0, 1] [] rfl rfl (by decide) (by decide) (fun r_35 u H locs w_36 hK hP hD hS => ?_)
  have hK : va_K (dC, dI) cls [] s := hK
  have hP : va_P (dC, dI) cls [] H := hP
  have hD : va_D A [] := hD
  obtain rfl : r_35 = (-11) := w_36
  exact W.iret (v := (-11)) hx hb hr (fun t ht9 hW => ⟨⟨(-11), (), rfl, rfl, by rw [ht9]; exact hP.sub [] rfl, va_K.moved hW.alike (hK.sub [] rfl), hD.sub [] (by decide) rfl⟩, hS.F ht9⟩) hS.2.2 dX15_ask_62
set_option maxHeartbeats 4000000 in
set_option maxRecDepth 100000 in
theorem r_readAct (l : Launch) (dC : Nat → ClassId) (dI : Nat → Nat → Nat) (sz : Nat) (q : Nat) (fs : List Value) (bd : Nat) (gb : List Value) (vACT : Int64) (L_fs : fs.length = 163) (K23_fs : fs[23]? = some (.ref bd)) (K25_fs : fs[25]? = some (.int 0)) (L_gb : gb.length = 8) : ux_Met l yX15_readAct (Cond.code yX15_readAct cX15_readAct 3 none :: tb) ({ frames := 3, cells := 0, slots := 0, locals := 64 }) (pcx [.inl ("FinderHouseModel", "ACT", "J", .long vACT)] [.ref q] (dC, dI) [(q, .inr (15, fs)), (bd, .inr (13, gb))] [] sz) (va_Qv (fun (_ : Unit) => False) (bw (dC, dI) (va_A [(q, .inr (15, fs)), (bd, .inr (13, gb))] sz) (fun (_ : Unit) => []) (fun (_ : Unit) => [])) (va_A [(q, .inr (15, fs)), (bd, .inr (13, gb))] sz)) (ux_X (fun (u : (List Value) × (List Value)) => match u with | (fs1, gb1) => fs1.length = 163 ∧ gb1.length = 8 ∧ gb1[6]? = some (.int 1) ∧ gb1[7]? = some (.int 0) ∧ True) (fun q9 E9 u9 t9 => q9 = bd ∧ E9 = "FinderHouseModel$Bad" ∧ bw (dC, dI) (va_A [(q, .inr (15, fs)), (bd, .inr (13, gb))] sz) (fun (u : (List Value) × (List Value)) => match u with | (fs1, gb1) => [(q, .inr (15, fs1)), (bd, .inr (13, gb1))]) (fun (u : (List Value) × (List Value)) => match u with | (fs1, gb1) => []) u9 t9) (va_A [(q, .inr (15, fs)), (bd, .inr (13, gb))] sz)) 0 0 (va_A [(q, .inr (15, fs)), (bd, .inr (13, gb))] sz) := by
  refine ux_ofW (cc := cX15_readAct) (maxL := 3) (ret := none) (by decide) rfl ?_
  intro p e s m args below meth c s₁ B hml htab hv
  obtain ⟨rfl, hsz, hP, hK, hD0, hE⟩ := hv
  have hx := B.exec
  have hb := B.bytes
  have hr := B.returns
  have hts := atoms_spec (ws := Cond.code yX15_readAct cX15_readAct 3 none :: tb) B.pre
  have ht : ∀ w ∈ tb, w.before _ s = true := fun w h => hts w (List.mem_cons_of_mem _ h)
  have hown : s.vm.findClass RX15 = some m.cls := findClass_of_methodNamed B.named
  have hlocks := B.notSynchronized
  subst hsz
  have hD := hD0.self (sz := s.heap.size)
  generalize hAe : va_A [(q, .inr (15, fs)), (bd, .inr (13, gb))] s.heap.size = A at hD hE ⊢
  have hA : ∀ q : Nat, s.heap.size ≤ q → A q := fun q h => by rw [← hAe]; exact Or.inr h
  have hS : va_S A s.heap s.heap [] := va_S.rf
  have hl := lv_entry ([.ref q]) (n := 3) (Nat.le_of_ble_eq_true rfl)
  rw [lg_entry_eq]
  generalize (lg_sl ([.ref q]) ++ List.replicate (3 - (lg_sl ([.ref q])).length) Slot.unset).toArray = ls at hl ⊢
  have hl : lv_has ls 3 [(0, .ref q)] := hl
  have hP : va_P (dC, dI) cls [(q, .inr (15, fs)), (bd, .inr (13, gb))] s.heap := hP
  refine lv_aload_n hx hb dX15_readAct_0 rfl (lv_at hl 0 rfl) ?_
  refine ca_v (wr := [(bd, .inr (13, gb))]) (va_runV (As := []) (rest := []) ⟨hx, hb, hml, hown, ht⟩ (r_begin l dC dI s.heap.size q fs bd L_fs K23_fs K25_fs ) (cwV 0 ht (gdV k_13_1 k_12_238 k_13_0 ks_114 k_1_17) rfl rfl rfl (by decide +kernel) ⟨Nat.le_of_ble_eq_true rfl, Nat.le_of_ble_eq_true rfl⟩) ⟨pcw_blind, va_recv hK hP (ci := 15) (q0 := 0) rfl rfl, pcw_at hP hD hK [0] [] (by decide) rfl rfl rfl⟩ rfl rfl hl.1 rfl (lv_room (Nat.le_of_ble_eq_true rfl)) dX15_readAct_1 ⟨Nat.le_of_ble_eq_true rfl, Nat.le_of_ble_eq_true rfl⟩) hP hD hK hS hA [0] [1] rfl rfl (by decide) (by decide) (fun u H locs w_2 hK hP hD hS => ?_)
  obtain ⟨F_3, rfl⟩ : ∃ z, z = u := ⟨_, rfl⟩
  have hK : va_K (dC, dI) cls [] s := hK
  have hP : va_P (dC, dI) cls [(bd, .inr (13, gb)), (q, .inr (15, F_3))] H := hP
  have hD : va_D A [(bd, .inr (13, gb)), (q, .inr (15, F_3))] := hD
  obtain ⟨w_2, K_4, K_5, K_6, K_7⟩ := w_2
  refine lv_aload_n hx hb dX15_readAct_4 rfl (lv_at hl 0 rfl) ?_
  refine lv_sipush (v := 4400) hx hb dX15_readAct_5 (by decide) ?_
  refine va_put (D := (dC, dI)) (ci := 15) (v := .int 4400) (ty := .int) (C := RX15) (T := TX15) (N := 163) hx hb ht uX15 tyX15 tkX15 nmX15 hown hK hP hD hS 1 rfl rfl 17 (by decide) (ht _ k_10_205) (fun _ h9 => h9) rfl (by decide +kernel) rfl rfl (by rw [K_4]; decide) dX15_readAct_8 (fun H locs hP hD hS => ?_)
  obtain ⟨F_8, eF_8⟩ : ∃ g : List Value, g = F_3.set 17 (.int 4400) := ⟨_, rfl⟩
  rw [← eF_8] at hP hD
  have K23_F_8 : F_8[23]? = some (.ref bd) := by rw [eF_8, List.getElem?_set_ne (by decide)]; exact K_5
  have K27_F_8 : F_8[27]? = some (.int 0) := by rw [eF_8, List.getElem?_set_ne (by decide)]; exact K_6
  have K29_F_8 : F_8[29]? = some (.int 0) := by rw [eF_8, List.getElem?_set_ne (by decide)]; exact K_7
  have K17_F_8 : F_8[17]? = some (.int 4400) := by rw [eF_8]; exact List.getElem?_set_self (by rw [K_4]; decide)
  have L_F_8 : F_8.length = 163 := by rw [eF_8, List.length_set]; exact K_4
  have hP : va_P (dC, dI) cls [(bd, .inr (13, gb)), (q, .inr (15, F_8))] H := hP
  have hD : va_D A [(bd, .inr (13, gb)), (q, .inr (15, F_8))] := hD
  refine lv_aload_n hx hb dX15_readAct_11 rfl (lv_at hl 0 rfl) ?_
  refine va_gets (v := .long vACT) hx hb (xf_z hE 0 rfl) hS hown (ht _ k_13_178) (fun _ h9 => h9) dX15_readAct_12 ?_
  have hFc := va_free (wc := [(q, .inr (15, F_8)), (bd, .inr (13, gb))]) hD hS hA [1, 0] rfl
  refine ux_callv (ux_runV (As := [.long vACT]) (rest := []) ⟨hx, hb, hml, hown, ht⟩ (r_passName l dC dI H.size q F_8 bd gb vACT L_F_8 K23_F_8 K27_F_8 K29_F_8 L_gb ) (cwV 1 ht (gdV k_13_36 k_13_33 k_13_35 ks_120 k_1_17) rfl rfl rfl (by decide +kernel) ⟨Nat.le_of_ble_eq_true rfl, Nat.le_of_ble_eq_true rfl⟩) ⟨pcw_blind, va_recv hK hP (ci := 15) (q0 := 1) rfl rfl, pcw_at hP hD hK [1, 0] [] (by decide) rfl rfl rfl⟩ rfl rfl hl.1 rfl (lv_room (Nat.le_of_ble_eq_true rfl)) dX15_readAct_15 ⟨Nat.le_of_ble_eq_true rfl, Nat.le_of_ble_eq_true rfl⟩) hS (fun q _ h => hFc q h) hFc (fun q _ h => hFc q h) (fun E9 ce t_9 u t H locs ht9 hvm hpx hB9 hz9 hk9 hS hce hcv hcl => ?_) (fun u t H locs ht9 hvm hw _ _ _ _ => hw.elim)
  obtain ⟨F_10, rfl⟩ : ∃ z, z = u := ⟨_, rfl⟩
  obtain ⟨hq9, rfl, hP1, hK1, hD1⟩ := hB9
  rw [ht9] at hP1
  rw [hq9] at hce ⊢
  obtain ⟨hP, hD⟩ := va_join (wr := []) (w1 := [(q, .inr (15, F_8)), (bd, .inr (13, F_10))]) hP hD [1, 0] [] rfl rfl (by decide) (by decide) hk9 hFc hP1 hD1
  obtain ⟨K_11, K_12, K_13, -⟩ := hpx
  have hP : va_P (dC, dI) cls [(q, .inr (15, F_8)), (bd, .inr (13, F_10))] H := hP
  have hD : va_D A [(q, .inr (15, F_8)), (bd, .inr (13, F_10))] := hD
  exact ux_out (E := "FinderHouseModel$Bad") (fun x hx9 => (htab x hx9).elim) hlocks hce hcv hcl (fun t ht9 hvm9 => ⟨(F_8, F_10), ⟨L_F_8, K_11, K_12, K_13, trivial⟩, ⟨rfl, rfl, by rw [ht9]; exact hP.sub [0, 1] rfl, va_K.moved hvm9 (hK.sub [] rfl), hD.sub [0, 1] (by decide) rfl⟩, hS.F ht9⟩) hS.2.2 (Nat.le_of_ble_eq_true rfl) (Nat.le_of_ble_eq_true rfl)
set_option maxHeartbeats 4000000 in
set_option maxRecDepth 100000 in
theorem r_act (l : Launch) (dC : Nat → ClassId) (dI : Nat → Nat → Nat) (sz : Nat) (q : Nat) (fs : List Value) (bd : Nat) (gb : List Value) (vACT : Int64) (L_fs : fs.length = 163) (K23_fs : fs[23]? = some (.ref bd)) (K53_fs : fs[53]? = some (.int 0)) (K54_fs : fs[54]? = some (.int 0)) (L_gb : gb.length = 8) : Met l yX15_act (Cond.codeWith yX15_act cX15_act 2 (some .int) [(14, 18, 21, 89)] :: tb) ({ frames := 4, cells := 0, slots := 0, locals := 86 }) (pcx [.inl ("FinderHouseModel", "ACT", "J", .long vACT), .inr (.inr (.inr (.inr (.inr (.inr ())))))] [.ref q] (dC, dI) [(q, .inr (15, fs)), (bd, .inr (13, gb))] [] sz) (va_Qi (fun (r : Int32) => (fun (_ : Unit) => r = -11)) (bw (dC, dI) (va_A [(q, .inr (15, fs)), (bd, .inr (13, gb))] sz) (fun (_ : Unit) => []) (fun (_ : Unit) => [])) (va_A [(q, .inr (15, fs)), (bd, .inr (13, gb))] sz)) 0 0 (va_A [(q, .inr (15, fs)), (bd, .inr (13, gb))] sz) := by
  refine va_MetW (cc := cX15_act) (maxL := 2) (ret := (some .int)) (hh := [(14, 18, 21, 89)]) (by decide) rfl ?_
  intro p e s m args below meth c s₁ B hml hv
  obtain ⟨rfl, hsz, hP, hK, hD0, hE⟩ := hv
  have hx := B.exec
  have hb := B.bytes
  have hr := B.returns
  have hts := atoms_spec (ws := Cond.codeWith yX15_act cX15_act 2 (some .int) [(14, 18, 21, 89)] :: tb) B.pre
  have htab : c.exceptionTable.toList = tableOf [(14, 18, 21, 89)] := vx_table (x := yX15_act) B (hts _ List.mem_cons_self)
  have ht : ∀ w ∈ tb, w.before _ s = true := fun w h => hts w (List.mem_cons_of_mem _ h)
  have hown : s.vm.findClass RX15 = some m.cls := findClass_of_methodNamed B.named
  have hlocks := B.notSynchronized
  subst hsz
  have hD := hD0.self (sz := s.heap.size)
  generalize hAe : va_A [(q, .inr (15, fs)), (bd, .inr (13, gb))] s.heap.size = A at hD hE ⊢
  have hA : ∀ q : Nat, s.heap.size ≤ q → A q := fun q h => by rw [← hAe]; exact Or.inr h
  have hS : va_S A s.heap s.heap [] := va_S.rf
  have hl := lv_entry ([.ref q]) (n := 2) (Nat.le_of_ble_eq_true rfl)
  rw [lg_entry_eq]
  generalize (lg_sl ([.ref q]) ++ List.replicate (2 - (lg_sl ([.ref q])).length) Slot.unset).toArray = ls at hl ⊢
  have hl : lv_has ls 2 [(0, .ref q)] := hl
  have hP : va_P (dC, dI) cls [(q, .inr (15, fs)), (bd, .inr (13, gb))] s.heap := hP
  refine lv_aload_n hx hb dX15_act_0 rfl (lv_at hl 0 rfl) ?_
  refine ca_i (wr := [(bd, .inr (13, gb))]) (va_runV (As := []) (rest := []) ⟨hx, hb, hml, hown, ht⟩ (r_isDown_rd l dC dI s.heap.size q fs bd L_fs K23_fs K53_fs K54_fs ) (cwV 0 ht (gdV k_12_228 k_12_225 k_12_227 ks_112 k_1_17) rfl rfl rfl (by decide +kernel) ⟨Nat.le_of_ble_eq_true rfl, Nat.le_of_ble_eq_true rfl⟩) ⟨pcw_blind, va_recv hK hP (ci := 15) (q0 := 0) rfl rfl, pcw_at hP hD hK [0] [] (by decide) rfl rfl rfl⟩ rfl rfl hl.1 rfl (lv_room (Nat.le_of_ble_eq_true rfl)) dX15_act_1 ⟨Nat.le_of_ble_eq_true rfl, Nat.le_of_ble_eq_true rfl⟩) hP hD hK hS hA [0] [1] rfl rfl (by decide) (by decide) (fun r_1 u H locs w_2 hK hP hD hS => ?_)
  obtain ⟨F_3, rfl⟩ : ∃ z, z = u := ⟨_, rfl⟩
  have hK : va_K (dC, dI) cls [] s := hK
  have hP : va_P (dC, dI) cls [(bd, .inr (13, gb)), (q, .inr (15, F_3))] H := hP
  have hD : va_D A [(bd, .inr (13, gb)), (q, .inr (15, F_3))] := hD
  obtain ⟨w_2, K_4, K_5, K_6, K_7, K_8⟩ := w_2
  obtain rfl : r_1 = 0 := w_2
  refine lv_if_eq (tgt := 10) hx hb dX15_act_4 (by decide) (fun _ => ?_) (fun c0 => absurd c0 (by decide))
  refine lv_aload_n hx hb dX15_act_10 rfl (lv_at hl 0 rfl) ?_
  refine ca_v (wr := [(bd, .inr (13, gb))]) (va_runV (As := []) (rest := []) ⟨hx, hb, hml, hown, ht⟩ (r_takeTape_rd l dC dI H.size q F_3 bd K_4 K_5 K_7 ) (cwV 0 ht (gdV k_12_237 k_12_234 k_12_236 ks_113 k_1_17) rfl rfl rfl (by decide +kernel) ⟨Nat.le_of_ble_eq_true rfl, Nat.le_of_ble_eq_true rfl⟩) ⟨pcw_blind, va_recv hK hP (ci := 15) (q0 := 1) rfl rfl, pcw_at hP hD hK [1] [] (by decide) rfl rfl rfl⟩ rfl rfl hl.1 rfl (lv_room (Nat.le_of_ble_eq_true rfl)) dX15_act_11 ⟨Nat.le_of_ble_eq_true rfl, Nat.le_of_ble_eq_true rfl⟩) hP hD hK hS hA [1] [0] rfl rfl (by decide) (by decide) (fun u H locs w_10 hK hP hD hS => ?_)
  obtain ⟨F_11, rfl⟩ : ∃ z, z = u := ⟨_, rfl⟩
  have hK : va_K (dC, dI) cls [] s := hK
  have hP : va_P (dC, dI) cls [(bd, .inr (13, gb)), (q, .inr (15, F_11))] H := hP
  have hD : va_D A [(bd, .inr (13, gb)), (q, .inr (15, F_11))] := hD
  obtain ⟨w_10, K_12, K_13, K_14, K_15, K_16⟩ := w_10
  refine lv_aload_n hx hb dX15_act_14 rfl (lv_at hl 0 rfl) ?_
  have hFc := va_free (wc := [(q, .inr (15, F_11)), (bd, .inr (13, gb))]) hD hS hA [1, 0] rfl
  refine ux_callv (ux_runV (As := []) (rest := []) ⟨hx, hb, hml, hown, ht⟩ (r_readAct l dC dI H.size q F_11 bd gb vACT K_12 K_13 K_14 L_gb ) (cwV 0 ht (gdV k_13_177 k_13_174 k_13_176 ks_146 k_1_17) rfl rfl rfl (by decide +kernel) ⟨Nat.le_of_ble_eq_true rfl, Nat.le_of_ble_eq_true rfl⟩) ⟨pcx_blind, va_recv hK hP (ci := 15) (q0 := 1) rfl rfl, pcx_at hP hD hK hS hA hE [1, 0] [] [0] (by decide) rfl rfl rfl rfl⟩ rfl rfl hl.1 rfl (lv_room (Nat.le_of_ble_eq_true rfl)) dX15_act_15 ⟨Nat.le_of_ble_eq_true rfl, Nat.le_of_ble_eq_true rfl⟩) hS (fun q _ h => hFc q h) hFc (fun q _ h => hFc q h) (fun E9 ce t_17 u t H locs ht9 hvm hpx hB9 hz9 hk9 hS hce hcv hcl => ?_) (fun u t H locs ht9 hvm hw _ _ _ _ => hw.elim)
  obtain ⟨F_18, F_19⟩ := u
  obtain ⟨hq9, rfl, hP1, hK1, hD1⟩ := hB9
  rw [ht9] at hP1
  rw [hq9] at hce ⊢
  obtain ⟨hP, hD⟩ := va_join (wr := []) (w1 := [(q, .inr (15, F_18)), (bd, .inr (13, F_19))]) hP hD [1, 0] [] rfl rfl (by decide) (by decide) hk9 hFc hP1 hD1
  obtain ⟨K_20, K_21, K_22, K_23, -⟩ := hpx
  have hP : va_P (dC, dI) cls [(q, .inr (15, F_18)), (bd, .inr (13, F_19))] H := hP
  have hD : va_D A [(q, .inr (15, F_18)), (bd, .inr (13, F_19))] := hD
  refine ux_catch (E := "FinderHouseModel$Bad") (name := "FinderHouseModel$Bad") hown [] ⟨14, 18, 21, 89⟩ [] htab (fun z hz => by cases hz) (by decide) (by decide) (ht _ k_9_235) (nb_args rfl (xf_n hE 1 rfl _ kn_9_237)) hce hcv hcl ?_
  refine lv_astore_n (lv' := [(1, .ref bd), (0, .ref q)]) hx hb dX15_act_21 rfl hl (by decide) rfl (fun ls hl => ?_)
  refine lv_aload_n hx hb dX15_act_22 rfl (lv_at hl 1 rfl) ?_
  refine lv_aload_n hx hb dX15_act_23 rfl (lv_at hl 0 rfl) ?_
  refine ca_i (wr := []) (va_runV (As := [.ref bd]) (rest := []) ⟨hx, hb, hml, hown, ht⟩ (r_faulty l dC dI H.size q F_18 bd F_19 K_20 K_21 K_22 K_23 ) (cwV 1 ht (gdV k_13_169 k_13_166 k_13_168 ks_145 k_1_17) rfl rfl rfl (by decide +kernel) ⟨Nat.le_of_ble_eq_true rfl, Nat.le_of_ble_eq_true rfl⟩) ⟨pcw_blind, va_recv hK hP (ci := 15) (q0 := 0) rfl rfl, pcw_at hP hD hK [0, 1] [] (by decide) rfl rfl rfl⟩ rfl rfl hl.1 rfl (lv_room (Nat.le_of_ble_eq_true rfl)) dX15_act_24 ⟨Nat.le_of_ble_eq_true rfl, Nat.le_of_ble_eq_true rfl⟩) hP hD hK hS hA [0, 1] [] rfl rfl (by decide) (by decide) (fun r_24 u H locs w_25 hK hP hD hS => ?_)
  have hK : va_K (dC, dI) cls [] s := hK
  have hP : va_P (dC, dI) cls [] H := hP
  have hD : va_D A [] := hD
  obtain rfl : r_24 = (-11) := w_25
  exact W.iret (v := (-11)) hx hb hr (fun t ht9 hW => ⟨⟨(-11), (), rfl, rfl, by rw [ht9]; exact hP.sub [] rfl, va_K.moved hW.alike (hK.sub [] rfl), hD.sub [] (by decide) rfl⟩, hS.F ht9⟩) hS.2.2 dX15_act_27
set_option maxHeartbeats 4000000 in
set_option maxRecDepth 100000 in
theorem r_readLoop (l : Launch) (dC : Nat → ClassId) (dI : Nat → Nat → Nat) (sz : Nat) (q : Nat) (fs : List Value) (bd : Nat) (gb : List Value) (fa : Nat) (ga : List Value) (vLOOP : Int64) (p0 : Int32) (L_fs : fs.length = 163) (K23_fs : fs[23]? = some (.ref bd)) (K25_fs : fs[25]? = some (.int 0)) (L_gb : gb.length = 8) (L_ga : ga.length = 9) (K0_ga : ga[0]? = some (.int p0)) : ux_Met l yX15_readLoop (Cond.code yX15_readLoop cX15_readLoop 8 none :: tb) ({ frames := 3, cells := 0, slots := 0, locals := 64 }) (pcx [.inl ("FinderHouseModel", "LOOP", "J", .long vLOOP)] [.ref q, .ref fa] (dC, dI) [(q, .inr (15, fs)), (bd, .inr (13, gb)), (fa, .inr (14, ga))] [] sz) (va_Qv (fun (_ : Unit) => False) (bw (dC, dI) (va_A [(q, .inr (15, fs)), (bd, .inr (13, gb)), (fa, .inr (14, ga))] sz) (fun (_ : Unit) => []) (fun (_ : Unit) => [])) (va_A [(q, .inr (15, fs)), (bd, .inr (13, gb)), (fa, .inr (14, ga))] sz)) (ux_X (fun (u : (List Value) × (List Value)) => match u with | (fs1, gb1) => fs1.length = 163 ∧ gb1.length = 8 ∧ gb1[6]? = some (.int 1) ∧ gb1[7]? = some (.int 0) ∧ True) (fun q9 E9 u9 t9 => q9 = bd ∧ E9 = "FinderHouseModel$Bad" ∧ bw (dC, dI) (va_A [(q, .inr (15, fs)), (bd, .inr (13, gb)), (fa, .inr (14, ga))] sz) (fun (u : (List Value) × (List Value)) => match u with | (fs1, gb1) => [(q, .inr (15, fs1)), (bd, .inr (13, gb1))]) (fun (u : (List Value) × (List Value)) => match u with | (fs1, gb1) => []) u9 t9) (va_A [(q, .inr (15, fs)), (bd, .inr (13, gb)), (fa, .inr (14, ga))] sz)) 0 0 (va_A [(q, .inr (15, fs)), (bd, .inr (13, gb)), (fa, .inr (14, ga))] sz) := by
  refine ux_ofW (cc := cX15_readLoop) (maxL := 8) (ret := none) (by decide) rfl ?_
  intro p e s m args below meth c s₁ B hml htab hv
  obtain ⟨rfl, hsz, hP, hK, hD0, hE⟩ := hv
  have hx := B.exec
  have hb := B.bytes
  have hr := B.returns
  have hts := atoms_spec (ws := Cond.code yX15_readLoop cX15_readLoop 8 none :: tb) B.pre
  have ht : ∀ w ∈ tb, w.before _ s = true := fun w h => hts w (List.mem_cons_of_mem _ h)
  have hown : s.vm.findClass RX15 = some m.cls := findClass_of_methodNamed B.named
  have hlocks := B.notSynchronized
  subst hsz
  have hD := hD0.self (sz := s.heap.size)
  generalize hAe : va_A [(q, .inr (15, fs)), (bd, .inr (13, gb)), (fa, .inr (14, ga))] s.heap.size = A at hD hE ⊢
  have hA : ∀ q : Nat, s.heap.size ≤ q → A q := fun q h => by rw [← hAe]; exact Or.inr h
  have hS : va_S A s.heap s.heap [] := va_S.rf
  have hl := lv_entry ([.ref q, .ref fa]) (n := 8) (Nat.le_of_ble_eq_true rfl)
  rw [lg_entry_eq]
  generalize (lg_sl ([.ref q, .ref fa]) ++ List.replicate (8 - (lg_sl ([.ref q, .ref fa])).length) Slot.unset).toArray = ls at hl ⊢
  have hl : lv_has ls 8 [(0, .ref q), (1, .ref fa)] := hl
  have hP : va_P (dC, dI) cls [(q, .inr (15, fs)), (bd, .inr (13, gb)), (fa, .inr (14, ga))] s.heap := hP
  refine lv_aload_n hx hb dX15_readLoop_0 rfl (lv_at hl 0 rfl) ?_
  refine ca_v (wr := [(bd, .inr (13, gb)), (fa, .inr (14, ga))]) (va_runV (As := []) (rest := []) ⟨hx, hb, hml, hown, ht⟩ (r_begin l dC dI s.heap.size q fs bd L_fs K23_fs K25_fs ) (cwV 0 ht (gdV k_13_1 k_12_238 k_13_0 ks_114 k_1_17) rfl rfl rfl (by decide +kernel) ⟨Nat.le_of_ble_eq_true rfl, Nat.le_of_ble_eq_true rfl⟩) ⟨pcw_blind, va_recv hK hP (ci := 15) (q0 := 0) rfl rfl, pcw_at hP hD hK [0] [] (by decide) rfl rfl rfl⟩ rfl rfl hl.1 rfl (lv_room (Nat.le_of_ble_eq_true rfl)) dX15_readLoop_1 ⟨Nat.le_of_ble_eq_true rfl, Nat.le_of_ble_eq_true rfl⟩) hP hD hK hS hA [0] [1, 2] rfl rfl (by decide) (by decide) (fun u H locs w_2 hK hP hD hS => ?_)
  obtain ⟨F_3, rfl⟩ : ∃ z, z = u := ⟨_, rfl⟩
  have hK : va_K (dC, dI) cls [] s := hK
  have hP : va_P (dC, dI) cls [(bd, .inr (13, gb)), (fa, .inr (14, ga)), (q, .inr (15, F_3))] H := hP
  have hD : va_D A [(bd, .inr (13, gb)), (fa, .inr (14, ga)), (q, .inr (15, F_3))] := hD
  obtain ⟨w_2, K_4, K_5, K_6, K_7⟩ := w_2
  refine lv_aload_n hx hb dX15_readLoop_4 rfl (lv_at hl 0 rfl) ?_
  refine lv_aload_n hx hb dX15_readLoop_5 rfl (lv_at hl 1 rfl) ?_
  refine va_get (D := (dC, dI)) (ci := 14) (v := .int p0) (C := RX14) (T := TX14) (N := 9) hx hb ht uX14 hown hK hP 1 rfl rfl 0 (by decide) (ht _ k_10_146) (fun _ h9 => h9) K0_ga dX15_readLoop_6 ?_
  refine va_put (D := (dC, dI)) (ci := 15) (v := .int p0) (ty := .int) (C := RX15) (T := TX15) (N := 163) hx hb ht uX15 tyX15 tkX15 nmX15 hown hK hP hD hS 2 rfl rfl 17 (by decide) (ht _ k_10_205) (fun _ h9 => h9) rfl (by decide +kernel) rfl rfl (by rw [K_4]; decide) dX15_readLoop_9 (fun H locs hP hD hS => ?_)
  obtain ⟨F_8, eF_8⟩ : ∃ g : List Value, g = F_3.set 17 (.int p0) := ⟨_, rfl⟩
  rw [← eF_8] at hP hD
  have K23_F_8 : F_8[23]? = some (.ref bd) := by rw [eF_8, List.getElem?_set_ne (by decide)]; exact K_5
  have K27_F_8 : F_8[27]? = some (.int 0) := by rw [eF_8, List.getElem?_set_ne (by decide)]; exact K_6
  have K29_F_8 : F_8[29]? = some (.int 0) := by rw [eF_8, List.getElem?_set_ne (by decide)]; exact K_7
  have K17_F_8 : F_8[17]? = some (.int p0) := by rw [eF_8]; exact List.getElem?_set_self (by rw [K_4]; decide)
  have L_F_8 : F_8.length = 163 := by rw [eF_8, List.length_set]; exact K_4
  have hP : va_P (dC, dI) cls [(bd, .inr (13, gb)), (fa, .inr (14, ga)), (q, .inr (15, F_8))] H := hP
  have hD : va_D A [(bd, .inr (13, gb)), (fa, .inr (14, ga)), (q, .inr (15, F_8))] := hD
  refine lv_aload_n hx hb dX15_readLoop_12 rfl (lv_at hl 0 rfl) ?_
  refine va_gets (v := .long vLOOP) hx hb (xf_z hE 0 rfl) hS hown (ht _ k_15_68) (fun _ h9 => h9) dX15_readLoop_13 ?_
  have hFc := va_free (wc := [(q, .inr (15, F_8)), (bd, .inr (13, gb))]) hD hS hA [2, 0] rfl
  refine ux_callv (ux_runV (As := [.long vLOOP]) (rest := []) ⟨hx, hb, hml, hown, ht⟩ (r_passName l dC dI H.size q F_8 bd gb vLOOP L_F_8 K23_F_8 K27_F_8 K29_F_8 L_gb ) (cwV 1 ht (gdV k_13_36 k_13_33 k_13_35 ks_120 k_1_17) rfl rfl rfl (by decide +kernel) ⟨Nat.le_of_ble_eq_true rfl, Nat.le_of_ble_eq_true rfl⟩) ⟨pcw_blind, va_recv hK hP (ci := 15) (q0 := 2) rfl rfl, pcw_at hP hD hK [2, 0] [] (by decide) rfl rfl rfl⟩ rfl rfl hl.1 rfl (lv_room (Nat.le_of_ble_eq_true rfl)) dX15_readLoop_16 ⟨Nat.le_of_ble_eq_true rfl, Nat.le_of_ble_eq_true rfl⟩) hS (fun q _ h => hFc q h) hFc (fun q _ h => hFc q h) (fun E9 ce t_9 u t H locs ht9 hvm hpx hB9 hz9 hk9 hS hce hcv hcl => ?_) (fun u t H locs ht9 hvm hw _ _ _ _ => hw.elim)
  obtain ⟨F_10, rfl⟩ : ∃ z, z = u := ⟨_, rfl⟩
  obtain ⟨hq9, rfl, hP1, hK1, hD1⟩ := hB9
  rw [ht9] at hP1
  rw [hq9] at hce ⊢
  obtain ⟨hP, hD⟩ := va_join (wr := [(fa, .inr (14, ga))]) (w1 := [(q, .inr (15, F_8)), (bd, .inr (13, F_10))]) hP hD [2, 0] [1] rfl rfl (by decide) (by decide) hk9 hFc hP1 hD1
  obtain ⟨K_11, K_12, K_13, -⟩ := hpx
  have hP : va_P (dC, dI) cls [(fa, .inr (14, ga)), (q, .inr (15, F_8)), (bd, .inr (13, F_10))] H := hP
  have hD : va_D A [(fa, .inr (14, ga)), (q, .inr (15, F_8)), (bd, .inr (13, F_10))] := hD
  exact ux_out (E := "FinderHouseModel$Bad") (fun x hx9 => (htab x hx9).elim) hlocks hce hcv hcl (fun t ht9 hvm9 => ⟨(F_8, F_10), ⟨L_F_8, K_11, K_12, K_13, trivial⟩, ⟨rfl, rfl, by rw [ht9]; exact hP.sub [1, 2] rfl, va_K.moved hvm9 (hK.sub [] rfl), hD.sub [1, 2] (by decide) rfl⟩, hS.F ht9⟩) hS.2.2 (Nat.le_of_ble_eq_true rfl) (Nat.le_of_ble_eq_true rfl)
set_option maxHeartbeats 4000000 in
set_option maxRecDepth 100000 in
theorem r_takeTape_loop (l : Launch) (dC : Nat → ClassId) (dI : Nat → Nat → Nat) (sz : Nat) (q : Nat) (fs : List Value) (bd : Nat) (fa : Nat) (L_fs : fs.length = 163) (K23_fs : fs[23]? = some (.ref bd)) (K53_fs : fs[53]? = some (.int 0)) (K90_fs : fs[90]? = some (.ref fa)) (K92_fs : fs[92]? = some (.null)) : Met l yX15_takeTape (Cond.code yX15_takeTape cX15_takeTape 2 none :: tb) ({ frames := 0, cells := 0, slots := 0, locals := 0 }) (pcw [.ref q] (dC, dI) [(q, .inr (15, fs))] [] sz) (va_Qv (fun (fs1 : List Value) => (True) ∧ (fs1.length = 163) ∧ (fs1[23]? = some (.ref bd)) ∧ (fs1[25]? = some (.int 0)) ∧ (fs1[51]? = some (.int 0)) ∧ (fs1[53]? = some (.int 0)) ∧ (fs1[90]? = some (.ref fa)) ∧ (fs1[92]? = some (.null))) (bw (dC, dI) (va_A [(q, .inr (15, fs))] sz) (fun (fs1 : List Value) => [(q, .inr (15, fs1))]) (fun (fs1 : List Value) => [])) (va_A [(q, .inr (15, fs))] sz)) 0 0 (va_A [(q, .inr (15, fs))] sz) := by
  refine Met.ofW (cc := cX15_takeTape) (maxL := 2) (ret := none) (by decide) rfl ?_
  intro p e s m args below meth c s₁ B hml hv
  obtain ⟨rfl, hsz, hP, hK, hD0⟩ := hv
  have hx := B.exec
  have hb := B.bytes
  have hr := B.returns
  have hts := atoms_spec (ws := Cond.code yX15_takeTape cX15_takeTape 2 none :: tb) B.pre
  have ht : ∀ w ∈ tb, w.before _ s = true := fun w h => hts w (List.mem_cons_of_mem _ h)
  have hown : s.vm.findClass RX15 = some m.cls := findClass_of_methodNamed B.named
  have hlocks := B.notSynchronized
  subst hsz
  have hD := hD0.self (sz := s.heap.size)
  generalize hAe : va_A [(q, .inr (15, fs))] s.heap.size = A at hD ⊢
  have hA : ∀ q : Nat, s.heap.size ≤ q → A q := fun q h => by rw [← hAe]; exact Or.inr h
  have hS : va_S A s.heap s.heap [] := va_S.rf
  have hl := lv_entry ([.ref q]) (n := 2) (Nat.le_of_ble_eq_true rfl)
  rw [lg_entry_eq]
  generalize (lg_sl ([.ref q]) ++ List.replicate (2 - (lg_sl ([.ref q])).length) Slot.unset).toArray = ls at hl ⊢
  have hl : lv_has ls 2 [(0, .ref q)] := hl
  have hP : va_P (dC, dI) cls [(q, .inr (15, fs))] s.heap := hP
  refine lv_aload_n hx hb dX15_takeTape_0 rfl (lv_at hl 0 rfl) ?_
  refine lv_iconst (v := 0) hx hb dX15_takeTape_1 (by decide) ?_
  refine va_put (D := (dC, dI)) (ci := 15) (v := .int 0) (ty := .int) (C := RX15) (T := TX15) (N := 163) hx hb ht uX15 tyX15 tkX15 nmX15 hown hK hP hD hS 0 rfl rfl 51 (by decide) (ht _ k_10_239) (fun _ h9 => h9) rfl (by decide +kernel) rfl rfl (by rw [L_fs]; decide) dX15_takeTape_2 (fun H locs hP hD hS => ?_)
  obtain ⟨F_1, eF_1⟩ : ∃ g : List Value, g = fs.set 51 (.int 0) := ⟨_, rfl⟩
  rw [← eF_1] at hP hD
  have K23_F_1 : F_1[23]? = some (.ref bd) := by rw [eF_1, List.getElem?_set_ne (by decide)]; exact K23_fs
  have K53_F_1 : F_1[53]? = some (.int 0) := by rw [eF_1, List.getElem?_set_ne (by decide)]; exact K53_fs
  have K90_F_1 : F_1[90]? = some (.ref fa) := by rw [eF_1, List.getElem?_set_ne (by decide)]; exact K90_fs
  have K92_F_1 : F_1[92]? = some (.null) := by rw [eF_1, List.getElem?_set_ne (by decide)]; exact K92_fs
  have K51_F_1 : F_1[51]? = some (.int 0) := by rw [eF_1]; exact List.getElem?_set_self (by rw [L_fs]; decide)
  have L_F_1 : F_1.length = 163 := by rw [eF_1, List.length_set]; exact L_fs
  have hP : va_P (dC, dI) cls [(q, .inr (15, F_1))] H := hP
  have hD : va_D A [(q, .inr (15, F_1))] := hD
  refine lv_iconst (v := 0) hx hb dX15_takeTape_5 (by decide) ?_
  refine lv_istore_n (lv' := [(1, .int 0), (0, .ref q)]) hx hb dX15_takeTape_6 rfl hl (by decide) rfl (fun ls hl => ?_)
  refine lv_iload_n hx hb dX15_takeTape_7 rfl (lv_at hl 0 rfl) ?_
  refine lv_aload_n hx hb dX15_takeTape_8 rfl (lv_at hl 1 rfl) ?_
  refine va_get (D := (dC, dI)) (ci := 15) (v := .int 0) (C := RX15) (T := TX15) (N := 163) hx hb ht uX15 hown hK hP 0 rfl rfl 53 (by decide) (ht _ k_11_1) (fun _ h9 => h9) K53_F_1 dX15_takeTape_9 ?_
  refine lv_icmp_ge (tgt := 33) hx hb dX15_takeTape_12 (by decide) (fun _ => ?_) (fun c0 => absurd c0 (by decide))
  refine lv_aload_n hx hb dX15_takeTape_33 rfl (lv_at hl 1 rfl) ?_
  refine lv_aload_n hx hb dX15_takeTape_34 rfl (lv_at hl 1 rfl) ?_
  refine va_get (D := (dC, dI)) (ci := 15) (v := .int 0) (C := RX15) (T := TX15) (N := 163) hx hb ht uX15 hown hK hP 0 rfl rfl 53 (by decide) (ht _ k_11_1) (fun _ h9 => h9) K53_F_1 dX15_takeTape_35 ?_
  refine va_put (D := (dC, dI)) (ci := 15) (v := .int 0) (ty := .int) (C := RX15) (T := TX15) (N := 163) hx hb ht uX15 tyX15 tkX15 nmX15 hown hK hP hD hS 0 rfl rfl 25 (by decide) (ht _ k_10_213) (fun _ h9 => h9) rfl (by decide +kernel) rfl rfl (by rw [L_F_1]; decide) dX15_takeTape_38 (fun H locs hP hD hS => ?_)
  obtain ⟨F_2, eF_2⟩ : ∃ g : List Value, g = F_1.set 25 (.int 0) := ⟨_, rfl⟩
  rw [← eF_2] at hP hD
  have K23_F_2 : F_2[23]? = some (.ref bd) := by rw [eF_2, List.getElem?_set_ne (by decide)]; exact K23_F_1
  have K51_F_2 : F_2[51]? = some (.int 0) := by rw [eF_2, List.getElem?_set_ne (by decide)]; exact K51_F_1
  have K53_F_2 : F_2[53]? = some (.int 0) := by rw [eF_2, List.getElem?_set_ne (by decide)]; exact K53_F_1
  have K90_F_2 : F_2[90]? = some (.ref fa) := by rw [eF_2, List.getElem?_set_ne (by decide)]; exact K90_F_1
  have K92_F_2 : F_2[92]? = some (.null) := by rw [eF_2, List.getElem?_set_ne (by decide)]; exact K92_F_1
  have K25_F_2 : F_2[25]? = some (.int 0) := by rw [eF_2]; exact List.getElem?_set_self (by rw [L_F_1]; decide)
  have L_F_2 : F_2.length = 163 := by rw [eF_2, List.length_set]; exact L_F_1
  have hP : va_P (dC, dI) cls [(q, .inr (15, F_2))] H := hP
  have hD : va_D A [(q, .inr (15, F_2))] := hD
  refine lv_aload_n hx hb dX15_takeTape_41 rfl (lv_at hl 1 rfl) ?_
  refine lv_iconst (v := 0) hx hb dX15_takeTape_42 (by decide) ?_
  refine va_put (D := (dC, dI)) (ci := 15) (v := .int 0) (ty := .int) (C := RX15) (T := TX15) (N := 163) hx hb ht uX15 tyX15 tkX15 nmX15 hown hK hP hD hS 0 rfl rfl 53 (by decide) (ht _ k_11_1) (fun _ h9 => h9) rfl (by decide +kernel) rfl rfl (by rw [L_F_2]; decide) dX15_takeTape_43 (fun H locs hP hD hS => ?_)
  obtain ⟨F_3, eF_3⟩ : ∃ g : List Value, g = F_2.set 53 (.int 0) := ⟨_, rfl⟩
  rw [← eF_3] at hP hD
  have K23_F_3 : F_3[23]? = some (.ref bd) := by rw [eF_3, List.getElem?_set_ne (by decide)]; exact K23_F_2
  have K25_F_3 : F_3[25]? = some (.int 0) := by rw [eF_3, List.getElem?_set_ne (by decide)]; exact K25_F_2
  have K51_F_3 : F_3[51]? = some (.int 0) := by rw [eF_3, List.getElem?_set_ne (by decide)]; exact K51_F_2
  have K90_F_3 : F_3[90]? = some (.ref fa) := by rw [eF_3, List.getElem?_set_ne (by decide)]; exact K90_F_2
  have K92_F_3 : F_3[92]? = some (.null) := by rw [eF_3, List.getElem?_set_ne (by decide)]; exact K92_F_2
  have K53_F_3 : F_3[53]? = some (.int 0) := by rw [eF_3]; exact List.getElem?_set_self (by rw [L_F_2]; decide)
  have L_F_3 : F_3.length = 163 := by rw [eF_3, List.length_set]; exact L_F_2
  have hP : va_P (dC, dI) cls [(q, .inr (15, F_3))] H := hP
  have hD : va_D A [(q, .inr (15, F_3))] := hD
  exact W.vret hx hb hr (fun t ht9 hW => ⟨⟨(F_3), rfl, ⟨trivial, L_F_3, K23_F_3, K25_F_3, K51_F_3, K53_F_3, K90_F_3, K92_F_3⟩, by rw [ht9]; exact hP.sub [0] rfl, va_K.moved hW.alike (hK.sub [] rfl), hD.sub [0] (by decide) rfl⟩, hS.F ht9⟩) hS.2.2 dX15_takeTape_46
set_option maxHeartbeats 4000000 in
set_option maxRecDepth 100000 in
theorem r_isDown_loop (l : Launch) (dC : Nat → ClassId) (dI : Nat → Nat → Nat) (sz : Nat) (q : Nat) (fs : List Value) (bd : Nat) (fa : Nat) (L_fs : fs.length = 163) (K23_fs : fs[23]? = some (.ref bd)) (K53_fs : fs[53]? = some (.int 0)) (K54_fs : fs[54]? = some (.int 0)) (K90_fs : fs[90]? = some (.ref fa)) (K92_fs : fs[92]? = some (.null)) : Met l yX15_isDown (Cond.code yX15_isDown cX15_isDown 1 (some .boolean) :: tb) ({ frames := 0, cells := 0, slots := 0, locals := 0 }) (pcw [.ref q] (dC, dI) [(q, .inr (15, fs))] [] sz) (va_Qi (fun (r : Int32) => (fun (fs1 : List Value) => (r = 0) ∧ (fs1.length = 163) ∧ (fs1[23]? = some (.ref bd)) ∧ (fs1[51]? = some (.int 0)) ∧ (fs1[53]? = some (.int 0)) ∧ (fs1[54]? = some (.int 0)) ∧ (fs1[90]? = some (.ref fa)) ∧ (fs1[92]? = some (.null)))) (bw (dC, dI) (va_A [(q, .inr (15, fs))] sz) (fun (fs1 : List Value) => [(q, .inr (15, fs1))]) (fun (fs1 : List Value) => [])) (va_A [(q, .inr (15, fs))] sz)) 0 0 (va_A [(q, .inr (15, fs))] sz) := by
  refine Met.ofW (cc := cX15_isDown) (maxL := 1) (ret := (some .boolean)) (by decide) rfl ?_
  intro p e s m args below meth c s₁ B hml hv
  obtain ⟨rfl, hsz, hP, hK, hD0⟩ := hv
  have hx := B.exec
  have hb := B.bytes
  have hr := B.returns
  have hts := atoms_spec (ws := Cond.code yX15_isDown cX15_isDown 1 (some .boolean) :: tb) B.pre
  have ht : ∀ w ∈ tb, w.before _ s = true := fun w h => hts w (List.mem_cons_of_mem _ h)
  have hown : s.vm.findClass RX15 = some m.cls := findClass_of_methodNamed B.named
  have hlocks := B.notSynchronized
  subst hsz
  have hD := hD0.self (sz := s.heap.size)
  generalize hAe : va_A [(q, .inr (15, fs))] s.heap.size = A at hD ⊢
  have hA : ∀ q : Nat, s.heap.size ≤ q → A q := fun q h => by rw [← hAe]; exact Or.inr h
  have hS : va_S A s.heap s.heap [] := va_S.rf
  have hl := lv_entry ([.ref q]) (n := 1) (Nat.le_of_ble_eq_true rfl)
  rw [lg_entry_eq]
  generalize (lg_sl ([.ref q]) ++ List.replicate (1 - (lg_sl ([.ref q])).length) Slot.unset).toArray = ls at hl ⊢
  have hl : lv_has ls 1 [(0, .ref q)] := hl
  have hP : va_P (dC, dI) cls [(q, .inr (15, fs))] s.heap := hP
  refine lv_aload_n hx hb dX15_isDown_0 rfl (lv_at hl 0 rfl) ?_
  refine lv_iconst (v := 0) hx hb dX15_isDown_1 (by decide) ?_
  refine va_put (D := (dC, dI)) (ci := 15) (v := .int 0) (ty := .int) (C := RX15) (T := TX15) (N := 163) hx hb ht uX15 tyX15 tkX15 nmX15 hown hK hP hD hS 0 rfl rfl 51 (by decide) (ht _ k_10_239) (fun _ h9 => h9) rfl (by decide +kernel) rfl rfl (by rw [L_fs]; decide) dX15_isDown_2 (fun H locs hP hD hS => ?_)
  obtain ⟨F_1, eF_1⟩ : ∃ g : List Value, g = fs.set 51 (.int 0) := ⟨_, rfl⟩
  rw [← eF_1] at hP hD
  have K23_F_1 : F_1[23]? = some (.ref bd) := by rw [eF_1, List.getElem?_set_ne (by decide)]; exact K23_fs
  have K53_F_1 : F_1[53]? = some (.int 0) := by rw [eF_1, List.getElem?_set_ne (by decide)]; exact K53_fs
  have K54_F_1 : F_1[54]? = some (.int 0) := by rw [eF_1, List.getElem?_set_ne (by decide)]; exact K54_fs
  have K90_F_1 : F_1[90]? = some (.ref fa) := by rw [eF_1, List.getElem?_set_ne (by decide)]; exact K90_fs
  have K92_F_1 : F_1[92]? = some (.null) := by rw [eF_1, List.getElem?_set_ne (by decide)]; exact K92_fs
  have K51_F_1 : F_1[51]? = some (.int 0) := by rw [eF_1]; exact List.getElem?_set_self (by rw [L_fs]; decide)
  have L_F_1 : F_1.length = 163 := by rw [eF_1, List.length_set]; exact L_fs
  have hP : va_P (dC, dI) cls [(q, .inr (15, F_1))] H := hP
  have hD : va_D A [(q, .inr (15, F_1))] := hD
  refine lv_aload_n hx hb dX15_isDown_5 rfl (lv_at hl 0 rfl) ?_
  refine va_get (D := (dC, dI)) (ci := 15) (v := .int 0) (C := RX15) (T := TX15) (N := 163) hx hb ht uX15 hown hK hP 0 rfl rfl 54 (by decide) (ht _ k_11_2) (fun _ h9 => h9) K54_F_1 dX15_isDown_6 ?_
  exact W.zret (v := 0) hx hb hr rfl (fun t ht9 hW => ⟨⟨0, (F_1), rfl, ⟨rfl, L_F_1, K23_F_1, K51_F_1, K53_F_1, K54_F_1, K90_F_1, K92_F_1⟩, by rw [ht9]; exact hP.sub [0] rfl, va_K.moved hW.alike (hK.sub [] rfl), hD.sub [0] (by decide) rfl⟩, hS.F ht9⟩) hS.2.2 dX15_isDown_9
set_option maxHeartbeats 4000000 in
set_option maxRecDepth 100000 in
theorem r_loop (l : Launch) (dC : Nat → ClassId) (dI : Nat → Nat → Nat) (sz : Nat) (q : Nat) (fs : List Value) (bd : Nat) (gb : List Value) (fa : Nat) (ga : List Value) (vLOOP : Int64) (p0 : Int32) (L_fs : fs.length = 163) (K23_fs : fs[23]? = some (.ref bd)) (K53_fs : fs[53]? = some (.int 0)) (K54_fs : fs[54]? = some (.int 0)) (K90_fs : fs[90]? = some (.ref fa)) (K92_fs : fs[92]? = some (.null)) (L_gb : gb.length = 8) (L_ga : ga.length = 9) (K0_ga : ga[0]? = some (.int p0)) : Met l yX15_loop (Cond.codeWith yX15_loop cX15_loop 3 (some .int) [(37, 47, 50, 89)] :: tb) ({ frames := 4, cells := 0, slots := 0, locals := 91 }) (pcx [.inl ("FinderHouseModel", "LOOP", "J", .long vLOOP), .inr (.inr (.inr (.inr (.inr (.inr ())))))] [.ref q] (dC, dI) [(q, .inr (15, fs)), (bd, .inr (13, gb)), (fa, .inr (14, ga))] [] sz) (va_Qi (fun (r : Int32) => (fun (_ : Unit) => r = -11)) (bw (dC, dI) (va_A [(q, .inr (15, fs)), (bd, .inr (13, gb)), (fa, .inr (14, ga))] sz) (fun (_ : Unit) => []) (fun (_ : Unit) => [])) (va_A [(q, .inr (15, fs)), (bd, .inr (13, gb)), (fa, .inr (14, ga))] sz)) 0 0 (va_A [(q, .inr (15, fs)), (bd, .inr (13, gb)), (fa, .inr (14, ga))] sz) := by
  refine va_MetW (cc := cX15_loop) (maxL := 3) (ret := (some .int)) (hh := [(37, 47, 50, 89)]) (by decide) rfl ?_
  intro p e s m args below meth c s₁ B hml hv
  obtain ⟨rfl, hsz, hP, hK, hD0, hE⟩ := hv
  have hx := B.exec
  have hb := B.bytes
  have hr := B.returns
  have hts := atoms_spec (ws := Cond.codeWith yX15_loop cX15_loop 3 (some .int) [(37, 47, 50, 89)] :: tb) B.pre
  have htab : c.exceptionTable.toList = tableOf [(37, 47, 50, 89)] := vx_table (x := yX15_loop) B (hts _ List.mem_cons_self)
  have ht : ∀ w ∈ tb, w.before _ s = true := fun w h => hts w (List.mem_cons_of_mem _ h)
  have hown : s.vm.findClass RX15 = some m.cls := findClass_of_methodNamed B.named
  have hlocks := B.notSynchronized
  subst hsz
  have hD := hD0.self (sz := s.heap.size)
  generalize hAe : va_A [(q, .inr (15, fs)), (bd, .inr (13, gb)), (fa, .inr (14, ga))] s.heap.size = A at hD hE ⊢
  have hA : ∀ q : Nat, s.heap.size ≤ q → A q := fun q h => by rw [← hAe]; exact Or.inr h
  have hS : va_S A s.heap s.heap [] := va_S.rf
  have hl := lv_entry ([.ref q]) (n := 3) (Nat.le_of_ble_eq_true rfl)
  rw [lg_entry_eq]
  generalize (lg_sl ([.ref q]) ++ List.replicate (3 - (lg_sl ([.ref q])).length) Slot.unset).toArray = ls at hl ⊢
  have hl : lv_has ls 3 [(0, .ref q)] := hl
  have hP : va_P (dC, dI) cls [(q, .inr (15, fs)), (bd, .inr (13, gb)), (fa, .inr (14, ga))] s.heap := hP
  refine lv_aload_n hx hb dX15_loop_0 rfl (lv_at hl 0 rfl) ?_
  refine ca_i (wr := [(bd, .inr (13, gb)), (fa, .inr (14, ga))]) (va_runV (As := []) (rest := []) ⟨hx, hb, hml, hown, ht⟩ (r_isDown_loop l dC dI s.heap.size q fs bd fa L_fs K23_fs K53_fs K54_fs K90_fs K92_fs ) (cwV 0 ht (gdV k_12_228 k_12_225 k_12_227 ks_112 k_1_17) rfl rfl rfl (by decide +kernel) ⟨Nat.le_of_ble_eq_true rfl, Nat.le_of_ble_eq_true rfl⟩) ⟨pcw_blind, va_recv hK hP (ci := 15) (q0 := 0) rfl rfl, pcw_at hP hD hK [0] [] (by decide) rfl rfl rfl⟩ rfl rfl hl.1 rfl (lv_room (Nat.le_of_ble_eq_true rfl)) dX15_loop_1 ⟨Nat.le_of_ble_eq_true rfl, Nat.le_of_ble_eq_true rfl⟩) hP hD hK hS hA [0] [1, 2] rfl rfl (by decide) (by decide) (fun r_1 u H locs w_2 hK hP hD hS => ?_)
  obtain ⟨F_3, rfl⟩ : ∃ z, z = u := ⟨_, rfl⟩
  have hK : va_K (dC, dI) cls [] s := hK
  have hP : va_P (dC, dI) cls [(bd, .inr (13, gb)), (fa, .inr (14, ga)), (q, .inr (15, F_3))] H := hP
  have hD : va_D A [(bd, .inr (13, gb)), (fa, .inr (14, ga)), (q, .inr (15, F_3))] := hD
  obtain ⟨w_2, K_4, K_5, K_6, K_7, K_8, K_9, K_10⟩ := w_2
  obtain rfl : r_1 = 0 := w_2
  refine lv_if_eq (tgt := 10) hx hb dX15_loop_4 (by decide) (fun _ => ?_) (fun c0 => absurd c0 (by decide))
  refine lv_aload_n hx hb dX15_loop_10 rfl (lv_at hl 0 rfl) ?_
  refine ca_v (wr := [(bd, .inr (13, gb)), (fa, .inr (14, ga))]) (va_runV (As := []) (rest := []) ⟨hx, hb, hml, hown, ht⟩ (r_takeTape_loop l dC dI H.size q F_3 bd fa K_4 K_5 K_7 K_9 K_10 ) (cwV 0 ht (gdV k_12_237 k_12_234 k_12_236 ks_113 k_1_17) rfl rfl rfl (by decide +kernel) ⟨Nat.le_of_ble_eq_true rfl, Nat.le_of_ble_eq_true rfl⟩) ⟨pcw_blind, va_recv hK hP (ci := 15) (q0 := 2) rfl rfl, pcw_at hP hD hK [2] [] (by decide) rfl rfl rfl⟩ rfl rfl hl.1 rfl (lv_room (Nat.le_of_ble_eq_true rfl)) dX15_loop_11 ⟨Nat.le_of_ble_eq_true rfl, Nat.le_of_ble_eq_true rfl⟩) hP hD hK hS hA [2] [0, 1] rfl rfl (by decide) (by decide) (fun u H locs w_12 hK hP hD hS => ?_)
  obtain ⟨F_13, rfl⟩ : ∃ z, z = u := ⟨_, rfl⟩
  have hK : va_K (dC, dI) cls [] s := hK
  have hP : va_P (dC, dI) cls [(bd, .inr (13, gb)), (fa, .inr (14, ga)), (q, .inr (15, F_13))] H := hP
  have hD : va_D A [(bd, .inr (13, gb)), (fa, .inr (14, ga)), (q, .inr (15, F_13))] := hD
  obtain ⟨w_12, K_14, K_15, K_16, K_17, K_18, K_19, K_20⟩ := w_12
  refine lv_aload_n hx hb dX15_loop_14 rfl (lv_at hl 0 rfl) ?_
  refine va_get (D := (dC, dI)) (ci := 15) (v := .null) (C := RX15) (T := TX15) (N := 163) hx hb ht uX15 hown hK hP 2 rfl rfl 92 (by decide) (ht _ k_11_40) (fun _ h9 => h9) K_20 dX15_loop_15 ?_
  refine lv_aload_n hx hb dX15_loop_18 rfl (lv_at hl 0 rfl) ?_
  refine va_get (D := (dC, dI)) (ci := 15) (v := .ref fa) (C := RX15) (T := TX15) (N := 163) hx hb ht uX15 hown hK hP 2 rfl rfl 90 (by decide) (ht _ k_11_38) (fun _ h9 => h9) K_19 dX15_loop_19 ?_
  refine lv_acmp_ne (rx := none) (ry := (some fa)) (tgt := 32) hx hb dX15_loop_22 (by decide) (fun _ => ?_) (fun h => by cases h)
  refine lv_aload_n hx hb dX15_loop_32 rfl (lv_at hl 0 rfl) ?_
  refine va_get (D := (dC, dI)) (ci := 15) (v := .ref fa) (C := RX15) (T := TX15) (N := 163) hx hb ht uX15 hown hK hP 2 rfl rfl 90 (by decide) (ht _ k_11_38) (fun _ h9 => h9) K_19 dX15_loop_33 ?_
  refine lv_astore_n (lv' := [(1, .ref fa), (0, .ref q)]) hx hb dX15_loop_36 rfl hl (by decide) rfl (fun ls hl => ?_)
  refine lv_aload_n hx hb dX15_loop_37 rfl (lv_at hl 1 rfl) ?_
  refine lv_aload_n hx hb dX15_loop_38 rfl (lv_at hl 0 rfl) ?_
  have hFc := va_free (wc := [(q, .inr (15, F_13)), (bd, .inr (13, gb)), (fa, .inr (14, ga))]) hD hS hA [2, 0, 1] rfl
  refine ux_callv (ux_runV (As := [.ref fa]) (rest := []) ⟨hx, hb, hml, hown, ht⟩ (r_readLoop l dC dI H.size q F_13 bd gb fa ga vLOOP p0 K_14 K_15 K_16 L_gb L_ga K0_ga ) (cwV 1 ht (gdV k_15_67 k_15_64 k_15_66 ks_209 k_1_17) rfl rfl rfl (by decide +kernel) ⟨Nat.le_of_ble_eq_true rfl, Nat.le_of_ble_eq_true rfl⟩) ⟨pcx_blind, va_recv hK hP (ci := 15) (q0 := 2) rfl rfl, pcx_at hP hD hK hS hA hE [2, 0, 1] [] [0] (by decide) rfl rfl rfl rfl⟩ rfl rfl hl.1 rfl (lv_room (Nat.le_of_ble_eq_true rfl)) dX15_loop_39 ⟨Nat.le_of_ble_eq_true rfl, Nat.le_of_ble_eq_true rfl⟩) hS (fun q _ h => hFc q h) hFc (fun q _ h => hFc q h) (fun E9 ce t_21 u t H locs ht9 hvm hpx hB9 hz9 hk9 hS hce hcv hcl => ?_) (fun u t H locs ht9 hvm hw _ _ _ _ => hw.elim)
  obtain ⟨F_22, F_23⟩ := u
  obtain ⟨hq9, rfl, hP1, hK1, hD1⟩ := hB9
  rw [ht9] at hP1
  rw [hq9] at hce ⊢
  obtain ⟨hP, hD⟩ := va_join (wr := []) (w1 := [(q, .inr (15, F_22)), (bd, .inr (13, F_23))]) hP hD [2, 0, 1] [] rfl rfl (by decide) (by decide) hk9 hFc hP1 hD1
  obtain ⟨K_24, K_25, K_26, K_27, -⟩ := hpx
  have hP : va_P (dC, dI) cls [(q, .inr (15, F_22)), (bd, .inr (13, F_23))] H := hP
  have hD : va_D A [(q, .inr (15, F_22)), (bd, .inr (13, F_23))] := hD
  refine ux_catch (E := "FinderHouseModel$Bad") (name := "FinderHouseModel$Bad") hown [] ⟨37, 47, 50, 89⟩ [] htab (fun z hz => by cases hz) (by decide) (by decide) (ht _ k_9_235) (nb_args rfl (xf_n hE 1 rfl _ kn_9_237)) hce hcv hcl ?_
  refine lv_astore_n (lv' := [(2, .ref bd), (1, .ref fa), (0, .ref q)]) hx hb dX15_loop_50 rfl hl (by decide) rfl (fun ls hl => ?_)
  refine lv_aload_n hx hb dX15_loop_51 rfl (lv_at hl 2 rfl) ?_
  refine lv_aload_n hx hb dX15_loop_52 rfl (lv_at hl 0 rfl) ?_
  refine ca_i (wr := []) (va_runV (As := [.ref bd]) (rest := []) ⟨hx, hb, hml, hown, ht⟩ (r_faulty l dC dI H.size q F_22 bd F_23 K_24 K_25 K_26 K_27 ) (cwV 1 ht (gdV k_13_169 k_13_166 k_13_168 ks_145 k_1_17) rfl rfl rfl (by decide +kernel) ⟨Nat.le_of_ble_eq_true rfl, Nat.le_of_ble_eq_true rfl⟩) ⟨pcw_blind, va_recv hK hP (ci := 15) (q0 := 0) rfl rfl, pcw_at hP hD hK [0, 1] [] (by decide) rfl rfl rfl⟩ rfl rfl hl.1 rfl (lv_room (Nat.le_of_ble_eq_true rfl)) dX15_loop_53 ⟨Nat.le_of_ble_eq_true rfl, Nat.le_of_ble_eq_true rfl⟩) hP hD hK hS hA [0, 1] [] rfl rfl (by decide) (by decide) (fun r_28 u H locs w_29 hK hP hD hS => ?_)
  have hK : va_K (dC, dI) cls [] s := hK
  have hP : va_P (dC, dI) cls [] H := hP
  have hD : va_D A [] := hD
  obtain rfl : r_28 = (-11) := w_29
  exact W.iret (v := (-11)) hx hb hr (fun t ht9 hW => ⟨⟨(-11), (), rfl, rfl, by rw [ht9]; exact hP.sub [] rfl, va_K.moved hW.alike (hK.sub [] rfl), hD.sub [] (by decide) rfl⟩, hS.F ht9⟩) hS.2.2 dX15_loop_56
