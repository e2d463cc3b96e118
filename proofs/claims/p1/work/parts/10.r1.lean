theorem dX15_in_0 : decode cX15_in 0 = .ok (.lload_n 0, 1) := by decide +kernel
theorem dX15_in_1 : decode cX15_in 1 = .ok (.lload_n 2, 1) := by decide +kernel
theorem dX15_in_2 : decode cX15_in 2 = .ok (.lcmp, 1) := by decide +kernel
theorem dX15_in_3 : decode cX15_in 3 = .ok (.ifCond .lt 14, 3) := by decide +kernel
theorem dX15_in_17 : decode cX15_in 17 = .ok (.iconst 0, 1) := by decide +kernel
theorem dX15_in_18 : decode cX15_in 18 = .ok (.ireturn, 1) := by decide +kernel
theorem dX15_in_6 : decode cX15_in 6 = .ok (.lload_n 0, 1) := by decide +kernel
theorem dX15_in_7 : decode cX15_in 7 = .ok (.lload 4, 2) := by decide +kernel
theorem dX15_in_9 : decode cX15_in 9 = .ok (.lcmp, 1) := by decide +kernel
theorem dX15_in_10 : decode cX15_in 10 = .ok (.ifCond .gt 7, 3) := by decide +kernel
theorem dX15_in_13 : decode cX15_in 13 = .ok (.iconst 1, 1) := by decide +kernel
theorem dX15_in_14 : decode cX15_in 14 = .ok (.goto 4, 3) := by decide +kernel
theorem dX15_place_0 : decode cX15_place 0 = .ok (.aload_n 0, 1) := by decide +kernel
theorem dX15_place_1 : decode cX15_place 1 = .ok (.iconst 0, 1) := by decide +kernel
theorem k_10_239 : Jvm.Cond.fieldLink "FinderHouseModel" (773 : Nat) "FinderHouseModel" "thrown" "I" ∈ tb := tb10 239 (by decide +kernel) (by decide +kernel)
theorem dX15_place_2 : decode cX15_place 2 = .ok (.putfield 773, 3) := by decide +kernel
theorem dX15_place_5 : decode cX15_place 5 = .ok (.aload_n 0, 1) := by decide +kernel
theorem k_11_3 : Jvm.Cond.fieldLink "FinderHouseModel" (145 : Nat) "FinderHouseModel" "placeOf" "I" ∈ tb := tb11 3 (by decide +kernel) (by decide +kernel)
theorem dX15_place_6 : decode cX15_place 6 = .ok (.getfield 145, 3) := by decide +kernel
theorem dX15_place_9 : decode cX15_place 9 = .ok (.ireturn, 1) := by decide +kernel
theorem dX15_mended_0 : decode cX15_mended 0 = .ok (.aload_n 0, 1) := by decide +kernel
theorem dX15_mended_1 : decode cX15_mended 1 = .ok (.iconst 0, 1) := by decide +kernel
theorem dX15_mended_2 : decode cX15_mended 2 = .ok (.putfield 773, 3) := by decide +kernel
theorem dX15_mended_5 : decode cX15_mended 5 = .ok (.aload_n 0, 1) := by decide +kernel
theorem k_11_11 : Jvm.Cond.fieldLink "FinderHouseModel" (160 : Nat) "FinderHouseModel" "mended" "I" ∈ tb := tb11 11 (by decide +kernel) (by decide +kernel)
theorem dX15_mended_6 : decode cX15_mended 6 = .ok (.getfield 160, 3) := by decide +kernel
theorem dX15_mended_9 : decode cX15_mended 9 = .ok (.ireturn, 1) := by decide +kernel
theorem dX15_worked_0 : decode cX15_worked 0 = .ok (.aload_n 0, 1) := by decide +kernel
theorem dX15_worked_1 : decode cX15_worked 1 = .ok (.iconst 0, 1) := by decide +kernel
theorem dX15_worked_2 : decode cX15_worked 2 = .ok (.putfield 773, 3) := by decide +kernel
theorem dX15_worked_5 : decode cX15_worked 5 = .ok (.aload_n 0, 1) := by decide +kernel
theorem k_11_12 : Jvm.Cond.fieldLink "FinderHouseModel" (916 : Nat) "FinderHouseModel" "worked" "I" ∈ tb := tb11 12 (by decide +kernel) (by decide +kernel)
theorem dX15_worked_6 : decode cX15_worked 6 = .ok (.getfield 916, 3) := by decide +kernel
theorem dX15_worked_9 : decode cX15_worked 9 = .ok (.ireturn, 1) := by decide +kernel
theorem dX15_thrown_0 : decode cX15_thrown 0 = .ok (.aload_n 0, 1) := by decide +kernel
theorem dX15_thrown_1 : decode cX15_thrown 1 = .ok (.getfield 773, 3) := by decide +kernel
theorem dX15_thrown_4 : decode cX15_thrown 4 = .ok (.ireturn, 1) := by decide +kernel
theorem dX15_isDown_0 : decode cX15_isDown 0 = .ok (.aload_n 0, 1) := by decide +kernel
theorem dX15_isDown_1 : decode cX15_isDown 1 = .ok (.iconst 0, 1) := by decide +kernel
theorem dX15_isDown_2 : decode cX15_isDown 2 = .ok (.putfield 773, 3) := by decide +kernel
theorem dX15_isDown_5 : decode cX15_isDown 5 = .ok (.aload_n 0, 1) := by decide +kernel
theorem k_11_2 : Jvm.Cond.fieldLink "FinderHouseModel" (782 : Nat) "FinderHouseModel" "down" "Z" ∈ tb := tb11 2 (by decide +kernel) (by decide +kernel)
theorem dX15_isDown_6 : decode cX15_isDown 6 = .ok (.getfield 782, 3) := by decide +kernel
theorem dX15_isDown_9 : decode cX15_isDown 9 = .ok (.ireturn, 1) := by decide +kernel
theorem dX15_told_0 : decode cX15_told 0 = .ok (.aload_n 0, 1) := by decide +kernel
theorem k_12_228 : Jvm.Cond.code ({ cls := "FinderHouseModel", name := "isDown", desc := "()Z" } : Jvm.MethodName) prog_14_method_94_code (1 : Nat) (Option.some Jvm.ClassFile.FieldType.boolean) ∈ tb := tb12 228 (by decide +kernel) (by decide +kernel)
theorem k_12_225 : Jvm.Cond.methodLink "FinderHouseModel" (785 : Nat) ({ cls := "FinderHouseModel", name := "isDown", desc := "()Z" } : Jvm.MethodName) ∈ tb := tb12 225 (by decide +kernel) (by decide +kernel)
theorem k_12_227 : Jvm.Cond.instanceMethod ({ cls := "FinderHouseModel", name := "isDown", desc := "()Z" } : Jvm.MethodName) ∈ tb := tb12 227 (by decide +kernel) (by decide +kernel)
theorem ks_112 : Jvm.Cond.selects "FinderHouseModel" ({ cls := "FinderHouseModel", name := "isDown", desc := "()Z" } : Jvm.MethodName) ({ cls := "FinderHouseModel", name := "isDown", desc := "()Z" } : Jvm.MethodName) ∈ tb := tbp 112 (by decide +kernel) (by decide +kernel)
theorem k_1_17 : Jvm.Cond.initialized "FinderHouseModel" ∈ tb := tb1 17 (by decide +kernel) (by decide +kernel)
theorem dX15_told_1 : decode cX15_told 1 = .ok (.invokevirtual 785, 3) := by decide +kernel
theorem dX15_told_4 : decode cX15_told 4 = .ok (.ifCond .eq 6, 3) := by decide +kernel
theorem dX15_told_10 : decode cX15_told 10 = .ok (.iload_n 1, 1) := by decide +kernel
theorem dX15_told_11 : decode cX15_told 11 = .ok (.i2l, 1) := by decide +kernel
theorem dX15_told_12 : decode cX15_told 12 = .ok (.lconst 0, 1) := by decide +kernel
theorem k_12_229 : Jvm.Cond.constantLong "FinderHouseModel" (788 : Nat) (12 : Int64) ∈ tb := tb12 229 (by decide +kernel) (by decide +kernel)
theorem dX15_told_13 : decode cX15_told 13 = .ok (.ldc2_w 788, 3) := by decide +kernel
theorem k_12_216 : Jvm.Cond.code ({ cls := "FinderHouseModel", name := "in", desc := "(JJJ)Z" } : Jvm.MethodName) prog_14_method_1_code (6 : Nat) (Option.some Jvm.ClassFile.FieldType.boolean) ∈ tb := tb12 216 (by decide +kernel) (by decide +kernel)
theorem k_12_214 : Jvm.Cond.methodLink "FinderHouseModel" (623 : Nat) ({ cls := "FinderHouseModel", name := "in", desc := "(JJJ)Z" } : Jvm.MethodName) ∈ tb := tb12 214 (by decide +kernel) (by decide +kernel)
theorem k_12_215 : Jvm.Cond.static ({ cls := "FinderHouseModel", name := "in", desc := "(JJJ)Z" } : Jvm.MethodName) ∈ tb := tb12 215 (by decide +kernel) (by decide +kernel)
theorem dX15_told_16 : decode cX15_told 16 = .ok (.invokestatic 623, 3) := by decide +kernel
theorem dX15_told_19 : decode cX15_told 19 = .ok (.ifCond .ne 5, 3) := by decide +kernel
theorem dX15_told_24 : decode cX15_told 24 = .ok (.iload_n 1, 1) := by decide +kernel
theorem dX15_told_25 : decode cX15_told 25 = .ok (.bipush 7, 2) := by decide +kernel
theorem dX15_told_27 : decode cX15_told 27 = .ok (.if_icmp .le 13, 3) := by decide +kernel
theorem dX15_told_40 : decode cX15_told 40 = .ok (.iload_n 1, 1) := by decide +kernel
theorem dX15_told_41 : decode cX15_told 41 = .ok (.tableswitch 138 0 11 #[63, 71, 76, 81, 86, 91, 96, 101, 106, 114, 122, 130], 63) := by decide +kernel
theorem dX15_told_104 : decode cX15_told 104 = .ok (.aload_n 0, 1) := by decide +kernel
theorem k_10_193 : Jvm.Cond.fieldLink "FinderHouseModel" (27 : Nat) "FinderHouseModel" "acts" "I" ∈ tb := tb10 193 (by decide +kernel) (by decide +kernel)
theorem dX15_told_105 : decode cX15_told 105 = .ok (.getfield 27, 3) := by decide +kernel
theorem dX15_told_108 : decode cX15_told 108 = .ok (.bipush 26, 2) := by decide +kernel
theorem dX15_told_110 : decode cX15_told 110 = .ok (.isub, 1) := by decide +kernel
theorem dX15_told_111 : decode cX15_told 111 = .ok (.ireturn, 1) := by decide +kernel
theorem dX15_told_112 : decode cX15_told 112 = .ok (.aload_n 0, 1) := by decide +kernel
theorem k_11_25 : Jvm.Cond.fieldLink "FinderHouseModel" (790 : Nat) "FinderHouseModel" "keptMany" "I" ∈ tb := tb11 25 (by decide +kernel) (by decide +kernel)
theorem dX15_told_113 : decode cX15_told 113 = .ok (.getfield 790, 3) := by decide +kernel
theorem dX15_told_116 : decode cX15_told 116 = .ok (.ireturn, 1) := by decide +kernel
theorem dX15_told_117 : decode cX15_told 117 = .ok (.aload_n 0, 1) := by decide +kernel
theorem k_11_57 : Jvm.Cond.fieldLink "FinderHouseModel" (793 : Nat) "FinderHouseModel" "rows" "I" ∈ tb := tb11 57 (by decide +kernel) (by decide +kernel)
theorem dX15_told_118 : decode cX15_told 118 = .ok (.getfield 793, 3) := by decide +kernel
theorem dX15_told_121 : decode cX15_told 121 = .ok (.ireturn, 1) := by decide +kernel
theorem dX15_told_122 : decode cX15_told 122 = .ok (.aload_n 0, 1) := by decide +kernel
theorem k_11_76 : Jvm.Cond.fieldLink "FinderHouseModel" (794 : Nat) "FinderHouseModel" "words" "I" ∈ tb := tb11 76 (by decide +kernel) (by decide +kernel)
theorem dX15_told_123 : decode cX15_told 123 = .ok (.getfield 794, 3) := by decide +kernel
theorem dX15_told_126 : decode cX15_told 126 = .ok (.ireturn, 1) := by decide +kernel
theorem dX15_told_127 : decode cX15_told 127 = .ok (.aload_n 0, 1) := by decide +kernel
theorem k_11_102 : Jvm.Cond.fieldLink "FinderHouseModel" (797 : Nat) "FinderHouseModel" "waitingMany" "I" ∈ tb := tb11 102 (by decide +kernel) (by decide +kernel)
theorem dX15_told_128 : decode cX15_told 128 = .ok (.getfield 797, 3) := by decide +kernel
theorem dX15_told_131 : decode cX15_told 131 = .ok (.ireturn, 1) := by decide +kernel
theorem dX15_told_132 : decode cX15_told 132 = .ok (.aload_n 0, 1) := by decide +kernel
theorem k_11_104 : Jvm.Cond.fieldLink "FinderHouseModel" (800 : Nat) "FinderHouseModel" "waitingSize" "I" ∈ tb := tb11 104 (by decide +kernel) (by decide +kernel)
theorem dX15_told_133 : decode cX15_told 133 = .ok (.getfield 800, 3) := by decide +kernel
theorem dX15_told_136 : decode cX15_told 136 = .ok (.ireturn, 1) := by decide +kernel
theorem dX15_told_137 : decode cX15_told 137 = .ok (.aload_n 0, 1) := by decide +kernel
theorem k_11_108 : Jvm.Cond.fieldLink "FinderHouseModel" (803 : Nat) "FinderHouseModel" "used" "I" ∈ tb := tb11 108 (by decide +kernel) (by decide +kernel)
theorem dX15_told_138 : decode cX15_told 138 = .ok (.getfield 803, 3) := by decide +kernel
theorem dX15_told_141 : decode cX15_told 141 = .ok (.ireturn, 1) := by decide +kernel
theorem dX15_told_142 : decode cX15_told 142 = .ok (.aload_n 0, 1) := by decide +kernel
theorem k_11_1 : Jvm.Cond.fieldLink "FinderHouseModel" (776 : Nat) "FinderHouseModel" "tapeSize" "I" ∈ tb := tb11 1 (by decide +kernel) (by decide +kernel)
theorem dX15_told_143 : decode cX15_told 143 = .ok (.getfield 776, 3) := by decide +kernel
theorem dX15_told_146 : decode cX15_told 146 = .ok (.ireturn, 1) := by decide +kernel
theorem dX15_told_30 : decode cX15_told 30 = .ok (.aload_n 0, 1) := by decide +kernel
theorem k_10_226 : Jvm.Cond.fieldLink "FinderHouseModel" (404 : Nat) "FinderHouseModel" "ask" "LFinderHouseModel$Ask;" ∈ tb := tb10 226 (by decide +kernel) (by decide +kernel)
theorem dX15_told_31 : decode cX15_told 31 = .ok (.getfield 404, 3) := by decide +kernel
theorem dX15_told_34 : decode cX15_told 34 = .ok (.ifnonnull 6, 3) := by decide +kernel
theorem dX15_told_37 : decode cX15_told 37 = .ok (.bipush (-2), 2) := by decide +kernel
theorem dX15_told_39 : decode cX15_told 39 = .ok (.ireturn, 1) := by decide +kernel
theorem dX15_told_22 : decode cX15_told 22 = .ok (.iconst (-1), 1) := by decide +kernel
theorem dX15_told_23 : decode cX15_told 23 = .ok (.ireturn, 1) := by decide +kernel
theorem dX15_refusal_0 : decode cX15_refusal 0 = .ok (.aload_n 0, 1) := by decide +kernel
theorem dX15_refusal_1 : decode cX15_refusal 1 = .ok (.invokevirtual 785, 3) := by decide +kernel
theorem dX15_refusal_4 : decode cX15_refusal 4 = .ok (.ifCond .eq 6, 3) := by decide +kernel
theorem dX15_refusal_10 : decode cX15_refusal 10 = .ok (.iload_n 1, 1) := by decide +kernel
theorem dX15_refusal_11 : decode cX15_refusal 11 = .ok (.i2l, 1) := by decide +kernel
theorem dX15_refusal_12 : decode cX15_refusal 12 = .ok (.lconst 1, 1) := by decide +kernel
theorem dX15_refusal_13 : decode cX15_refusal 13 = .ok (.ldc2_w 788, 3) := by decide +kernel
theorem dX15_refusal_16 : decode cX15_refusal 16 = .ok (.invokestatic 623, 3) := by decide +kernel
theorem dX15_refusal_19 : decode cX15_refusal 19 = .ok (.ifCond .ne 5, 3) := by decide +kernel
theorem dX15_refusal_24 : decode cX15_refusal 24 = .ok (.aload_n 0, 1) := by decide +kernel
theorem dX15_refusal_25 : decode cX15_refusal 25 = .ok (.getfield 404, 3) := by decide +kernel
theorem dX15_refusal_28 : decode cX15_refusal 28 = .ok (.ifnonnull 6, 3) := by decide +kernel
theorem dX15_refusal_31 : decode cX15_refusal 31 = .ok (.bipush (-2), 2) := by decide +kernel
theorem dX15_refusal_33 : decode cX15_refusal 33 = .ok (.ireturn, 1) := by decide +kernel
theorem dX15_refusal_22 : decode cX15_refusal 22 = .ok (.iconst (-1), 1) := by decide +kernel
theorem dX15_refusal_23 : decode cX15_refusal 23 = .ok (.ireturn, 1) := by decide +kernel
theorem dX15_find_0 : decode cX15_find 0 = .ok (.aload_n 0, 1) := by decide +kernel
theorem dX15_find_1 : decode cX15_find 1 = .ok (.iload_n 1, 1) := by decide +kernel
theorem k_13_222 : Jvm.Cond.code ({ cls := "FinderHouseModel", name := "refusal", desc := "(I)I" } : Jvm.MethodName) prog_14_method_104_code (2 : Nat) (Option.some Jvm.ClassFile.FieldType.int) ∈ tb := tb13 222 (by decide +kernel) (by decide +kernel)
theorem k_13_219 : Jvm.Cond.methodLink "FinderHouseModel" (873 : Nat) ({ cls := "FinderHouseModel", name := "refusal", desc := "(I)I" } : Jvm.MethodName) ∈ tb := tb13 219 (by decide +kernel) (by decide +kernel)
theorem k_13_221 : Jvm.Cond.instanceMethod ({ cls := "FinderHouseModel", name := "refusal", desc := "(I)I" } : Jvm.MethodName) ∈ tb := tb13 221 (by decide +kernel) (by decide +kernel)
theorem ks_154 : Jvm.Cond.selects "FinderHouseModel" ({ cls := "FinderHouseModel", name := "refusal", desc := "(I)I" } : Jvm.MethodName) ({ cls := "FinderHouseModel", name := "refusal", desc := "(I)I" } : Jvm.MethodName) ∈ tb := tbp 154 (by decide +kernel) (by decide +kernel)
theorem dX15_find_2 : decode cX15_find 2 = .ok (.invokevirtual 873, 3) := by decide +kernel
theorem dX15_find_5 : decode cX15_find 5 = .ok (.istore_n 2, 1) := by decide +kernel
theorem dX15_find_6 : decode cX15_find 6 = .ok (.iload_n 2, 1) := by decide +kernel
theorem dX15_find_7 : decode cX15_find 7 = .ok (.ifCond .ge 5, 3) := by decide +kernel
theorem dX15_find_10 : decode cX15_find 10 = .ok (.iload_n 2, 1) := by decide +kernel
theorem dX15_find_11 : decode cX15_find 11 = .ok (.ireturn, 1) := by decide +kernel
theorem dX15_different_0 : decode cX15_different 0 = .ok (.aload_n 0, 1) := by decide +kernel
theorem dX15_different_1 : decode cX15_different 1 = .ok (.iload_n 1, 1) := by decide +kernel
theorem dX15_different_2 : decode cX15_different 2 = .ok (.invokevirtual 873, 3) := by decide +kernel
theorem dX15_different_5 : decode cX15_different 5 = .ok (.istore_n 2, 1) := by decide +kernel
theorem dX15_different_6 : decode cX15_different 6 = .ok (.iload_n 2, 1) := by decide +kernel
theorem dX15_different_7 : decode cX15_different 7 = .ok (.ifCond .ge 5, 3) := by decide +kernel
theorem dX15_different_10 : decode cX15_different 10 = .ok (.iload_n 2, 1) := by decide +kernel
theorem dX15_different_11 : decode cX15_different 11 = .ok (.ireturn, 1) := by decide +kernel
theorem dX15_question_0 : decode cX15_question 0 = .ok (.aload_n 0, 1) := by decide +kernel
theorem dX15_question_1 : decode cX15_question 1 = .ok (.iload_n 1, 1) := by decide +kernel
theorem dX15_question_2 : decode cX15_question 2 = .ok (.invokevirtual 873, 3) := by decide +kernel
theorem dX15_question_5 : decode cX15_question 5 = .ok (.istore_n 2, 1) := by decide +kernel
theorem dX15_question_6 : decode cX15_question 6 = .ok (.iload_n 2, 1) := by decide +kernel
theorem dX15_question_7 : decode cX15_question 7 = .ok (.ifCond .ge 5, 3) := by decide +kernel
theorem dX15_question_10 : decode cX15_question 10 = .ok (.iload_n 2, 1) := by decide +kernel
theorem dX15_question_11 : decode cX15_question 11 = .ok (.ireturn, 1) := by decide +kernel
theorem dX15_count_0 : decode cX15_count 0 = .ok (.aload_n 0, 1) := by decide +kernel
theorem dX15_count_1 : decode cX15_count 1 = .ok (.iload_n 1, 1) := by decide +kernel
theorem dX15_count_2 : decode cX15_count 2 = .ok (.invokevirtual 873, 3) := by decide +kernel
theorem dX15_count_5 : decode cX15_count 5 = .ok (.istore_n 2, 1) := by decide +kernel
theorem dX15_count_6 : decode cX15_count 6 = .ok (.iload_n 2, 1) := by decide +kernel
theorem dX15_count_7 : decode cX15_count 7 = .ok (.ifCond .ge 8, 3) := by decide +kernel
theorem dX15_count_10 : decode cX15_count 10 = .ok (.iload_n 2, 1) := by decide +kernel
theorem dX15_count_11 : decode cX15_count 11 = .ok (.i2l, 1) := by decide +kernel
theorem dX15_count_12 : decode cX15_count 12 = .ok (.goto 8, 3) := by decide +kernel
theorem dX15_count_20 : decode cX15_count 20 = .ok (.lreturn, 1) := by decide +kernel
theorem dX15_ith_0 : decode cX15_ith 0 = .ok (.aload_n 0, 1) := by decide +kernel
theorem dX15_ith_1 : decode cX15_ith 1 = .ok (.iload_n 1, 1) := by decide +kernel
theorem dX15_ith_2 : decode cX15_ith 2 = .ok (.invokevirtual 873, 3) := by decide +kernel
theorem dX15_ith_5 : decode cX15_ith 5 = .ok (.istore 4, 2) := by decide +kernel
theorem dX15_ith_7 : decode cX15_ith 7 = .ok (.iload 4, 2) := by decide +kernel
theorem dX15_ith_9 : decode cX15_ith 9 = .ok (.ifCond .ge 6, 3) := by decide +kernel
theorem dX15_ith_12 : decode cX15_ith 12 = .ok (.iload 4, 2) := by decide +kernel
theorem dX15_ith_14 : decode cX15_ith 14 = .ok (.ireturn, 1) := by decide +kernel
theorem dX15_byteOf_0 : decode cX15_byteOf 0 = .ok (.aload_n 0, 1) := by decide +kernel
theorem dX15_byteOf_1 : decode cX15_byteOf 1 = .ok (.iconst 0, 1) := by decide +kernel
theorem dX15_byteOf_2 : decode cX15_byteOf 2 = .ok (.putfield 773, 3) := by decide +kernel
theorem dX15_byteOf_5 : decode cX15_byteOf 5 = .ok (.iload_n 1, 1) := by decide +kernel
theorem dX15_byteOf_6 : decode cX15_byteOf 6 = .ok (.i2l, 1) := by decide +kernel
theorem dX15_byteOf_7 : decode cX15_byteOf 7 = .ok (.lconst 0, 1) := by decide +kernel
theorem dX15_byteOf_8 : decode cX15_byteOf 8 = .ok (.aload_n 0, 1) := by decide +kernel
theorem k_11_10 : Jvm.Cond.fieldLink "FinderHouseModel" (828 : Nat) "FinderHouseModel" "theSize" "I" ∈ tb := tb11 10 (by decide +kernel) (by decide +kernel)
theorem dX15_byteOf_9 : decode cX15_byteOf 9 = .ok (.getfield 828, 3) := by decide +kernel
theorem dX15_byteOf_12 : decode cX15_byteOf 12 = .ok (.iconst 1, 1) := by decide +kernel
theorem dX15_byteOf_13 : decode cX15_byteOf 13 = .ok (.isub, 1) := by decide +kernel
theorem dX15_byteOf_14 : decode cX15_byteOf 14 = .ok (.i2l, 1) := by decide +kernel
theorem dX15_byteOf_15 : decode cX15_byteOf 15 = .ok (.invokestatic 623, 3) := by decide +kernel
theorem dX15_byteOf_18 : decode cX15_byteOf 18 = .ok (.ifCond .eq 12, 3) := by decide +kernel
theorem dX15_byteOf_30 : decode cX15_byteOf 30 = .ok (.iconst (-1), 1) := by decide +kernel
theorem dX15_byteOf_31 : decode cX15_byteOf 31 = .ok (.ireturn, 1) := by decide +kernel
theorem dX15_answer__0 : decode cX15_answer_ 0 = .ok (.aload_n 0, 1) := by decide +kernel
theorem dX15_answer__1 : decode cX15_answer_ 1 = .ok (.iconst 0, 1) := by decide +kernel
theorem dX15_answer__2 : decode cX15_answer_ 2 = .ok (.putfield 773, 3) := by decide +kernel
theorem dX15_answer__5 : decode cX15_answer_ 5 = .ok (.aload_n 0, 1) := by decide +kernel
theorem k_11_4 : Jvm.Cond.fieldLink "FinderHouseModel" (148 : Nat) "FinderHouseModel" "theTerm" "I" ∈ tb := tb11 4 (by decide +kernel) (by decide +kernel)
theorem dX15_answer__6 : decode cX15_answer_ 6 = .ok (.getfield 148, 3) := by decide +kernel
theorem dX15_answer__9 : decode cX15_answer_ 9 = .ok (.ifCond .lt 28, 3) := by decide +kernel
theorem dX15_answer__37 : decode cX15_answer_ 37 = .ok (.bipush (-2), 2) := by decide +kernel
theorem dX15_answer__39 : decode cX15_answer_ 39 = .ok (.ireturn, 1) := by decide +kernel
theorem dX15_point_0 : decode cX15_point 0 = .ok (.aload_n 0, 1) := by decide +kernel
theorem dX15_point_1 : decode cX15_point 1 = .ok (.iconst 0, 1) := by decide +kernel
theorem dX15_point_2 : decode cX15_point 2 = .ok (.putfield 773, 3) := by decide +kernel
theorem dX15_point_5 : decode cX15_point 5 = .ok (.aload_n 0, 1) := by decide +kernel
theorem dX15_point_6 : decode cX15_point 6 = .ok (.getfield 404, 3) := by decide +kernel
theorem dX15_point_9 : decode cX15_point 9 = .ok (.ifnull 41, 3) := by decide +kernel
theorem dX15_point_50 : decode cX15_point 50 = .ok (.bipush (-2), 2) := by decide +kernel
theorem dX15_point_52 : decode cX15_point 52 = .ok (.goto 16, 3) := by decide +kernel
theorem dX15_point_68 : decode cX15_point 68 = .ok (.ireturn, 1) := by decide +kernel
theorem dX15_keep_0 : decode cX15_keep 0 = .ok (.aload_n 0, 1) := by decide +kernel
theorem dX15_keep_1 : decode cX15_keep 1 = .ok (.invokevirtual 785, 3) := by decide +kernel
theorem dX15_keep_4 : decode cX15_keep 4 = .ok (.ifCond .eq 6, 3) := by decide +kernel
theorem dX15_keep_10 : decode cX15_keep 10 = .ok (.aload_n 0, 1) := by decide +kernel
theorem dX15_keep_11 : decode cX15_keep 11 = .ok (.getfield 148, 3) := by decide +kernel
theorem dX15_keep_14 : decode cX15_keep 14 = .ok (.ifCond .lt 42, 3) := by decide +kernel
theorem dX15_keep_56 : decode cX15_keep 56 = .ok (.bipush (-2), 2) := by decide +kernel
theorem dX15_keep_58 : decode cX15_keep 58 = .ok (.ireturn, 1) := by decide +kernel
theorem dX15_kept_0 : decode cX15_kept 0 = .ok (.aload_n 0, 1) := by decide +kernel
theorem dX15_kept_1 : decode cX15_kept 1 = .ok (.invokevirtual 785, 3) := by decide +kernel
theorem dX15_kept_4 : decode cX15_kept 4 = .ok (.ifCond .eq 6, 3) := by decide +kernel
theorem dX15_kept_10 : decode cX15_kept 10 = .ok (.iload_n 1, 1) := by decide +kernel
theorem dX15_kept_11 : decode cX15_kept 11 = .ok (.i2l, 1) := by decide +kernel
theorem dX15_kept_12 : decode cX15_kept 12 = .ok (.lconst 0, 1) := by decide +kernel
theorem dX15_kept_13 : decode cX15_kept 13 = .ok (.aload_n 0, 1) := by decide +kernel
theorem dX15_kept_14 : decode cX15_kept 14 = .ok (.getfield 790, 3) := by decide +kernel
theorem dX15_kept_17 : decode cX15_kept 17 = .ok (.iconst 1, 1) := by decide +kernel
theorem dX15_kept_18 : decode cX15_kept 18 = .ok (.isub, 1) := by decide +kernel
theorem dX15_kept_19 : decode cX15_kept 19 = .ok (.i2l, 1) := by decide +kernel
theorem dX15_kept_20 : decode cX15_kept 20 = .ok (.invokestatic 623, 3) := by decide +kernel
theorem dX15_kept_23 : decode cX15_kept 23 = .ok (.ifCond .ne 5, 3) := by decide +kernel
theorem dX15_kept_26 : decode cX15_kept 26 = .ok (.iconst (-1), 1) := by decide +kernel
theorem dX15_kept_27 : decode cX15_kept 27 = .ok (.ireturn, 1) := by decide +kernel
theorem dX15_own_0 : decode cX15_own 0 = .ok (.aload_n 0, 1) := by decide +kernel
theorem dX15_own_1 : decode cX15_own 1 = .ok (.invokevirtual 785, 3) := by decide +kernel
theorem dX15_own_4 : decode cX15_own 4 = .ok (.ifCond .eq 6, 3) := by decide +kernel
theorem dX15_own_10 : decode cX15_own 10 = .ok (.iload_n 1, 1) := by decide +kernel
theorem dX15_own_11 : decode cX15_own 11 = .ok (.i2l, 1) := by decide +kernel
theorem dX15_own_12 : decode cX15_own 12 = .ok (.lconst 0, 1) := by decide +kernel
theorem dX15_own_13 : decode cX15_own 13 = .ok (.aload_n 0, 1) := by decide +kernel
theorem dX15_own_14 : decode cX15_own 14 = .ok (.getfield 27, 3) := by decide +kernel
theorem dX15_own_17 : decode cX15_own 17 = .ok (.bipush 26, 2) := by decide +kernel
theorem dX15_own_19 : decode cX15_own 19 = .ok (.isub, 1) := by decide +kernel
theorem dX15_own_20 : decode cX15_own 20 = .ok (.iconst 1, 1) := by decide +kernel
theorem dX15_own_21 : decode cX15_own 21 = .ok (.isub, 1) := by decide +kernel
theorem dX15_own_22 : decode cX15_own 22 = .ok (.i2l, 1) := by decide +kernel
theorem dX15_own_23 : decode cX15_own 23 = .ok (.invokestatic 623, 3) := by decide +kernel
theorem dX15_own_26 : decode cX15_own 26 = .ok (.ifCond .ne 5, 3) := by decide +kernel
theorem dX15_own_29 : decode cX15_own 29 = .ok (.iconst (-1), 1) := by decide +kernel
theorem dX15_own_30 : decode cX15_own 30 = .ok (.ireturn, 1) := by decide +kernel
theorem dX15_runs_0 : decode cX15_runs 0 = .ok (.aload_n 0, 1) := by decide +kernel
theorem dX15_runs_1 : decode cX15_runs 1 = .ok (.invokevirtual 785, 3) := by decide +kernel
theorem dX15_runs_4 : decode cX15_runs 4 = .ok (.ifCond .eq 6, 3) := by decide +kernel
theorem dX15_runs_10 : decode cX15_runs 10 = .ok (.aload_n 0, 1) := by decide +kernel
theorem k_11_40 : Jvm.Cond.fieldLink "FinderHouseModel" (1052 : Nat) "FinderHouseModel" "loop" "LFinderHouseModel$Loop;" ∈ tb := tb11 40 (by decide +kernel) (by decide +kernel)
theorem dX15_runs_11 : decode cX15_runs 11 = .ok (.getfield 1052, 3) := by decide +kernel
theorem dX15_runs_14 : decode cX15_runs 14 = .ok (.ifnonnull 6, 3) := by decide +kernel
theorem dX15_runs_17 : decode cX15_runs 17 = .ok (.bipush (-2), 2) := by decide +kernel
theorem dX15_runs_19 : decode cX15_runs 19 = .ok (.ireturn, 1) := by decide +kernel
theorem dX15_span_0 : decode cX15_span 0 = .ok (.aload_n 0, 1) := by decide +kernel
theorem dX15_span_1 : decode cX15_span 1 = .ok (.invokevirtual 785, 3) := by decide +kernel
theorem dX15_span_4 : decode cX15_span 4 = .ok (.ifCond .eq 6, 3) := by decide +kernel
theorem dX15_span_10 : decode cX15_span 10 = .ok (.aload_n 0, 1) := by decide +kernel
theorem dX15_span_11 : decode cX15_span 11 = .ok (.getfield 1052, 3) := by decide +kernel
theorem dX15_span_14 : decode cX15_span 14 = .ok (.ifnonnull 6, 3) := by decide +kernel
theorem dX15_span_17 : decode cX15_span 17 = .ok (.bipush (-2), 2) := by decide +kernel
theorem dX15_span_19 : decode cX15_span 19 = .ok (.ireturn, 1) := by decide +kernel
theorem dX15_clear_0 : decode cX15_clear 0 = .ok (.aload_n 0, 1) := by decide +kernel
theorem dX15_clear_1 : decode cX15_clear 1 = .ok (.invokevirtual 785, 3) := by decide +kernel
theorem dX15_clear_4 : decode cX15_clear 4 = .ok (.ifCond .eq 6, 3) := by decide +kernel
theorem dX15_clear_10 : decode cX15_clear 10 = .ok (.aload_n 0, 1) := by decide +kernel
theorem dX15_clear_11 : decode cX15_clear 11 = .ok (.getfield 793, 3) := by decide +kernel
theorem dX15_clear_14 : decode cX15_clear 14 = .ok (.istore_n 1, 1) := by decide +kernel
theorem dX15_clear_15 : decode cX15_clear 15 = .ok (.iload_n 1, 1) := by decide +kernel
theorem dX15_clear_16 : decode cX15_clear 16 = .ok (.ifCond .le 14, 3) := by decide +kernel
theorem dX15_clear_30 : decode cX15_clear 30 = .ok (.iload_n 1, 1) := by decide +kernel
theorem dX15_clear_31 : decode cX15_clear 31 = .ok (.ifCond .le 15, 3) := by decide +kernel
theorem dX15_clear_46 : decode cX15_clear 46 = .ok (.aload_n 0, 1) := by decide +kernel
theorem dX15_clear_47 : decode cX15_clear 47 = .ok (.iconst 0, 1) := by decide +kernel
theorem dX15_clear_48 : decode cX15_clear 48 = .ok (.putfield 793, 3) := by decide +kernel
theorem dX15_clear_51 : decode cX15_clear 51 = .ok (.iload_n 1, 1) := by decide +kernel
theorem dX15_clear_52 : decode cX15_clear 52 = .ok (.ireturn, 1) := by decide +kernel
theorem dX15_fit_0 : decode cX15_fit 0 = .ok (.aload_n 0, 1) := by decide +kernel
theorem dX15_fit_1 : decode cX15_fit 1 = .ok (.invokevirtual 785, 3) := by decide +kernel
theorem dX15_fit_4 : decode cX15_fit 4 = .ok (.ifCond .eq 6, 3) := by decide +kernel
theorem dX15_fit_10 : decode cX15_fit 10 = .ok (.aload_n 0, 1) := by decide +kernel
theorem dX15_fit_11 : decode cX15_fit 11 = .ok (.getfield 793, 3) := by decide +kernel
theorem dX15_fit_14 : decode cX15_fit 14 = .ok (.ifCond .ne 6, 3) := by decide +kernel
theorem dX15_fit_17 : decode cX15_fit 17 = .ok (.bipush (-2), 2) := by decide +kernel
theorem dX15_fit_19 : decode cX15_fit 19 = .ok (.ireturn, 1) := by decide +kernel
theorem dX15_fitting_0 : decode cX15_fitting 0 = .ok (.aload_n 0, 1) := by decide +kernel
theorem dX15_fitting_1 : decode cX15_fitting 1 = .ok (.invokevirtual 785, 3) := by decide +kernel
theorem dX15_fitting_4 : decode cX15_fitting 4 = .ok (.ifCond .eq 7, 3) := by decide +kernel
theorem dX15_fitting_11 : decode cX15_fitting 11 = .ok (.iload_n 1, 1) := by decide +kernel
theorem dX15_fitting_12 : decode cX15_fitting 12 = .ok (.i2l, 1) := by decide +kernel
theorem dX15_fitting_13 : decode cX15_fitting 13 = .ok (.lconst 1, 1) := by decide +kernel
theorem k_15_196 : Jvm.Cond.constantLong "FinderHouseModel" (1144 : Nat) (4 : Int64) ∈ tb := tb15 196 (by decide +kernel) (by decide +kernel)
theorem dX15_fitting_14 : decode cX15_fitting 14 = .ok (.ldc2_w 1144, 3) := by decide +kernel
theorem dX15_fitting_17 : decode cX15_fitting 17 = .ok (.invokestatic 623, 3) := by decide +kernel
theorem dX15_fitting_20 : decode cX15_fitting 20 = .ok (.ifCond .ne 7, 3) := by decide +kernel
theorem dX15_fitting_27 : decode cX15_fitting 27 = .ok (.aload_n 0, 1) := by decide +kernel
theorem dX15_fitting_28 : decode cX15_fitting 28 = .ok (.getfield 793, 3) := by decide +kernel
theorem dX15_fitting_31 : decode cX15_fitting 31 = .ok (.ifCond .ne 7, 3) := by decide +kernel
theorem k_15_59 : Jvm.Cond.constantLong "FinderHouseModel" (978 : Nat) (-2 : Int64) ∈ tb := tb15 59 (by decide +kernel) (by decide +kernel)
theorem dX15_fitting_34 : decode cX15_fitting 34 = .ok (.ldc2_w 978, 3) := by decide +kernel
theorem dX15_fitting_37 : decode cX15_fitting 37 = .ok (.lreturn, 1) := by decide +kernel
theorem k_14_163 : Jvm.Cond.constantLong "FinderHouseModel" (764 : Nat) (-1 : Int64) ∈ tb := tb14 163 (by decide +kernel) (by decide +kernel)
theorem dX15_fitting_23 : decode cX15_fitting 23 = .ok (.ldc2_w 764, 3) := by decide +kernel
theorem dX15_fitting_26 : decode cX15_fitting 26 = .ok (.lreturn, 1) := by decide +kernel
theorem dX15_part_0 : decode cX15_part 0 = .ok (.aload_n 0, 1) := by decide +kernel
theorem dX15_part_1 : decode cX15_part 1 = .ok (.iconst 0, 1) := by decide +kernel
theorem dX15_part_2 : decode cX15_part 2 = .ok (.putfield 773, 3) := by decide +kernel
theorem dX15_part_5 : decode cX15_part 5 = .ok (.iload_n 2, 1) := by decide +kernel
theorem dX15_part_6 : decode cX15_part 6 = .ok (.ifCond .ne 19, 3) := by decide +kernel
theorem dX15_part_25 : decode cX15_part 25 = .ok (.iload_n 1, 1) := by decide +kernel
theorem dX15_part_26 : decode cX15_part 26 = .ok (.i2l, 1) := by decide +kernel
theorem dX15_part_27 : decode cX15_part 27 = .ok (.lconst 0, 1) := by decide +kernel
theorem dX15_part_28 : decode cX15_part 28 = .ok (.aload_n 0, 1) := by decide +kernel
theorem k_11_73 : Jvm.Cond.fieldLink "FinderHouseModel" (1136 : Nat) "FinderHouseModel" "parts" "I" ∈ tb := tb11 73 (by decide +kernel) (by decide +kernel)
theorem dX15_part_29 : decode cX15_part 29 = .ok (.getfield 1136, 3) := by decide +kernel
theorem dX15_part_32 : decode cX15_part 32 = .ok (.iconst 1, 1) := by decide +kernel
theorem dX15_part_33 : decode cX15_part 33 = .ok (.isub, 1) := by decide +kernel
theorem dX15_part_34 : decode cX15_part 34 = .ok (.i2l, 1) := by decide +kernel
theorem dX15_part_35 : decode cX15_part 35 = .ok (.invokestatic 623, 3) := by decide +kernel
theorem dX15_part_38 : decode cX15_part 38 = .ok (.ifCond .eq 15, 3) := by decide +kernel
theorem dX15_part_53 : decode cX15_part 53 = .ok (.iconst (-1), 1) := by decide +kernel
theorem dX15_part_54 : decode cX15_part 54 = .ok (.ireturn, 1) := by decide +kernel
theorem dX15_part_9 : decode cX15_part 9 = .ok (.aload_n 0, 1) := by decide +kernel
theorem dX15_part_10 : decode cX15_part 10 = .ok (.getfield 1136, 3) := by decide +kernel
theorem dX15_part_13 : decode cX15_part 13 = .ok (.ifCond .ne 7, 3) := by decide +kernel
theorem dX15_part_16 : decode cX15_part 16 = .ok (.iconst (-1), 1) := by decide +kernel
theorem dX15_part_17 : decode cX15_part 17 = .ok (.goto 7, 3) := by decide +kernel
theorem dX15_part_24 : decode cX15_part 24 = .ok (.ireturn, 1) := by decide +kernel
theorem dX15_forget_0 : decode cX15_forget 0 = .ok (.aload_n 0, 1) := by decide +kernel
theorem dX15_forget_1 : decode cX15_forget 1 = .ok (.invokevirtual 785, 3) := by decide +kernel
theorem dX15_forget_4 : decode cX15_forget 4 = .ok (.ifCond .eq 6, 3) := by decide +kernel
theorem dX15_forget_10 : decode cX15_forget 10 = .ok (.aload_n 0, 1) := by decide +kernel
theorem dX15_forget_11 : decode cX15_forget 11 = .ok (.getfield 794, 3) := by decide +kernel
theorem dX15_forget_14 : decode cX15_forget 14 = .ok (.istore_n 1, 1) := by decide +kernel
theorem dX15_forget_15 : decode cX15_forget 15 = .ok (.iload_n 1, 1) := by decide +kernel
theorem dX15_forget_16 : decode cX15_forget 16 = .ok (.ifCond .le 14, 3) := by decide +kernel
theorem dX15_forget_30 : decode cX15_forget 30 = .ok (.iload_n 1, 1) := by decide +kernel
theorem dX15_forget_31 : decode cX15_forget 31 = .ok (.ifCond .le 14, 3) := by decide +kernel
theorem dX15_forget_45 : decode cX15_forget 45 = .ok (.aload_n 0, 1) := by decide +kernel
theorem dX15_forget_46 : decode cX15_forget 46 = .ok (.iconst 0, 1) := by decide +kernel
theorem dX15_forget_47 : decode cX15_forget 47 = .ok (.putfield 794, 3) := by decide +kernel
theorem dX15_forget_50 : decode cX15_forget 50 = .ok (.iload_n 1, 1) := by decide +kernel
theorem dX15_forget_51 : decode cX15_forget 51 = .ok (.ireturn, 1) := by decide +kernel
theorem dX15_state_0 : decode cX15_state 0 = .ok (.aload_n 0, 1) := by decide +kernel
theorem dX15_state_1 : decode cX15_state 1 = .ok (.iconst 0, 1) := by decide +kernel
theorem dX15_state_2 : decode cX15_state 2 = .ok (.putfield 773, 3) := by decide +kernel
theorem dX15_state_5 : decode cX15_state 5 = .ok (.iload_n 1, 1) := by decide +kernel
theorem dX15_state_6 : decode cX15_state 6 = .ok (.i2l, 1) := by decide +kernel
theorem dX15_state_7 : decode cX15_state 7 = .ok (.lconst 0, 1) := by decide +kernel
theorem dX15_state_8 : decode cX15_state 8 = .ok (.aload_n 0, 1) := by decide +kernel
theorem k_11_82 : Jvm.Cond.fieldLink "FinderHouseModel" (1156 : Nat) "FinderHouseModel" "states" "I" ∈ tb := tb11 82 (by decide +kernel) (by decide +kernel)
theorem dX15_state_9 : decode cX15_state 9 = .ok (.getfield 1156, 3) := by decide +kernel
theorem dX15_state_12 : decode cX15_state 12 = .ok (.iconst 1, 1) := by decide +kernel
theorem dX15_state_13 : decode cX15_state 13 = .ok (.isub, 1) := by decide +kernel
theorem dX15_state_14 : decode cX15_state 14 = .ok (.i2l, 1) := by decide +kernel
theorem dX15_state_15 : decode cX15_state 15 = .ok (.invokestatic 623, 3) := by decide +kernel
theorem dX15_state_18 : decode cX15_state 18 = .ok (.ifCond .eq 15, 3) := by decide +kernel
theorem dX15_state_33 : decode cX15_state 33 = .ok (.iconst (-1), 1) := by decide +kernel
theorem dX15_state_34 : decode cX15_state 34 = .ok (.ireturn, 1) := by decide +kernel
theorem dX15_step__0 : decode cX15_step_ 0 = .ok (.aload_n 0, 1) := by decide +kernel
theorem dX15_step__1 : decode cX15_step_ 1 = .ok (.iconst 0, 1) := by decide +kernel
theorem dX15_step__2 : decode cX15_step_ 2 = .ok (.putfield 773, 3) := by decide +kernel
theorem dX15_step__5 : decode cX15_step_ 5 = .ok (.iload_n 1, 1) := by decide +kernel
theorem dX15_step__6 : decode cX15_step_ 6 = .ok (.i2l, 1) := by decide +kernel
theorem dX15_step__7 : decode cX15_step_ 7 = .ok (.lconst 0, 1) := by decide +kernel
theorem dX15_step__8 : decode cX15_step_ 8 = .ok (.aload_n 0, 1) := by decide +kernel
theorem k_11_85 : Jvm.Cond.fieldLink "FinderHouseModel" (1238 : Nat) "FinderHouseModel" "steps" "I" ∈ tb := tb11 85 (by decide +kernel) (by decide +kernel)
theorem dX15_step__9 : decode cX15_step_ 9 = .ok (.getfield 1238, 3) := by decide +kernel
theorem dX15_step__12 : decode cX15_step_ 12 = .ok (.iconst 1, 1) := by decide +kernel
theorem dX15_step__13 : decode cX15_step_ 13 = .ok (.isub, 1) := by decide +kernel
theorem dX15_step__14 : decode cX15_step_ 14 = .ok (.i2l, 1) := by decide +kernel
theorem dX15_step__15 : decode cX15_step_ 15 = .ok (.invokestatic 623, 3) := by decide +kernel
theorem dX15_step__18 : decode cX15_step_ 18 = .ok (.ifCond .eq 12, 3) := by decide +kernel
theorem dX15_step__30 : decode cX15_step_ 30 = .ok (.iconst (-1), 1) := by decide +kernel
theorem dX15_step__31 : decode cX15_step_ 31 = .ok (.ireturn, 1) := by decide +kernel
theorem dX15_cut_0 : decode cX15_cut 0 = .ok (.aload_n 0, 1) := by decide +kernel
theorem dX15_cut_1 : decode cX15_cut 1 = .ok (.invokevirtual 785, 3) := by decide +kernel
theorem dX15_cut_4 : decode cX15_cut 4 = .ok (.ifCond .eq 6, 3) := by decide +kernel
theorem dX15_cut_10 : decode cX15_cut 10 = .ok (.iload_n 1, 1) := by decide +kernel
theorem dX15_cut_11 : decode cX15_cut 11 = .ok (.i2l, 1) := by decide +kernel
theorem dX15_cut_12 : decode cX15_cut 12 = .ok (.ldc2_w 764, 3) := by decide +kernel
theorem k_16_80 : Jvm.Cond.constantLong "FinderHouseModel" (1272 : Nat) (400 : Int64) ∈ tb := tb16 80 (by decide +kernel) (by decide +kernel)
theorem dX15_cut_15 : decode cX15_cut 15 = .ok (.ldc2_w 1272, 3) := by decide +kernel
theorem dX15_cut_18 : decode cX15_cut 18 = .ok (.invokestatic 623, 3) := by decide +kernel
theorem dX15_cut_21 : decode cX15_cut 21 = .ok (.ifCond .eq 15, 3) := by decide +kernel
theorem dX15_cut_24 : decode cX15_cut 24 = .ok (.iload_n 2, 1) := by decide +kernel
theorem dX15_cut_25 : decode cX15_cut 25 = .ok (.i2l, 1) := by decide +kernel
theorem dX15_cut_26 : decode cX15_cut 26 = .ok (.lconst 0, 1) := by decide +kernel
theorem k_16_81 : Jvm.Cond.constantLong "FinderHouseModel" (1274 : Nat) (127 : Int64) ∈ tb := tb16 81 (by decide +kernel) (by decide +kernel)
theorem dX15_cut_27 : decode cX15_cut 27 = .ok (.ldc2_w 1274, 3) := by decide +kernel
theorem dX15_cut_30 : decode cX15_cut 30 = .ok (.invokestatic 623, 3) := by decide +kernel
theorem dX15_cut_33 : decode cX15_cut 33 = .ok (.ifCond .ne 5, 3) := by decide +kernel
theorem dX15_cut_38 : decode cX15_cut 38 = .ok (.aload_n 0, 1) := by decide +kernel
theorem dX15_cut_39 : decode cX15_cut 39 = .ok (.iload_n 1, 1) := by decide +kernel
theorem k_11_109 : Jvm.Cond.fieldLink "FinderHouseModel" (310 : Nat) "FinderHouseModel" "cutIn" "I" ∈ tb := tb11 109 (by decide +kernel) (by decide +kernel)
theorem dX15_cut_40 : decode cX15_cut 40 = .ok (.putfield 310, 3) := by decide +kernel
theorem dX15_cut_43 : decode cX15_cut 43 = .ok (.aload_n 0, 1) := by decide +kernel
theorem dX15_cut_44 : decode cX15_cut 44 = .ok (.iload_n 2, 1) := by decide +kernel
theorem k_11_110 : Jvm.Cond.fieldLink "FinderHouseModel" (1269 : Nat) "FinderHouseModel" "cutBytes" "I" ∈ tb := tb11 110 (by decide +kernel) (by decide +kernel)
theorem dX15_cut_45 : decode cX15_cut 45 = .ok (.putfield 1269, 3) := by decide +kernel
theorem dX15_cut_48 : decode cX15_cut 48 = .ok (.iconst 1, 1) := by decide +kernel
theorem dX15_cut_49 : decode cX15_cut 49 = .ok (.ireturn, 1) := by decide +kernel
theorem dX15_cut_36 : decode cX15_cut 36 = .ok (.iconst (-1), 1) := by decide +kernel
theorem dX15_cut_37 : decode cX15_cut 37 = .ok (.ireturn, 1) := by decide +kernel
theorem dX15_start_0 : decode cX15_start 0 = .ok (.aload_n 0, 1) := by decide +kernel
theorem dX15_start_1 : decode cX15_start 1 = .ok (.iconst 0, 1) := by decide +kernel
theorem dX15_start_2 : decode cX15_start 2 = .ok (.putfield 773, 3) := by decide +kernel
theorem dX15_start_5 : decode cX15_start 5 = .ok (.aload_n 0, 1) := by decide +kernel
theorem dX15_start_6 : decode cX15_start 6 = .ok (.getfield 782, 3) := by decide +kernel
theorem dX15_start_9 : decode cX15_start 9 = .ok (.ifCond .ne 6, 3) := by decide +kernel
theorem dX15_start_12 : decode cX15_start 12 = .ok (.bipush (-2), 2) := by decide +kernel
theorem dX15_start_14 : decode cX15_start 14 = .ok (.ireturn, 1) := by decide +kernel
theorem in_emp {v lo hi : Int64} (h : hi < lo) (n : lo ≤ v ∧ v ≤ hi) : False := by
  have h1 := Int64.lt_iff_toInt_lt.mp h
  have h2 := Int64.le_iff_toInt_le.mp n.1
  have h3 := Int64.le_iff_toInt_le.mp n.2
  omega
theorem sp_told_hi {w : Int32} (h7 : ¬ w ≤ 7) (h12 : w ≤ 12) : sp_told w = -2 := by
  have hne : ∀ k : Int32, k ≤ 7 → ¬ w = k := fun k hk e => h7 (e ▸ hk)
  have h8 : ¬ w < 8 := by
    rw [Int32.lt_iff_toInt_lt]
    rw [Int32.le_iff_toInt_le] at h7
    have y7 : (7 : Int32).toInt = 7 := by decide
    have y8 : (8 : Int32).toInt = 8 := by decide
    omega
  simp [sp_told, hne 0 (by decide), hne 1 (by decide), hne 2 (by decide), hne 3 (by decide), hne 4 (by decide), hne 5 (by decide), hne 6 (by decide), hne 7 (by decide), h8, h12]
theorem sp_told_lo {w : Int32} (h : w < 0) : sp_told w = -1 := by
  have hne : ∀ k : Int32, 0 ≤ k → ¬ w = k := fun k hk e => absurd (e ▸ hk) (Int32.not_le.mpr h)
  have h8 : w < 8 := by
    rw [Int32.lt_iff_toInt_lt] at h ⊢
    have y7 : (0 : Int32).toInt = 0 := by decide
    have y8 : (8 : Int32).toInt = 8 := by decide
    omega
  simp [sp_told, hne 0 (by decide), hne 1 (by decide), hne 2 (by decide), hne 3 (by decide), hne 4 (by decide), hne 5 (by decide), hne 6 (by decide), hne 7 (by decide), h8]
theorem sp_told_gt {w : Int32} (h : ¬ w ≤ 12) : sp_told w = -1 := by
  have hne : ∀ k : Int32, k ≤ 12 → ¬ w = k := fun k hk e => h (e ▸ hk)
  simp [sp_told, hne 0 (by decide), hne 1 (by decide), hne 2 (by decide), hne 3 (by decide), hne 4 (by decide), hne 5 (by decide), hne 6 (by decide), hne 7 (by decide), h]
theorem in_yes {p lo hi : Int32} {v a b : Int64} (hv : v = p.toInt64) (ha : lo.toInt64 = a) (hb : hi.toInt64 = b) (n : a ≤ v ∧ v ≤ b) : ¬ p < lo ∧ p ≤ hi := by
  subst hv; subst ha; subst hb
  obtain ⟨n1, n2⟩ := n
  rw [Int64.le_iff_toInt_le, Int32.toInt_toInt64, Int32.toInt_toInt64] at n1 n2
  exact ⟨Int32.not_lt.mpr (Int32.le_iff_toInt_le.mpr n1), Int32.le_iff_toInt_le.mpr n2⟩
theorem in_no {p lo hi : Int32} {v a b : Int64} (hv : v = p.toInt64) (ha : lo.toInt64 = a) (hb : hi.toInt64 = b) (n : v < a ∨ b < v) : p < lo ∨ ¬ p ≤ hi := by
  subst hv; subst ha; subst hb
  rcases n with n | n
  · rw [Int64.lt_iff_toInt_lt, Int32.toInt_toInt64, Int32.toInt_toInt64] at n
    exact Or.inl (Int32.lt_iff_toInt_lt.mpr n)
  · rw [Int64.lt_iff_toInt_lt, Int32.toInt_toInt64, Int32.toInt_toInt64] at n
    exact Or.inr (Int32.not_le.mpr (Int32.lt_iff_toInt_lt.mpr n))
set_option maxHeartbeats 4000000 in
set_option maxRecDepth 100000 in
theorem r_in (l : Launch) (dC : Nat → ClassId) (dI : Nat → Nat → Nat) (sz : Nat) (v : Int64) (lo : Int64) (hi : Int64)  : Met l yX15_in (Cond.code yX15_in cX15_in 6 (some .boolean) :: tb) ({ frames := 0, cells := 0, slots := 0, locals := 0 }) (pcw [.long v, .long lo, .long hi] (dC, dI) [] [] sz) (va_Qi (fun (r : Int32) => (fun (_ : Unit) => (r = 1 ∧ lo ≤ v ∧ v ≤ hi) ∨ (r = 0 ∧ (v < lo ∨ hi < v)))) (bw (dC, dI) (va_A [] sz) (fun (_ : Unit) => []) (fun (_ : Unit) => [])) (va_A [] sz)) 0 0 (va_A [] sz) := by
  refine Met.ofW (cc := cX15_in) (maxL := 6) (ret := (some .boolean)) (by decide) rfl ?_
  intro p e s m args below meth c s₁ B hml hv
  obtain ⟨rfl, hsz, hP, hK, hD0⟩ := hv
  have hx := B.exec
  have hb := B.bytes
  have hr := B.returns
  have hts := atoms_spec (ws := Cond.code yX15_in cX15_in 6 (some .boolean) :: tb) B.pre
  have ht : ∀ w ∈ tb, w.before _ s = true := fun w h => hts w (List.mem_cons_of_mem _ h)
  have hown : s.vm.findClass RX15 = some m.cls := findClass_of_methodNamed B.named
  have hlocks := B.notSynchronized
  subst hsz
  have hD := hD0.self (sz := s.heap.size)
  generalize hAe : va_A [] s.heap.size = A at hD ⊢
  have hA : ∀ q : Nat, s.heap.size ≤ q → A q := fun q h => by rw [← hAe]; exact Or.inr h
  have hS : va_S A s.heap s.heap [] := va_S.rf
  have hl := lv_entry ([.long v, .long lo, .long hi]) (n := 6) (Nat.le_of_ble_eq_true rfl)
  rw [lg_entry_eq]
  generalize (lg_sl ([.long v, .long lo, .long hi]) ++ List.replicate (6 - (lg_sl ([.long v, .long lo, .long hi])).length) Slot.unset).toArray = ls at hl ⊢
  have hl : lv_has ls 6 [(0, .long v), (2, .long lo), (4, .long hi)] := hl
  have hP : va_P (dC, dI) cls [] s.heap := hP
  refine lv_lload_n hx hb dX15_in_0 rfl (lv_at hl 0 rfl) ?_
  refine lv_lload_n hx hb dX15_in_1 rfl (lv_at hl 1 rfl) ?_
  refine W.lcmp hx hb dX15_in_2 ?_
  refine lv_if_lt (tgt := 17) hx hb dX15_in_3 (by decide) (fun b1 => ?_) (fun b1 => ?_)
  · refine lv_iconst (v := 0) hx hb dX15_in_17 (by decide) ?_
    exact W.zret (v := 0) hx hb hr rfl (fun t ht9 hW => ⟨⟨0, (), rfl, (Or.inr ⟨rfl, Or.inl ((lg_cmp_lt _ _).mp b1)⟩), by rw [ht9]; exact hP.sub [] rfl, va_K.moved hW.alike (hK.sub [] rfl), hD.sub [] (by decide) rfl⟩, hS.F ht9⟩) hS.2.2 dX15_in_18
  · refine lv_lload_n hx hb dX15_in_6 rfl (lv_at hl 0 rfl) ?_
    refine lv_lload hx hb dX15_in_7 (lv_at hl 2 rfl) ?_
    refine W.lcmp hx hb dX15_in_9 ?_
    refine lv_if_gt (tgt := 17) hx hb dX15_in_10 (by decide) (fun b2 => ?_) (fun b2 => ?_)
    · refine lv_iconst (v := 0) hx hb dX15_in_17 (by decide) ?_
      exact W.zret (v := 0) hx hb hr rfl (fun t ht9 hW => ⟨⟨0, (), rfl, (Or.inr ⟨rfl, Or.inr ((lg_cmp_gt _ _).mp b2)⟩), by rw [ht9]; exact hP.sub [] rfl, va_K.moved hW.alike (hK.sub [] rfl), hD.sub [] (by decide) rfl⟩, hS.F ht9⟩) hS.2.2 dX15_in_18
    · refine lv_iconst (v := 1) hx hb dX15_in_13 (by decide) ?_
      refine lv_goto (tgt := 18) hx hb dX15_in_14 (by decide) ?_
      exact W.zret (v := 1) hx hb hr rfl (fun t ht9 hW => ⟨⟨1, (), rfl, (Or.inl ⟨rfl, Int64.not_lt.mp (fun h => b1 ((lg_cmp_lt _ _).mpr h)), Int64.not_lt.mp (fun h => b2 ((lg_cmp_gt _ _).mpr h))⟩), by rw [ht9]; exact hP.sub [] rfl, va_K.moved hW.alike (hK.sub [] rfl), hD.sub [] (by decide) rfl⟩, hS.F ht9⟩) hS.2.2 dX15_in_18
set_option maxHeartbeats 4000000 in
set_option maxRecDepth 100000 in
theorem r_place (l : Launch) (dC : Nat → ClassId) (dI : Nat → Nat → Nat) (sz : Nat) (q : Nat) (fs : List Value) (L_fs : fs.length = 163) (K54_fs : fs[54]? = some (.int 0)) (K55_fs : fs[55]? = some (.int (-1))) : Met l yX15_place (Cond.code yX15_place cX15_place 1 (some .int) :: tb) ({ frames := 0, cells := 0, slots := 0, locals := 0 }) (pcw [.ref q] (dC, dI) [(q, .inr (15, fs))] [] sz) (va_Qi (fun (r : Int32) => (fun (_ : Unit) => r = -1)) (bw (dC, dI) (va_A [(q, .inr (15, fs))] sz) (fun (_ : Unit) => []) (fun (_ : Unit) => [])) (va_A [(q, .inr (15, fs))] sz)) 0 0 (va_A [(q, .inr (15, fs))] sz) := by
  refine Met.ofW (cc := cX15_place) (maxL := 1) (ret := (some .int)) (by decide) rfl ?_
  intro p e s m args below meth c s₁ B hml hv
  obtain ⟨rfl, hsz, hP, hK, hD0⟩ := hv
  have hx := B.exec
  have hb := B.bytes
  have hr := B.returns
  have hts := atoms_spec (ws := Cond.code yX15_place cX15_place 1 (some .int) :: tb) B.pre
  have ht : ∀ w ∈ tb, w.before _ s = true := fun w h => hts w (List.mem_cons_of_mem _ h)
  have hown : s.vm.findClass RX15 = some m.cls := findClass_of_methodNamed B.named
  have hlocks := B.notSynchronized
  subst hsz
  have hD := hD0.self (sz := s.heap.size)
  generalize hAe : va_A [(q, .inr (15, fs))] s.heap.size = A at hD ⊢
  have hA : ∀ q : Nat, s.heap.size ≤ q → A q := fun q h => by rw [← hAe]; exact Or.inr h
  have hS : va_S A s.heap s.heap [] := va_S.rf
  have hl := lv_entry ([.ref q]) (n := 1) (Nat.le_of_ble_eq_true rfl)
  rw [lg_entry_eq]
  generalize (lg_sl ([.ref q]) ++ List.replicate (1 - (lg_sl ([.ref q])).length) Slot.unset).toArray = ls at hl ⊢
  have hl : lv_has ls 1 [(0, .ref q)] := hl
  have hP : va_P (dC, dI) cls [(q, .inr (15, fs))] s.heap := hP
  refine lv_aload_n hx hb dX15_place_0 rfl (lv_at hl 0 rfl) ?_
  refine lv_iconst (v := 0) hx hb dX15_place_1 (by decide) ?_
  refine va_put (D := (dC, dI)) (ci := 15) (v := .int 0) (ty := .int) (C := RX15) (T := TX15) (N := 163) hx hb ht uX15 tyX15 tkX15 nmX15 hown hK hP hD hS 0 rfl rfl 51 (by decide) (ht _ k_10_239) (fun _ h9 => h9) rfl (by decide +kernel) rfl rfl (by rw [L_fs]; decide) dX15_place_2 (fun H locs hP hD hS => ?_)
  obtain ⟨F1, eF1⟩ : ∃ g : List Value, g = fs.set 51 (.int 0) := ⟨_, rfl⟩
  rw [← eF1] at hP hD
  have K54_F1 : F1[54]? = some (.int 0) := by rw [eF1, List.getElem?_set_ne (by decide)]; exact K54_fs
  have K55_F1 : F1[55]? = some (.int (-1)) := by rw [eF1, List.getElem?_set_ne (by decide)]; exact K55_fs
  have K51_F1 : F1[51]? = some (.int 0) := by rw [eF1]; exact List.getElem?_set_self (by rw [L_fs]; decide)
  have L_F1 : F1.length = 163 := by rw [eF1, List.length_set]; exact L_fs
  have hP : va_P (dC, dI) cls [(q, .inr (15, F1))] H := hP
  have hD : va_D A [(q, .inr (15, F1))] := hD
  refine lv_aload_n hx hb dX15_place_5 rfl (lv_at hl 0 rfl) ?_
  refine va_get (D := (dC, dI)) (ci := 15) (v := .int (-1)) (C := RX15) (T := TX15) (N := 163) hx hb ht uX15 hown hK hP 0 rfl rfl 55 (by decide) (ht _ k_11_3) (fun _ h9 => h9) K55_F1 dX15_place_6 ?_
  exact W.iret (v := (-1)) hx hb hr (fun t ht9 hW => ⟨⟨(-1), (), rfl, rfl, by rw [ht9]; exact hP.sub [] rfl, va_K.moved hW.alike (hK.sub [] rfl), hD.sub [] (by decide) rfl⟩, hS.F ht9⟩) hS.2.2 dX15_place_9
set_option maxHeartbeats 4000000 in
set_option maxRecDepth 100000 in
theorem r_mended (l : Launch) (dC : Nat → ClassId) (dI : Nat → Nat → Nat) (sz : Nat) (q : Nat) (fs : List Value) (L_fs : fs.length = 163) (K54_fs : fs[54]? = some (.int 0)) (K63_fs : fs[63]? = some (.int (-1))) : Met l yX15_mended (Cond.code yX15_mended cX15_mended 1 (some .int) :: tb) ({ frames := 0, cells := 0, slots := 0, locals := 0 }) (pcw [.ref q] (dC, dI) [(q, .inr (15, fs))] [] sz) (va_Qi (fun (r : Int32) => (fun (_ : Unit) => r = -1)) (bw (dC, dI) (va_A [(q, .inr (15, fs))] sz) (fun (_ : Unit) => []) (fun (_ : Unit) => [])) (va_A [(q, .inr (15, fs))] sz)) 0 0 (va_A [(q, .inr (15, fs))] sz) := by
  refine Met.ofW (cc := cX15_mended) (maxL := 1) (ret := (some .int)) (by decide) rfl ?_
  intro p e s m args below meth c s₁ B hml hv
  obtain ⟨rfl, hsz, hP, hK, hD0⟩ := hv
  have hx := B.exec
  have hb := B.bytes
  have hr := B.returns
  have hts := atoms_spec (ws := Cond.code yX15_mended cX15_mended 1 (some .int) :: tb) B.pre
  have ht : ∀ w ∈ tb, w.before _ s = true := fun w h => hts w (List.mem_cons_of_mem _ h)
  have hown : s.vm.findClass RX15 = some m.cls := findClass_of_methodNamed B.named
  have hlocks := B.notSynchronized
  subst hsz
  have hD := hD0.self (sz := s.heap.size)
  generalize hAe : va_A [(q, .inr (15, fs))] s.heap.size = A at hD ⊢
  have hA : ∀ q : Nat, s.heap.size ≤ q → A q := fun q h => by rw [← hAe]; exact Or.inr h
  have hS : va_S A s.heap s.heap [] := va_S.rf
  have hl := lv_entry ([.ref q]) (n := 1) (Nat.le_of_ble_eq_true rfl)
  rw [lg_entry_eq]
  generalize (lg_sl ([.ref q]) ++ List.replicate (1 - (lg_sl ([.ref q])).length) Slot.unset).toArray = ls at hl ⊢
  have hl : lv_has ls 1 [(0, .ref q)] := hl
  have hP : va_P (dC, dI) cls [(q, .inr (15, fs))] s.heap := hP
  refine lv_aload_n hx hb dX15_mended_0 rfl (lv_at hl 0 rfl) ?_
  refine lv_iconst (v := 0) hx hb dX15_mended_1 (by decide) ?_
  refine va_put (D := (dC, dI)) (ci := 15) (v := .int 0) (ty := .int) (C := RX15) (T := TX15) (N := 163) hx hb ht uX15 tyX15 tkX15 nmX15 hown hK hP hD hS 0 rfl rfl 51 (by decide) (ht _ k_10_239) (fun _ h9 => h9) rfl (by decide +kernel) rfl rfl (by rw [L_fs]; decide) dX15_mended_2 (fun H locs hP hD hS => ?_)
  obtain ⟨F1, eF1⟩ : ∃ g : List Value, g = fs.set 51 (.int 0) := ⟨_, rfl⟩
  rw [← eF1] at hP hD
  have K54_F1 : F1[54]? = some (.int 0) := by rw [eF1, List.getElem?_set_ne (by decide)]; exact K54_fs
  have K63_F1 : F1[63]? = some (.int (-1)) := by rw [eF1, List.getElem?_set_ne (by decide)]; exact K63_fs
  have K51_F1 : F1[51]? = some (.int 0) := by rw [eF1]; exact List.getElem?_set_self (by rw [L_fs]; decide)
  have L_F1 : F1.length = 163 := by rw [eF1, List.length_set]; exact L_fs
  have hP : va_P (dC, dI) cls [(q, .inr (15, F1))] H := hP
  have hD : va_D A [(q, .inr (15, F1))] := hD
  refine lv_aload_n hx hb dX15_mended_5 rfl (lv_at hl 0 rfl) ?_
  refine va_get (D := (dC, dI)) (ci := 15) (v := .int (-1)) (C := RX15) (T := TX15) (N := 163) hx hb ht uX15 hown hK hP 0 rfl rfl 63 (by decide) (ht _ k_11_11) (fun _ h9 => h9) K63_F1 dX15_mended_6 ?_
  exact W.iret (v := (-1)) hx hb hr (fun t ht9 hW => ⟨⟨(-1), (), rfl, rfl, by rw [ht9]; exact hP.sub [] rfl, va_K.moved hW.alike (hK.sub [] rfl), hD.sub [] (by decide) rfl⟩, hS.F ht9⟩) hS.2.2 dX15_mended_9
set_option maxHeartbeats 4000000 in
set_option maxRecDepth 100000 in
theorem r_worked (l : Launch) (dC : Nat → ClassId) (dI : Nat → Nat → Nat) (sz : Nat) (q : Nat) (fs : List Value) (L_fs : fs.length = 163) (K54_fs : fs[54]? = some (.int 0)) (K64_fs : fs[64]? = some (.int 0)) : Met l yX15_worked (Cond.code yX15_worked cX15_worked 1 (some .int) :: tb) ({ frames := 0, cells := 0, slots := 0, locals := 0 }) (pcw [.ref q] (dC, dI) [(q, .inr (15, fs))] [] sz) (va_Qi (fun (r : Int32) => (fun (_ : Unit) => r = 0)) (bw (dC, dI) (va_A [(q, .inr (15, fs))] sz) (fun (_ : Unit) => []) (fun (_ : Unit) => [])) (va_A [(q, .inr (15, fs))] sz)) 0 0 (va_A [(q, .inr (15, fs))] sz) := by
  refine Met.ofW (cc := cX15_worked) (maxL := 1) (ret := (some .int)) (by decide) rfl ?_
  intro p e s m args below meth c s₁ B hml hv
  obtain ⟨rfl, hsz, hP, hK, hD0⟩ := hv
  have hx := B.exec
  have hb := B.bytes
  have hr := B.returns
  have hts := atoms_spec (ws := Cond.code yX15_worked cX15_worked 1 (some .int) :: tb) B.pre
  have ht : ∀ w ∈ tb, w.before _ s = true := fun w h => hts w (List.mem_cons_of_mem _ h)
  have hown : s.vm.findClass RX15 = some m.cls := findClass_of_methodNamed B.named
  have hlocks := B.notSynchronized
  subst hsz
  have hD := hD0.self (sz := s.heap.size)
  generalize hAe : va_A [(q, .inr (15, fs))] s.heap.size = A at hD ⊢
  have hA : ∀ q : Nat, s.heap.size ≤ q → A q := fun q h => by rw [← hAe]; exact Or.inr h
  have hS : va_S A s.heap s.heap [] := va_S.rf
  have hl := lv_entry ([.ref q]) (n := 1) (Nat.le_of_ble_eq_true rfl)
  rw [lg_entry_eq]
  generalize (lg_sl ([.ref q]) ++ List.replicate (1 - (lg_sl ([.ref q])).length) Slot.unset).toArray = ls at hl ⊢
  have hl : lv_has ls 1 [(0, .ref q)] := hl
  have hP : va_P (dC, dI) cls [(q, .inr (15, fs))] s.heap := hP
  refine lv_aload_n hx hb dX15_worked_0 rfl (lv_at hl 0 rfl) ?_
  refine lv_iconst (v := 0) hx hb dX15_worked_1 (by decide) ?_
  refine va_put (D := (dC, dI)) (ci := 15) (v := .int 0) (ty := .int) (C := RX15) (T := TX15) (N := 163) hx hb ht uX15 tyX15 tkX15 nmX15 hown hK hP hD hS 0 rfl rfl 51 (by decide) (ht _ k_10_239) (fun _ h9 => h9) rfl (by decide +kernel) rfl rfl (by rw [L_fs]; decide) dX15_worked_2 (fun H locs hP hD hS => ?_)
  obtain ⟨F1, eF1⟩ : ∃ g : List Value, g = fs.set 51 (.int 0) := ⟨_, rfl⟩
  rw [← eF1] at hP hD
  have K54_F1 : F1[54]? = some (.int 0) := by rw [eF1, List.getElem?_set_ne (by decide)]; exact K54_fs
  have K64_F1 : F1[64]? = some (.int 0) := by rw [eF1, List.getElem?_set_ne (by decide)]; exact K64_fs
  have K51_F1 : F1[51]? = some (.int 0) := by rw [eF1]; exact List.getElem?_set_self (by rw [L_fs]; decide)
  have L_F1 : F1.length = 163 := by rw [eF1, List.length_set]; exact L_fs
  have hP : va_P (dC, dI) cls [(q, .inr (15, F1))] H := hP
  have hD : va_D A [(q, .inr (15, F1))] := hD
  refine lv_aload_n hx hb dX15_worked_5 rfl (lv_at hl 0 rfl) ?_
  refine va_get (D := (dC, dI)) (ci := 15) (v := .int 0) (C := RX15) (T := TX15) (N := 163) hx hb ht uX15 hown hK hP 0 rfl rfl 64 (by decide) (ht _ k_11_12) (fun _ h9 => h9) K64_F1 dX15_worked_6 ?_
  exact W.iret (v := 0) hx hb hr (fun t ht9 hW => ⟨⟨0, (), rfl, rfl, by rw [ht9]; exact hP.sub [] rfl, va_K.moved hW.alike (hK.sub [] rfl), hD.sub [] (by decide) rfl⟩, hS.F ht9⟩) hS.2.2 dX15_worked_9
set_option maxHeartbeats 4000000 in
set_option maxRecDepth 100000 in
theorem r_thrown (l : Launch) (dC : Nat → ClassId) (dI : Nat → Nat → Nat) (sz : Nat) (q : Nat) (fs : List Value) (L_fs : fs.length = 163) (K51_fs : fs[51]? = some (.int 0)) (K54_fs : fs[54]? = some (.int 0)) : Met l yX15_thrown (Cond.code yX15_thrown cX15_thrown 1 (some .int) :: tb) ({ frames := 0, cells := 0, slots := 0, locals := 0 }) (pcw [.ref q] (dC, dI) [(q, .inr (15, fs))] [] sz) (va_Qi (fun (r : Int32) => (fun (_ : Unit) => r = 0)) (bw (dC, dI) (va_A [(q, .inr (15, fs))] sz) (fun (_ : Unit) => []) (fun (_ : Unit) => [])) (va_A [(q, .inr (15, fs))] sz)) 0 0 (va_A [(q, .inr (15, fs))] sz) := by
  refine Met.ofW (cc := cX15_thrown) (maxL := 1) (ret := (some .int)) (by decide) rfl ?_
  intro p e s m args below meth c s₁ B hml hv
  obtain ⟨rfl, hsz, hP, hK, hD0⟩ := hv
  have hx := B.exec
  have hb := B.bytes
  have hr := B.returns
  have hts := atoms_spec (ws := Cond.code yX15_thrown cX15_thrown 1 (some .int) :: tb) B.pre
  have ht : ∀ w ∈ tb, w.before _ s = true := fun w h => hts w (List.mem_cons_of_mem _ h)
  have hown : s.vm.findClass RX15 = some m.cls := findClass_of_methodNamed B.named
  have hlocks := B.notSynchronized
  subst hsz
  have hD := hD0.self (sz := s.heap.size)
  generalize hAe : va_A [(q, .inr (15, fs))] s.heap.size = A at hD ⊢
  have hA : ∀ q : Nat, s.heap.size ≤ q → A q := fun q h => by rw [← hAe]; exact Or.inr h
  have hS : va_S A s.heap s.heap [] := va_S.rf
  have hl := lv_entry ([.ref q]) (n := 1) (Nat.le_of_ble_eq_true rfl)
  rw [lg_entry_eq]
  generalize (lg_sl ([.ref q]) ++ List.replicate (1 - (lg_sl ([.ref q])).length) Slot.unset).toArray = ls at hl ⊢
  have hl : lv_has ls 1 [(0, .ref q)] := hl
  have hP : va_P (dC, dI) cls [(q, .inr (15, fs))] s.heap := hP
  refine lv_aload_n hx hb dX15_thrown_0 rfl (lv_at hl 0 rfl) ?_
  refine va_get (D := (dC, dI)) (ci := 15) (v := .int 0) (C := RX15) (T := TX15) (N := 163) hx hb ht uX15 hown hK hP 0 rfl rfl 51 (by decide) (ht _ k_10_239) (fun _ h9 => h9) K51_fs dX15_thrown_1 ?_
  exact W.iret (v := 0) hx hb hr (fun t ht9 hW => ⟨⟨0, (), rfl, rfl, by rw [ht9]; exact hP.sub [] rfl, va_K.moved hW.alike (hK.sub [] rfl), hD.sub [] (by decide) rfl⟩, hS.F ht9⟩) hS.2.2 dX15_thrown_4
set_option maxHeartbeats 4000000 in
set_option maxRecDepth 100000 in
theorem r_isDown_told (l : Launch) (dC : Nat → ClassId) (dI : Nat → Nat → Nat) (sz : Nat) (q : Nat) (fs : List Value) (L_fs : fs.length = 163) (K5_fs : fs[5]? = some (.int 26)) (K38_fs : fs[38]? = some (.null)) (K53_fs : fs[53]? = some (.int 0)) (K54_fs : fs[54]? = some (.int 0)) (K77_fs : fs[77]? = some (.int 0)) (K109_fs : fs[109]? = some (.int 0)) (K128_fs : fs[128]? = some (.int 0)) (K154_fs : fs[154]? = some (.int 0)) (K156_fs : fs[156]? = some (.int 0)) (K160_fs : fs[160]? = some (.int 0)) : Met l yX15_isDown (Cond.code yX15_isDown cX15_isDown 1 (some .boolean) :: tb) ({ frames := 0, cells := 0, slots := 0, locals := 0 }) (pcw [.ref q] (dC, dI) [(q, .inr (15, fs))] [] sz) (va_Qi (fun (r : Int32) => (fun (fs1 : List Value) => (r = 0) ∧ (fs1.length = 163) ∧ (fs1[5]? = some (.int 26)) ∧ (fs1[38]? = some (.null)) ∧ (fs1[51]? = some (.int 0)) ∧ (fs1[53]? = some (.int 0)) ∧ (fs1[54]? = some (.int 0)) ∧ (fs1[77]? = some (.int 0)) ∧ (fs1[109]? = some (.int 0)) ∧ (fs1[128]? = some (.int 0)) ∧ (fs1[154]? = some (.int 0)) ∧ (fs1[156]? = some (.int 0)) ∧ (fs1[160]? = some (.int 0)))) (bw (dC, dI) (va_A [(q, .inr (15, fs))] sz) (fun (fs1 : List Value) => [(q, .inr (15, fs1))]) (fun (fs1 : List Value) => [])) (va_A [(q, .inr (15, fs))] sz)) 0 0 (va_A [(q, .inr (15, fs))] sz) := by
  refine Met.ofW (cc := cX15_isDown) (maxL := 1) (ret := (some .boolean)) (by decide) rfl ?_
  intro p e s m args below meth c s₁ B hml hv
  obtain ⟨rfl, hsz, hP, hK, hD0⟩ := hv
  have hx := B.exec
  have hb := B.bytes
  have hr := B.returns
  have hts := atoms_spec (ws := Cond.code yX15_isDown cX15_isDown 1 (some .boolean) :: tb) B.pre
  have ht : ∀ w ∈ tb, w.before _ s = true := fun w h => hts w (List.mem_cons_of_mem _ h)
  have hown : s.vm.findClass RX15 = some m.cls := findClass_of_methodNamed B.named
  have hlocks := B.notSynchronized
  subst hsz
  have hD := hD0.self (sz := s.heap.size)
  generalize hAe : va_A [(q, .inr (15, fs))] s.heap.size = A at hD ⊢
  have hA : ∀ q : Nat, s.heap.size ≤ q → A q := fun q h => by rw [← hAe]; exact Or.inr h
  have hS : va_S A s.heap s.heap [] := va_S.rf
  have hl := lv_entry ([.ref q]) (n := 1) (Nat.le_of_ble_eq_true rfl)
  rw [lg_entry_eq]
  generalize (lg_sl ([.ref q]) ++ List.replicate (1 - (lg_sl ([.ref q])).length) Slot.unset).toArray = ls at hl ⊢
  have hl : lv_has ls 1 [(0, .ref q)] := hl
  have hP : va_P (dC, dI) cls [(q, .inr (15, fs))] s.heap := hP
  refine lv_aload_n hx hb dX15_isDown_0 rfl (lv_at hl 0 rfl) ?_
  refine lv_iconst (v := 0) hx hb dX15_isDown_1 (by decide) ?_
  refine va_put (D := (dC, dI)) (ci := 15) (v := .int 0) (ty := .int) (C := RX15) (T := TX15) (N := 163) hx hb ht uX15 tyX15 tkX15 nmX15 hown hK hP hD hS 0 rfl rfl 51 (by decide) (ht _ k_10_239) (fun _ h9 => h9) rfl (by decide +kernel) rfl rfl (by rw [L_fs]; decide) dX15_isDown_2 (fun H locs hP hD hS => ?_)
  obtain ⟨F1, eF1⟩ : ∃ g : List Value, g = fs.set 51 (.int 0) := ⟨_, rfl⟩
  rw [← eF1] at hP hD
  have K5_F1 : F1[5]? = some (.int 26) := by rw [eF1, List.getElem?_set_ne (by decide)]; exact K5_fs
  have K38_F1 : F1[38]? = some (.null) := by rw [eF1, List.getElem?_set_ne (by decide)]; exact K38_fs
  have K53_F1 : F1[53]? = some (.int 0) := by rw [eF1, List.getElem?_set_ne (by decide)]; exact K53_fs
  have K54_F1 : F1[54]? = some (.int 0) := by rw [eF1, List.getElem?_set_ne (by decide)]; exact K54_fs
  have K77_F1 : F1[77]? = some (.int 0) := by rw [eF1, List.getElem?_set_ne (by decide)]; exact K77_fs
  have K109_F1 : F1[109]? = some (.int 0) := by rw [eF1, List.getElem?_set_ne (by decide)]; exact K109_fs
  have K128_F1 : F1[128]? = some (.int 0) := by rw [eF1, List.getElem?_set_ne (by decide)]; exact K128_fs
  have K154_F1 : F1[154]? = some (.int 0) := by rw [eF1, List.getElem?_set_ne (by decide)]; exact K154_fs
  have K156_F1 : F1[156]? = some (.int 0) := by rw [eF1, List.getElem?_set_ne (by decide)]; exact K156_fs
  have K160_F1 : F1[160]? = some (.int 0) := by rw [eF1, List.getElem?_set_ne (by decide)]; exact K160_fs
  have K51_F1 : F1[51]? = some (.int 0) := by rw [eF1]; exact List.getElem?_set_self (by rw [L_fs]; decide)
  have L_F1 : F1.length = 163 := by rw [eF1, List.length_set]; exact L_fs
  have hP : va_P (dC, dI) cls [(q, .inr (15, F1))] H := hP
  have hD : va_D A [(q, .inr (15, F1))] := hD
  refine lv_aload_n hx hb dX15_isDown_5 rfl (lv_at hl 0 rfl) ?_
  refine va_get (D := (dC, dI)) (ci := 15) (v := .int 0) (C := RX15) (T := TX15) (N := 163) hx hb ht uX15 hown hK hP 0 rfl rfl 54 (by decide) (ht _ k_11_2) (fun _ h9 => h9) K54_F1 dX15_isDown_6 ?_
  exact W.zret (v := 0) hx hb hr rfl (fun t ht9 hW => ⟨⟨0, (F1), rfl, ⟨rfl, L_F1, K5_F1, K38_F1, K51_F1, K53_F1, K54_F1, K77_F1, K109_F1, K128_F1, K154_F1, K156_F1, K160_F1⟩, by rw [ht9]; exact hP.sub [0] rfl, va_K.moved hW.alike (hK.sub [] rfl), hD.sub [0] (by decide) rfl⟩, hS.F ht9⟩) hS.2.2 dX15_isDown_9
set_option maxHeartbeats 4000000 in
set_option maxRecDepth 100000 in
theorem r_told (l : Launch) (dC : Nat → ClassId) (dI : Nat → Nat → Nat) (sz : Nat) (q : Nat) (fs : List Value) (p0 : Int32) (L_fs : fs.length = 163) (K5_fs : fs[5]? = some (.int 26)) (K38_fs : fs[38]? = some (.null)) (K53_fs : fs[53]? = some (.int 0)) (K54_fs : fs[54]? = some (.int 0)) (K77_fs : fs[77]? = some (.int 0)) (K109_fs : fs[109]? = some (.int 0)) (K128_fs : fs[128]? = some (.int 0)) (K154_fs : fs[154]? = some (.int 0)) (K156_fs : fs[156]? = some (.int 0)) (K160_fs : fs[160]? = some (.int 0)) : Met l yX15_told (Cond.code yX15_told cX15_told 2 (some .int) :: tb) ({ frames := 1, cells := 0, slots := 0, locals := 25 }) (pcw [.ref q, .int p0] (dC, dI) [(q, .inr (15, fs))] [] sz) (va_Qi (fun (r : Int32) => (fun (_ : Unit) => r = sp_told p0)) (bw (dC, dI) (va_A [(q, .inr (15, fs))] sz) (fun (_ : Unit) => []) (fun (_ : Unit) => [])) (va_A [(q, .inr (15, fs))] sz)) 0 0 (va_A [(q, .inr (15, fs))] sz) := by
  refine Met.ofW (cc := cX15_told) (maxL := 2) (ret := (some .int)) (by decide) rfl ?_
  intro p e s m args below meth c s₁ B hml hv
  obtain ⟨rfl, hsz, hP, hK, hD0⟩ := hv
  have hx := B.exec
  have hb := B.bytes
  have hr := B.returns
  have hts := atoms_spec (ws := Cond.code yX15_told cX15_told 2 (some .int) :: tb) B.pre
  have ht : ∀ w ∈ tb, w.before _ s = true := fun w h => hts w (List.mem_cons_of_mem _ h)
  have hown : s.vm.findClass RX15 = some m.cls := findClass_of_methodNamed B.named
  have hlocks := B.notSynchronized
  subst hsz
  have hD := hD0.self (sz := s.heap.size)
  generalize hAe : va_A [(q, .inr (15, fs))] s.heap.size = A at hD ⊢
  have hA : ∀ q : Nat, s.heap.size ≤ q → A q := fun q h => by rw [← hAe]; exact Or.inr h
  have hS : va_S A s.heap s.heap [] := va_S.rf
  have hl := lv_entry ([.ref q, .int p0]) (n := 2) (Nat.le_of_ble_eq_true rfl)
  rw [lg_entry_eq]
  generalize (lg_sl ([.ref q, .int p0]) ++ List.replicate (2 - (lg_sl ([.ref q, .int p0])).length) Slot.unset).toArray = ls at hl ⊢
  have hl : lv_has ls 2 [(0, .ref q), (1, .int p0)] := hl
  have hP : va_P (dC, dI) cls [(q, .inr (15, fs))] s.heap := hP
  refine lv_aload_n hx hb dX15_told_0 rfl (lv_at hl 0 rfl) ?_
  refine ca_i (wr := []) (va_runV (As := []) (rest := []) ⟨hx, hb, hml, hown, ht⟩ (r_isDown_told l dC dI s.heap.size q fs L_fs K5_fs K38_fs K53_fs K54_fs K77_fs K109_fs K128_fs K154_fs K156_fs K160_fs ) (cwV 0 ht (gdV k_12_228 k_12_225 k_12_227 ks_112 k_1_17) rfl rfl rfl (by decide +kernel) ⟨Nat.le_of_ble_eq_true rfl, Nat.le_of_ble_eq_true rfl⟩) ⟨pcw_blind, va_recv hK hP (ci := 15) (q0 := 0) rfl rfl, pcw_at hP hD hK [0] [] (by decide) rfl rfl rfl⟩ rfl rfl hl.1 rfl (lv_room (Nat.le_of_ble_eq_true rfl)) dX15_told_1 ⟨Nat.le_of_ble_eq_true rfl, Nat.le_of_ble_eq_true rfl⟩) hP hD hK hS hA [0] [] rfl rfl (by decide) (by decide) (fun r1 u H locs w2 hK hP hD hS => ?_)
  obtain ⟨F3, rfl⟩ : ∃ z, z = u := ⟨_, rfl⟩
  have hK : va_K (dC, dI) cls [] s := hK
  have hP : va_P (dC, dI) cls [(q, .inr (15, F3))] H := hP
  have hD : va_D A [(q, .inr (15, F3))] := hD
  obtain ⟨w2, K4, K5, K6, K7, K8, K9, K10, K11, K12, K13, K14, K15⟩ := w2
  obtain rfl : r1 = 0 := w2
  refine lv_if_eq (tgt := 10) hx hb dX15_told_4 (by decide) (fun _ => ?_) (fun c0 => absurd c0 (by decide))
  refine lv_iload_n hx hb dX15_told_10 rfl (lv_at hl 1 rfl) ?_
  refine lv_i2l hx hb dX15_told_11 rfl ?_
  refine lv_topl (fun x16 ex16 => ?_)
  refine lv_lconst (v := 0) hx hb dX15_told_12 (by decide) ?_
  refine lv_ldc2 (v := 12) hx hb hown (ht _ k_12_229) dX15_told_13 ?_
  refine ca_i (wr := [(q, .inr (15, F3))]) (va_runS (As := [.long x16, .long 0, .long 12]) (rest := []) ⟨hx, hb, hml, hown, ht⟩ (r_in l dC dI H.size x16 0 12  ) (cwS 3 ht (gdS k_12_216 k_12_214 k_12_215 k_1_17) rfl rfl rfl (by decide +kernel) ⟨Nat.le_of_ble_eq_true rfl, Nat.le_of_ble_eq_true rfl⟩) ⟨pcw_blind, pcw_at hP hD hK [] [] (by decide) rfl rfl rfl⟩ rfl rfl hl.1 rfl (lv_room (Nat.le_of_ble_eq_true rfl)) dX15_told_16 ⟨Nat.le_of_ble_eq_true rfl, Nat.le_of_ble_eq_true rfl⟩) hP hD hK hS hA [] [0] rfl rfl (by decide) (by decide) (fun r17 u H locs w18 hK hP hD hS => ?_)
  have hK : va_K (dC, dI) cls [] s := hK
  have hP : va_P (dC, dI) cls [(q, .inr (15, F3))] H := hP
  have hD : va_D A [(q, .inr (15, F3))] := hD
  rcases w18 with ⟨rfl, n19⟩ | ⟨rfl, n19⟩
  · obtain ⟨n19a, n19b⟩ := in_yes (p := p0) (lo := 0) (hi := 12) ex16 (by decide) (by decide) n19
    refine lv_if_ne (tgt := 24) hx hb dX15_told_19 (by decide) (fun _ => ?_) (fun c0 => absurd c0 (by decide))
    refine lv_iload_n hx hb dX15_told_24 rfl (lv_at hl 1 rfl) ?_
    refine lv_bipush (v := 7) hx hb dX15_told_25 (by decide) ?_
    refine lv_icmp_le (tgt := 40) hx hb dX15_told_27 (by decide) (fun b20 => ?_) (fun b20 => ?_)
    · refine lv_iload_n hx hb dX15_told_40 rfl (lv_at hl 1 rfl) ?_
      by_cases b21_0 : p0 = 0
      · refine lv_tableIn (off := 63) (tgt := 104) hx hb dX15_told_41 (by rw [b21_0]; decide) (by rw [b21_0]; decide) (by rw [b21_0]; decide) (by decide) ?_
        refine lv_aload_n hx hb dX15_told_104 rfl (lv_at hl 0 rfl) ?_
        refine va_get (D := (dC, dI)) (ci := 15) (v := .int 26) (C := RX15) (T := TX15) (N := 163) hx hb ht uX15 hown hK hP 0 rfl rfl 5 (by decide) (ht _ k_10_193) (fun _ h9 => h9) K5 dX15_told_105 ?_
        refine lv_bipush (v := 26) hx hb dX15_told_108 (by decide) ?_
        refine lv_isub hx hb dX15_told_110 ?_
        refine tk_i (y := 0) (by decide) ?_
        exact W.iret (v := 0) hx hb hr (fun t ht9 hW => ⟨⟨0, (), rfl, (by simp [sp_told, b20, b21_0]), by rw [ht9]; exact hP.sub [] rfl, va_K.moved hW.alike (hK.sub [] rfl), hD.sub [] (by decide) rfl⟩, hS.F ht9⟩) hS.2.2 dX15_told_111
      by_cases b21_1 : p0 = 1
      · refine lv_tableIn (off := 71) (tgt := 112) hx hb dX15_told_41 (by rw [b21_1]; decide) (by rw [b21_1]; decide) (by rw [b21_1]; decide) (by decide) ?_
        refine lv_aload_n hx hb dX15_told_112 rfl (lv_at hl 0 rfl) ?_
        refine va_get (D := (dC, dI)) (ci := 15) (v := .int 0) (C := RX15) (T := TX15) (N := 163) hx hb ht uX15 hown hK hP 0 rfl rfl 77 (by decide) (ht _ k_11_25) (fun _ h9 => h9) K10 dX15_told_113 ?_
        exact W.iret (v := 0) hx hb hr (fun t ht9 hW => ⟨⟨0, (), rfl, (by simp [sp_told, b20, b21_1, b21_0]), by rw [ht9]; exact hP.sub [] rfl, va_K.moved hW.alike (hK.sub [] rfl), hD.sub [] (by decide) rfl⟩, hS.F ht9⟩) hS.2.2 dX15_told_116
      by_cases b21_2 : p0 = 2
      · refine lv_tableIn (off := 76) (tgt := 117) hx hb dX15_told_41 (by rw [b21_2]; decide) (by rw [b21_2]; decide) (by rw [b21_2]; decide) (by decide) ?_
        refine lv_aload_n hx hb dX15_told_117 rfl (lv_at hl 0 rfl) ?_
        refine va_get (D := (dC, dI)) (ci := 15) (v := .int 0) (C := RX15) (T := TX15) (N := 163) hx hb ht uX15 hown hK hP 0 rfl rfl 109 (by decide) (ht _ k_11_57) (fun _ h9 => h9) K11 dX15_told_118 ?_
        exact W.iret (v := 0) hx hb hr (fun t ht9 hW => ⟨⟨0, (), rfl, (by simp [sp_told, b20, b21_2, b21_0, b21_1]), by rw [ht9]; exact hP.sub [] rfl, va_K.moved hW.alike (hK.sub [] rfl), hD.sub [] (by decide) rfl⟩, hS.F ht9⟩) hS.2.2 dX15_told_121
      by_cases b21_3 : p0 = 3
      · refine lv_tableIn (off := 81) (tgt := 122) hx hb dX15_told_41 (by rw [b21_3]; decide) (by rw [b21_3]; decide) (by rw [b21_3]; decide) (by decide) ?_
        refine lv_aload_n hx hb dX15_told_122 rfl (lv_at hl 0 rfl) ?_
        refine va_get (D := (dC, dI)) (ci := 15) (v := .int 0) (C := RX15) (T := TX15) (N := 163) hx hb ht uX15 hown hK hP 0 rfl rfl 128 (by decide) (ht _ k_11_76) (fun _ h9 => h9) K12 dX15_told_123 ?_
        exact W.iret (v := 0) hx hb hr (fun t ht9 hW => ⟨⟨0, (), rfl, (by simp [sp_told, b20, b21_3, b21_0, b21_1, b21_2]), by rw [ht9]; exact hP.sub [] rfl, va_K.moved hW.alike (hK.sub [] rfl), hD.sub [] (by decide) rfl⟩, hS.F ht9⟩) hS.2.2 dX15_told_126
      by_cases b21_4 : p0 = 4
      · refine lv_tableIn (off := 86) (tgt := 127) hx hb dX15_told_41 (by rw [b21_4]; decide) (by rw [b21_4]; decide) (by rw [b21_4]; decide) (by decide) ?_
        refine lv_aload_n hx hb dX15_told_127 rfl (lv_at hl 0 rfl) ?_
        refine va_get (D := (dC, dI)) (ci := 15) (v := .int 0) (C := RX15) (T := TX15) (N := 163) hx hb ht uX15 hown hK hP 0 rfl rfl 154 (by decide) (ht _ k_11_102) (fun _ h9 => h9) K13 dX15_told_128 ?_
        exact W.iret (v := 0) hx hb hr (fun t ht9 hW => ⟨⟨0, (), rfl, (by simp [sp_told, b20, b21_4, b21_0, b21_1, b21_2, b21_3]), by rw [ht9]; exact hP.sub [] rfl, va_K.moved hW.alike (hK.sub [] rfl), hD.sub [] (by decide) rfl⟩, hS.F ht9⟩) hS.2.2 dX15_told_131
      by_cases b21_5 : p0 = 5
      · refine lv_tableIn (off := 91) (tgt := 132) hx hb dX15_told_41 (by rw [b21_5]; decide) (by rw [b21_5]; decide) (by rw [b21_5]; decide) (by decide) ?_
        refine lv_aload_n hx hb dX15_told_132 rfl (lv_at hl 0 rfl) ?_
        refine va_get (D := (dC, dI)) (ci := 15) (v := .int 0) (C := RX15) (T := TX15) (N := 163) hx hb ht uX15 hown hK hP 0 rfl rfl 156 (by decide) (ht _ k_11_104) (fun _ h9 => h9) K14 dX15_told_133 ?_
        exact W.iret (v := 0) hx hb hr (fun t ht9 hW => ⟨⟨0, (), rfl, (by simp [sp_told, b20, b21_5, b21_0, b21_1, b21_2, b21_3, b21_4]), by rw [ht9]; exact hP.sub [] rfl, va_K.moved hW.alike (hK.sub [] rfl), hD.sub [] (by decide) rfl⟩, hS.F ht9⟩) hS.2.2 dX15_told_136
      by_cases b21_6 : p0 = 6
      · refine lv_tableIn (off := 96) (tgt := 137) hx hb dX15_told_41 (by rw [b21_6]; decide) (by rw [b21_6]; decide) (by rw [b21_6]; decide) (by decide) ?_
        refine lv_aload_n hx hb dX15_told_137 rfl (lv_at hl 0 rfl) ?_
        refine va_get (D := (dC, dI)) (ci := 15) (v := .int 0) (C := RX15) (T := TX15) (N := 163) hx hb ht uX15 hown hK hP 0 rfl rfl 160 (by decide) (ht _ k_11_108) (fun _ h9 => h9) K15 dX15_told_138 ?_
        exact W.iret (v := 0) hx hb hr (fun t ht9 hW => ⟨⟨0, (), rfl, (by simp [sp_told, b20, b21_6, b21_0, b21_1, b21_2, b21_3, b21_4, b21_5]), by rw [ht9]; exact hP.sub [] rfl, va_K.moved hW.alike (hK.sub [] rfl), hD.sub [] (by decide) rfl⟩, hS.F ht9⟩) hS.2.2 dX15_told_141
      by_cases b21_7 : p0 = 7
      · refine lv_tableIn (off := 101) (tgt := 142) hx hb dX15_told_41 (by rw [b21_7]; decide) (by rw [b21_7]; decide) (by rw [b21_7]; decide) (by decide) ?_
        refine lv_aload_n hx hb dX15_told_142 rfl (lv_at hl 0 rfl) ?_
        refine va_get (D := (dC, dI)) (ci := 15) (v := .int 0) (C := RX15) (T := TX15) (N := 163) hx hb ht uX15 hown hK hP 0 rfl rfl 53 (by decide) (ht _ k_11_1) (fun _ h9 => h9) K8 dX15_told_143 ?_
        exact W.iret (v := 0) hx hb hr (fun t ht9 hW => ⟨⟨0, (), rfl, (by simp [sp_told, b20, b21_7, b21_0, b21_1, b21_2, b21_3, b21_4, b21_5, b21_6]), by rw [ht9]; exact hP.sub [] rfl, va_K.moved hW.alike (hK.sub [] rfl), hD.sub [] (by decide) rfl⟩, hS.F ht9⟩) hS.2.2 dX15_told_146
      exfalso; have z0 := Int32.le_iff_toInt_le.mp (Int32.not_lt.mp n19a); have z1 := Int32.le_iff_toInt_le.mp n19b; have z2 := Int32.le_iff_toInt_le.mp b20; have y0 : (0 : Int32).toInt = 0 := (by decide); have y1 : (7 : Int32).toInt = 7 := (by decide); have y2 : (12 : Int32).toInt = 12 := (by decide); have w0 := lv_neT (a := 0) b21_0 (by decide); have w1 := lv_neT (a := 1) b21_1 (by decide); have w2 := lv_neT (a := 2) b21_2 (by decide); have w3 := lv_neT (a := 3) b21_3 (by decide); have w4 := lv_neT (a := 4) b21_4 (by decide); have w5 := lv_neT (a := 5) b21_5 (by decide); have w6 := lv_neT (a := 6) b21_6 (by decide); have w7 := lv_neT (a := 7) b21_7 (by decide); omega
    · refine lv_aload_n hx hb dX15_told_30 rfl (lv_at hl 0 rfl) ?_
      refine va_get (D := (dC, dI)) (ci := 15) (v := .null) (C := RX15) (T := TX15) (N := 163) hx hb ht uX15 hown hK hP 0 rfl rfl 38 (by decide) (ht _ k_10_226) (fun _ h9 => h9) K6 dX15_told_31 ?_
      refine lv_ifnonnullN hx hb dX15_told_34 ?_
      refine lv_bipush (v := (-2)) hx hb dX15_told_37 (by decide) ?_
      exact W.iret (v := (-2)) hx hb hr (fun t ht9 hW => ⟨⟨(-2), (), rfl, (sp_told_hi b20 n19b).symm, by rw [ht9]; exact hP.sub [] rfl, va_K.moved hW.alike (hK.sub [] rfl), hD.sub [] (by decide) rfl⟩, hS.F ht9⟩) hS.2.2 dX15_told_39
  · rcases in_no (p := p0) (lo := 0) (hi := 12) ex16 (by decide) (by decide) n19 with n19c | n19c
    · refine lv_if_ne (tgt := 24) hx hb dX15_told_19 (by decide) (fun c0 => absurd c0 (by decide)) (fun _ => ?_)
      refine lv_iconst (v := (-1)) hx hb dX15_told_22 (by decide) ?_
      exact W.iret (v := (-1)) hx hb hr (fun t ht9 hW => ⟨⟨(-1), (), rfl, (sp_told_lo n19c).symm, by rw [ht9]; exact hP.sub [] rfl, va_K.moved hW.alike (hK.sub [] rfl), hD.sub [] (by decide) rfl⟩, hS.F ht9⟩) hS.2.2 dX15_told_23
    · refine lv_if_ne (tgt := 24) hx hb dX15_told_19 (by decide) (fun c0 => absurd c0 (by decide)) (fun _ => ?_)
      refine lv_iconst (v := (-1)) hx hb dX15_told_22 (by decide) ?_
      exact W.iret (v := (-1)) hx hb hr (fun t ht9 hW => ⟨⟨(-1), (), rfl, (sp_told_gt n19c).symm, by rw [ht9]; exact hP.sub [] rfl, va_K.moved hW.alike (hK.sub [] rfl), hD.sub [] (by decide) rfl⟩, hS.F ht9⟩) hS.2.2 dX15_told_23
set_option maxHeartbeats 4000000 in
set_option maxRecDepth 100000 in
theorem r_isDown_refusal (l : Launch) (dC : Nat → ClassId) (dI : Nat → Nat → Nat) (sz : Nat) (q : Nat) (fs : List Value) (L_fs : fs.length = 163) (K38_fs : fs[38]? = some (.null)) (K54_fs : fs[54]? = some (.int 0)) : Met l yX15_isDown (Cond.code yX15_isDown cX15_isDown 1 (some .boolean) :: tb) ({ frames := 0, cells := 0, slots := 0, locals := 0 }) (pcw [.ref q] (dC, dI) [(q, .inr (15, fs))] [] sz) (va_Qi (fun (r : Int32) => (fun (fs1 : List Value) => (r = 0) ∧ (fs1.length = 163) ∧ (fs1[38]? = some (.null)) ∧ (fs1[51]? = some (.int 0)) ∧ (fs1[54]? = some (.int 0)))) (bw (dC, dI) (va_A [(q, .inr (15, fs))] sz) (fun (fs1 : List Value) => [(q, .inr (15, fs1))]) (fun (fs1 : List Value) => [])) (va_A [(q, .inr (15, fs))] sz)) 0 0 (va_A [(q, .inr (15, fs))] sz) := by
  refine Met.ofW (cc := cX15_isDown) (maxL := 1) (ret := (some .boolean)) (by decide) rfl ?_
  intro p e s m args below meth c s₁ B hml hv
  obtain ⟨rfl, hsz, hP, hK, hD0⟩ := hv
  have hx := B.exec
  have hb := B.bytes
  have hr := B.returns
  have hts := atoms_spec (ws := Cond.code yX15_isDown cX15_isDown 1 (some .boolean) :: tb) B.pre
  have ht : ∀ w ∈ tb, w.before _ s = true := fun w h => hts w (List.mem_cons_of_mem _ h)
  have hown : s.vm.findClass RX15 = some m.cls := findClass_of_methodNamed B.named
  have hlocks := B.notSynchronized
  subst hsz
  have hD := hD0.self (sz := s.heap.size)
  generalize hAe : va_A [(q, .inr (15, fs))] s.heap.size = A at hD ⊢
  have hA : ∀ q : Nat, s.heap.size ≤ q → A q := fun q h => by rw [← hAe]; exact Or.inr h
  have hS : va_S A s.heap s.heap [] := va_S.rf
  have hl := lv_entry ([.ref q]) (n := 1) (Nat.le_of_ble_eq_true rfl)
  rw [lg_entry_eq]
  generalize (lg_sl ([.ref q]) ++ List.replicate (1 - (lg_sl ([.ref q])).length) Slot.unset).toArray = ls at hl ⊢
  have hl : lv_has ls 1 [(0, .ref q)] := hl
  have hP : va_P (dC, dI) cls [(q, .inr (15, fs))] s.heap := hP
  refine lv_aload_n hx hb dX15_isDown_0 rfl (lv_at hl 0 rfl) ?_
  refine lv_iconst (v := 0) hx hb dX15_isDown_1 (by decide) ?_
  refine va_put (D := (dC, dI)) (ci := 15) (v := .int 0) (ty := .int) (C := RX15) (T := TX15) (N := 163) hx hb ht uX15 tyX15 tkX15 nmX15 hown hK hP hD hS 0 rfl rfl 51 (by decide) (ht _ k_10_239) (fun _ h9 => h9) rfl (by decide +kernel) rfl rfl (by rw [L_fs]; decide) dX15_isDown_2 (fun H locs hP hD hS => ?_)
  obtain ⟨F1, eF1⟩ : ∃ g : List Value, g = fs.set 51 (.int 0) := ⟨_, rfl⟩
  rw [← eF1] at hP hD
  have K38_F1 : F1[38]? = some (.null) := by rw [eF1, List.getElem?_set_ne (by decide)]; exact K38_fs
  have K54_F1 : F1[54]? = some (.int 0) := by rw [eF1, List.getElem?_set_ne (by decide)]; exact K54_fs
  have K51_F1 : F1[51]? = some (.int 0) := by rw [eF1]; exact List.getElem?_set_self (by rw [L_fs]; decide)
  have L_F1 : F1.length = 163 := by rw [eF1, List.length_set]; exact L_fs
  have hP : va_P (dC, dI) cls [(q, .inr (15, F1))] H := hP
  have hD : va_D A [(q, .inr (15, F1))] := hD
  refine lv_aload_n hx hb dX15_isDown_5 rfl (lv_at hl 0 rfl) ?_
  refine va_get (D := (dC, dI)) (ci := 15) (v := .int 0) (C := RX15) (T := TX15) (N := 163) hx hb ht uX15 hown hK hP 0 rfl rfl 54 (by decide) (ht _ k_11_2) (fun _ h9 => h9) K54_F1 dX15_isDown_6 ?_
  exact W.zret (v := 0) hx hb hr rfl (fun t ht9 hW => ⟨⟨0, (F1), rfl, ⟨rfl, L_F1, K38_F1, K51_F1, K54_F1⟩, by rw [ht9]; exact hP.sub [0] rfl, va_K.moved hW.alike (hK.sub [] rfl), hD.sub [0] (by decide) rfl⟩, hS.F ht9⟩) hS.2.2 dX15_isDown_9
set_option maxHeartbeats 4000000 in
set_option maxRecDepth 100000 in
theorem r_refusal (l : Launch) (dC : Nat → ClassId) (dI : Nat → Nat → Nat) (sz : Nat) (q : Nat) (fs : List Value) (p0 : Int32) (L_fs : fs.length = 163) (K38_fs : fs[38]? = some (.null)) (K54_fs : fs[54]? = some (.int 0)) : Met l yX15_refusal (Cond.code yX15_refusal cX15_refusal 2 (some .int) :: tb) ({ frames := 1, cells := 0, slots := 0, locals := 25 }) (pcw [.ref q, .int p0] (dC, dI) [(q, .inr (15, fs))] [] sz) (va_Qi (fun (r : Int32) => (fun (_ : Unit) => r = sp_price p0)) (bw (dC, dI) (va_A [(q, .inr (15, fs))] sz) (fun (_ : Unit) => []) (fun (_ : Unit) => [])) (va_A [(q, .inr (15, fs))] sz)) 0 0 (va_A [(q, .inr (15, fs))] sz) := by
  refine Met.ofW (cc := cX15_refusal) (maxL := 2) (ret := (some .int)) (by decide) rfl ?_
  intro p e s m args below meth c s₁ B hml hv
  obtain ⟨rfl, hsz, hP, hK, hD0⟩ := hv
  have hx := B.exec
  have hb := B.bytes
  have hr := B.returns
  have hts := atoms_spec (ws := Cond.code yX15_refusal cX15_refusal 2 (some .int) :: tb) B.pre
  have ht : ∀ w ∈ tb, w.before _ s = true := fun w h => hts w (List.mem_cons_of_mem _ h)
  have hown : s.vm.findClass RX15 = some m.cls := findClass_of_methodNamed B.named
  have hlocks := B.notSynchronized
  subst hsz
  have hD := hD0.self (sz := s.heap.size)
  generalize hAe : va_A [(q, .inr (15, fs))] s.heap.size = A at hD ⊢
  have hA : ∀ q : Nat, s.heap.size ≤ q → A q := fun q h => by rw [← hAe]; exact Or.inr h
  have hS : va_S A s.heap s.heap [] := va_S.rf
  have hl := lv_entry ([.ref q, .int p0]) (n := 2) (Nat.le_of_ble_eq_true rfl)
  rw [lg_entry_eq]
  generalize (lg_sl ([.ref q, .int p0]) ++ List.replicate (2 - (lg_sl ([.ref q, .int p0])).length) Slot.unset).toArray = ls at hl ⊢
  have hl : lv_has ls 2 [(0, .ref q), (1, .int p0)] := hl
  have hP : va_P (dC, dI) cls [(q, .inr (15, fs))] s.heap := hP
  refine lv_aload_n hx hb dX15_refusal_0 rfl (lv_at hl 0 rfl) ?_
  refine ca_i (wr := []) (va_runV (As := []) (rest := []) ⟨hx, hb, hml, hown, ht⟩ (r_isDown_refusal l dC dI s.heap.size q fs L_fs K38_fs K54_fs ) (cwV 0 ht (gdV k_12_228 k_12_225 k_12_227 ks_112 k_1_17) rfl rfl rfl (by decide +kernel) ⟨Nat.le_of_ble_eq_true rfl, Nat.le_of_ble_eq_true rfl⟩) ⟨pcw_blind, va_recv hK hP (ci := 15) (q0 := 0) rfl rfl, pcw_at hP hD hK [0] [] (by decide) rfl rfl rfl⟩ rfl rfl hl.1 rfl (lv_room (Nat.le_of_ble_eq_true rfl)) dX15_refusal_1 ⟨Nat.le_of_ble_eq_true rfl, Nat.le_of_ble_eq_true rfl⟩) hP hD hK hS hA [0] [] rfl rfl (by decide) (by decide) (fun r1 u H locs w2 hK hP hD hS => ?_)
  obtain ⟨F3, rfl⟩ : ∃ z, z = u := ⟨_, rfl⟩
  have hK : va_K (dC, dI) cls [] s := hK
  have hP : va_P (dC, dI) cls [(q, .inr (15, F3))] H := hP
  have hD : va_D A [(q, .inr (15, F3))] := hD
  obtain ⟨w2, K4, K5, K6, K7⟩ := w2
  obtain rfl : r1 = 0 := w2
  refine lv_if_eq (tgt := 10) hx hb dX15_refusal_4 (by decide) (fun _ => ?_) (fun c0 => absurd c0 (by decide))
  refine lv_iload_n hx hb dX15_refusal_10 rfl (lv_at hl 1 rfl) ?_
  refine lv_i2l hx hb dX15_refusal_11 rfl ?_
  refine lv_topl (fun x8 ex8 => ?_)
  refine lv_lconst (v := 1) hx hb dX15_refusal_12 (by decide) ?_
  refine lv_ldc2 (v := 12) hx hb hown (ht _ k_12_229) dX15_refusal_13 ?_
  refine ca_i (wr := [(q, .inr (15, F3))]) (va_runS (As := [.long x8, .long 1, .long 12]) (rest := []) ⟨hx, hb, hml, hown, ht⟩ (r_in l dC dI H.size x8 1 12  ) (cwS 3 ht (gdS k_12_216 k_12_214 k_12_215 k_1_17) rfl rfl rfl (by decide +kernel) ⟨Nat.le_of_ble_eq_true rfl, Nat.le_of_ble_eq_true rfl⟩) ⟨pcw_blind, pcw_at hP hD hK [] [] (by decide) rfl rfl rfl⟩ rfl rfl hl.1 rfl (lv_room (Nat.le_of_ble_eq_true rfl)) dX15_refusal_16 ⟨Nat.le_of_ble_eq_true rfl, Nat.le_of_ble_eq_true rfl⟩) hP hD hK hS hA [] [0] rfl rfl (by decide) (by decide) (fun r9 u H locs w10 hK hP hD hS => ?_)
  have hK : va_K (dC, dI) cls [] s := hK
  have hP : va_P (dC, dI) cls [(q, .inr (15, F3))] H := hP
  have hD : va_D A [(q, .inr (15, F3))] := hD
  rcases w10 with ⟨rfl, n11⟩ | ⟨rfl, n11⟩
  · obtain ⟨n11a, n11b⟩ := in_yes (p := p0) (lo := 1) (hi := 12) ex8 (by decide) (by decide) n11
    refine lv_if_ne (tgt := 24) hx hb dX15_refusal_19 (by decide) (fun _ => ?_) (fun c0 => absurd c0 (by decide))
    refine lv_aload_n hx hb dX15_refusal_24 rfl (lv_at hl 0 rfl) ?_
    refine va_get (D := (dC, dI)) (ci := 15) (v := .null) (C := RX15) (T := TX15) (N := 163) hx hb ht uX15 hown hK hP 0 rfl rfl 38 (by decide) (ht _ k_10_226) (fun _ h9 => h9) K5 dX15_refusal_25 ?_
    refine lv_ifnonnullN hx hb dX15_refusal_28 ?_
    refine lv_bipush (v := (-2)) hx hb dX15_refusal_31 (by decide) ?_
    exact W.iret (v := (-2)) hx hb hr (fun t ht9 hW => ⟨⟨(-2), (), rfl, (by simp [sp_price, n11a, n11b]), by rw [ht9]; exact hP.sub [] rfl, va_K.moved hW.alike (hK.sub [] rfl), hD.sub [] (by decide) rfl⟩, hS.F ht9⟩) hS.2.2 dX15_refusal_33
  · rcases in_no (p := p0) (lo := 1) (hi := 12) ex8 (by decide) (by decide) n11 with n11c | n11c
    · refine lv_if_ne (tgt := 24) hx hb dX15_refusal_19 (by decide) (fun c0 => absurd c0 (by decide)) (fun _ => ?_)
      refine lv_iconst (v := (-1)) hx hb dX15_refusal_22 (by decide) ?_
      exact W.iret (v := (-1)) hx hb hr (fun t ht9 hW => ⟨⟨(-1), (), rfl, (by simp [sp_price, n11c]), by rw [ht9]; exact hP.sub [] rfl, va_K.moved hW.alike (hK.sub [] rfl), hD.sub [] (by decide) rfl⟩, hS.F ht9⟩) hS.2.2 dX15_refusal_23
    · refine lv_if_ne (tgt := 24) hx hb dX15_refusal_19 (by decide) (fun c0 => absurd c0 (by decide)) (fun _ => ?_)
      refine lv_iconst (v := (-1)) hx hb dX15_refusal_22 (by decide) ?_
      exact W.iret (v := (-1)) hx hb hr (fun t ht9 hW => ⟨⟨(-1), (), rfl, (by simp [sp_price, n11c]), by rw [ht9]; exact hP.sub [] rfl, va_K.moved hW.alike (hK.sub [] rfl), hD.sub [] (by decide) rfl⟩, hS.F ht9⟩) hS.2.2 dX15_refusal_23
theorem sp_price_lt (p : Int32) : sp_price p < 0 := by unfold sp_price; split <;> (try split) <;> decide
theorem not_ge_of {r p : Int32} (h : r = sp_price p) (f : ∀ p, sp_price p < 0) : ¬ 0 ≤ r := by rw [h]; exact Int32.not_le.mpr (f p)
set_option maxHeartbeats 4000000 in
set_option maxRecDepth 100000 in
theorem r_find (l : Launch) (dC : Nat → ClassId) (dI : Nat → Nat → Nat) (sz : Nat) (q : Nat) (fs : List Value) (p0 : Int32) (L_fs : fs.length = 163) (K38_fs : fs[38]? = some (.null)) (K54_fs : fs[54]? = some (.int 0)) : Met l yX15_find (Cond.code yX15_find cX15_find 5 (some .int) :: tb) ({ frames := 2, cells := 0, slots := 0, locals := 46 }) (pcw [.ref q, .int p0] (dC, dI) [(q, .inr (15, fs))] [] sz) (va_Qi (fun (r : Int32) => (fun (_ : Unit) => r = sp_price p0)) (bw (dC, dI) (va_A [(q, .inr (15, fs))] sz) (fun (_ : Unit) => []) (fun (_ : Unit) => [])) (va_A [(q, .inr (15, fs))] sz)) 0 0 (va_A [(q, .inr (15, fs))] sz) := by
  refine Met.ofW (cc := cX15_find) (maxL := 5) (ret := (some .int)) (by decide) rfl ?_
  intro p e s m args below meth c s₁ B hml hv
  obtain ⟨rfl, hsz, hP, hK, hD0⟩ := hv
  have hx := B.exec
  have hb := B.bytes
  have hr := B.returns
  have hts := atoms_spec (ws := Cond.code yX15_find cX15_find 5 (some .int) :: tb) B.pre
  have ht : ∀ w ∈ tb, w.before _ s = true := fun w h => hts w (List.mem_cons_of_mem _ h)
  have hown : s.vm.findClass RX15 = some m.cls := findClass_of_methodNamed B.named
  have hlocks := B.notSynchronized
  subst hsz
  have hD := hD0.self (sz := s.heap.size)
  generalize hAe : va_A [(q, .inr (15, fs))] s.heap.size = A at hD ⊢
  have hA : ∀ q : Nat, s.heap.size ≤ q → A q := fun q h => by rw [← hAe]; exact Or.inr h
  have hS : va_S A s.heap s.heap [] := va_S.rf
  have hl := lv_entry ([.ref q, .int p0]) (n := 5) (Nat.le_of_ble_eq_true rfl)
  rw [lg_entry_eq]
  generalize (lg_sl ([.ref q, .int p0]) ++ List.replicate (5 - (lg_sl ([.ref q, .int p0])).length) Slot.unset).toArray = ls at hl ⊢
  have hl : lv_has ls 5 [(0, .ref q), (1, .int p0)] := hl
  have hP : va_P (dC, dI) cls [(q, .inr (15, fs))] s.heap := hP
  refine lv_aload_n hx hb dX15_find_0 rfl (lv_at hl 0 rfl) ?_
  refine lv_iload_n hx hb dX15_find_1 rfl (lv_at hl 1 rfl) ?_
  refine ca_i (wr := []) (va_runV (As := [.int p0]) (rest := []) ⟨hx, hb, hml, hown, ht⟩ (r_refusal l dC dI s.heap.size q fs p0 L_fs K38_fs K54_fs ) (cwV 1 ht (gdV k_13_222 k_13_219 k_13_221 ks_154 k_1_17) rfl rfl rfl (by decide +kernel) ⟨Nat.le_of_ble_eq_true rfl, Nat.le_of_ble_eq_true rfl⟩) ⟨pcw_blind, va_recv hK hP (ci := 15) (q0 := 0) rfl rfl, pcw_at hP hD hK [0] [] (by decide) rfl rfl rfl⟩ rfl rfl hl.1 rfl (lv_room (Nat.le_of_ble_eq_true rfl)) dX15_find_2 ⟨Nat.le_of_ble_eq_true rfl, Nat.le_of_ble_eq_true rfl⟩) hP hD hK hS hA [0] [] rfl rfl (by decide) (by decide) (fun r1 u H locs w2 hK hP hD hS => ?_)
  have hK : va_K (dC, dI) cls [] s := hK
  have hP : va_P (dC, dI) cls [] H := hP
  have hD : va_D A [] := hD
  refine lv_istore_n (lv' := [(2, .int r1), (0, .ref q), (1, .int p0)]) hx hb dX15_find_5 rfl hl (by decide) rfl (fun ls hl => ?_)
  refine lv_iload_n hx hb dX15_find_6 rfl (lv_at hl 0 rfl) ?_
  refine lv_if_ge (tgt := 12) hx hb dX15_find_7 (by decide) (fun c0 => absurd c0 ((not_ge_of w2 sp_price_lt))) (fun _ => ?_)
  refine lv_iload_n hx hb dX15_find_10 rfl (lv_at hl 0 rfl) ?_
  exact W.iret (v := r1) hx hb hr (fun t ht9 hW => ⟨⟨r1, (), rfl, w2, by rw [ht9]; exact hP.sub [] rfl, va_K.moved hW.alike (hK.sub [] rfl), hD.sub [] (by decide) rfl⟩, hS.F ht9⟩) hS.2.2 dX15_find_11
set_option maxHeartbeats 4000000 in
set_option maxRecDepth 100000 in
theorem r_different (l : Launch) (dC : Nat → ClassId) (dI : Nat → Nat → Nat) (sz : Nat) (q : Nat) (fs : List Value) (p0 : Int32) (L_fs : fs.length = 163) (K38_fs : fs[38]? = some (.null)) (K54_fs : fs[54]? = some (.int 0)) : Met l yX15_different (Cond.code yX15_different cX15_different 5 (some .int) :: tb) ({ frames := 2, cells := 0, slots := 0, locals := 46 }) (pcw [.ref q, .int p0] (dC, dI) [(q, .inr (15, fs))] [] sz) (va_Qi (fun (r : Int32) => (fun (_ : Unit) => r = sp_price p0)) (bw (dC, dI) (va_A [(q, .inr (15, fs))] sz) (fun (_ : Unit) => []) (fun (_ : Unit) => [])) (va_A [(q, .inr (15, fs))] sz)) 0 0 (va_A [(q, .inr (15, fs))] sz) := by
  refine Met.ofW (cc := cX15_different) (maxL := 5) (ret := (some .int)) (by decide) rfl ?_
  intro p e s m args below meth c s₁ B hml hv
  obtain ⟨rfl, hsz, hP, hK, hD0⟩ := hv
  have hx := B.exec
  have hb := B.bytes
  have hr := B.returns
  have hts := atoms_spec (ws := Cond.code yX15_different cX15_different 5 (some .int) :: tb) B.pre
  have ht : ∀ w ∈ tb, w.before _ s = true := fun w h => hts w (List.mem_cons_of_mem _ h)
  have hown : s.vm.findClass RX15 = some m.cls := findClass_of_methodNamed B.named
  have hlocks := B.notSynchronized
  subst hsz
  have hD := hD0.self (sz := s.heap.size)
  generalize hAe : va_A [(q, .inr (15, fs))] s.heap.size = A at hD ⊢
  have hA : ∀ q : Nat, s.heap.size ≤ q → A q := fun q h => by rw [← hAe]; exact Or.inr h
  have hS : va_S A s.heap s.heap [] := va_S.rf
  have hl := lv_entry ([.ref q, .int p0]) (n := 5) (Nat.le_of_ble_eq_true rfl)
  rw [lg_entry_eq]
  generalize (lg_sl ([.ref q, .int p0]) ++ List.replicate (5 - (lg_sl ([.ref q, .int p0])).length) Slot.unset).toArray = ls at hl ⊢
  have hl : lv_has ls 5 [(0, .ref q), (1, .int p0)] := hl
  have hP : va_P (dC, dI) cls [(q, .inr (15, fs))] s.heap := hP
  refine lv_aload_n hx hb dX15_different_0 rfl (lv_at hl 0 rfl) ?_
  refine lv_iload_n hx hb dX15_different_1 rfl (lv_at hl 1 rfl) ?_
  refine ca_i (wr := []) (va_runV (As := [.int p0]) (rest := []) ⟨hx, hb, hml, hown, ht⟩ (r_refusal l dC dI s.heap.size q fs p0 L_fs K38_fs K54_fs ) (cwV 1 ht (gdV k_13_222 k_13_219 k_13_221 ks_154 k_1_17) rfl rfl rfl (by decide +kernel) ⟨Nat.le_of_ble_eq_true rfl, Nat.le_of_ble_eq_true rfl⟩) ⟨pcw_blind, va_recv hK hP (ci := 15) (q0 := 0) rfl rfl, pcw_at hP hD hK [0] [] (by decide) rfl rfl rfl⟩ rfl rfl hl.1 rfl (lv_room (Nat.le_of_ble_eq_true rfl)) dX15_different_2 ⟨Nat.le_of_ble_eq_true rfl, Nat.le_of_ble_eq_true rfl⟩) hP hD hK hS hA [0] [] rfl rfl (by decide) (by decide) (fun r1 u H locs w2 hK hP hD hS => ?_)
  have hK : va_K (dC, dI) cls [] s := hK
  have hP : va_P (dC, dI) cls [] H := hP
  have hD : va_D A [] := hD
  refine lv_istore_n (lv' := [(2, .int r1), (0, .ref q), (1, .int p0)]) hx hb dX15_different_5 rfl hl (by decide) rfl (fun ls hl => ?_)
  refine lv_iload_n hx hb dX15_different_6 rfl (lv_at hl 0 rfl) ?_
  refine lv_if_ge (tgt := 12) hx hb dX15_different_7 (by decide) (fun c0 => absurd c0 ((not_ge_of w2 sp_price_lt))) (fun _ => ?_)
  refine lv_iload_n hx hb dX15_different_10 rfl (lv_at hl 0 rfl) ?_
  exact W.iret (v := r1) hx hb hr (fun t ht9 hW => ⟨⟨r1, (), rfl, w2, by rw [ht9]; exact hP.sub [] rfl, va_K.moved hW.alike (hK.sub [] rfl), hD.sub [] (by decide) rfl⟩, hS.F ht9⟩) hS.2.2 dX15_different_11
set_option maxHeartbeats 4000000 in
set_option maxRecDepth 100000 in
theorem r_question (l : Launch) (dC : Nat → ClassId) (dI : Nat → Nat → Nat) (sz : Nat) (q : Nat) (fs : List Value) (p0 : Int32) (L_fs : fs.length = 163) (K38_fs : fs[38]? = some (.null)) (K54_fs : fs[54]? = some (.int 0)) : Met l yX15_question (Cond.code yX15_question cX15_question 11 (some .int) :: tb) ({ frames := 2, cells := 0, slots := 0, locals := 46 }) (pcw [.ref q, .int p0] (dC, dI) [(q, .inr (15, fs))] [] sz) (va_Qi (fun (r : Int32) => (fun (_ : Unit) => r = sp_price p0)) (bw (dC, dI) (va_A [(q, .inr (15, fs))] sz) (fun (_ : Unit) => []) (fun (_ : Unit) => [])) (va_A [(q, .inr (15, fs))] sz)) 0 0 (va_A [(q, .inr (15, fs))] sz) := by
  refine Met.ofW (cc := cX15_question) (maxL := 11) (ret := (some .int)) (by decide) rfl ?_
  intro p e s m args below meth c s₁ B hml hv
  obtain ⟨rfl, hsz, hP, hK, hD0⟩ := hv
  have hx := B.exec
  have hb := B.bytes
  have hr := B.returns
  have hts := atoms_spec (ws := Cond.code yX15_question cX15_question 11 (some .int) :: tb) B.pre
  have ht : ∀ w ∈ tb, w.before _ s = true := fun w h => hts w (List.mem_cons_of_mem _ h)
  have hown : s.vm.findClass RX15 = some m.cls := findClass_of_methodNamed B.named
  have hlocks := B.notSynchronized
  subst hsz
  have hD := hD0.self (sz := s.heap.size)
  generalize hAe : va_A [(q, .inr (15, fs))] s.heap.size = A at hD ⊢
  have hA : ∀ q : Nat, s.heap.size ≤ q → A q := fun q h => by rw [← hAe]; exact Or.inr h
  have hS : va_S A s.heap s.heap [] := va_S.rf
  have hl := lv_entry ([.ref q, .int p0]) (n := 11) (Nat.le_of_ble_eq_true rfl)
  rw [lg_entry_eq]
  generalize (lg_sl ([.ref q, .int p0]) ++ List.replicate (11 - (lg_sl ([.ref q, .int p0])).length) Slot.unset).toArray = ls at hl ⊢
  have hl : lv_has ls 11 [(0, .ref q), (1, .int p0)] := hl
  have hP : va_P (dC, dI) cls [(q, .inr (15, fs))] s.heap := hP
  refine lv_aload_n hx hb dX15_question_0 rfl (lv_at hl 0 rfl) ?_
  refine lv_iload_n hx hb dX15_question_1 rfl (lv_at hl 1 rfl) ?_
  refine ca_i (wr := []) (va_runV (As := [.int p0]) (rest := []) ⟨hx, hb, hml, hown, ht⟩ (r_refusal l dC dI s.heap.size q fs p0 L_fs K38_fs K54_fs ) (cwV 1 ht (gdV k_13_222 k_13_219 k_13_221 ks_154 k_1_17) rfl rfl rfl (by decide +kernel) ⟨Nat.le_of_ble_eq_true rfl, Nat.le_of_ble_eq_true rfl⟩) ⟨pcw_blind, va_recv hK hP (ci := 15) (q0 := 0) rfl rfl, pcw_at hP hD hK [0] [] (by decide) rfl rfl rfl⟩ rfl rfl hl.1 rfl (lv_room (Nat.le_of_ble_eq_true rfl)) dX15_question_2 ⟨Nat.le_of_ble_eq_true rfl, Nat.le_of_ble_eq_true rfl⟩) hP hD hK hS hA [0] [] rfl rfl (by decide) (by decide) (fun r1 u H locs w2 hK hP hD hS => ?_)
  have hK : va_K (dC, dI) cls [] s := hK
  have hP : va_P (dC, dI) cls [] H := hP
  have hD : va_D A [] := hD
  refine lv_istore_n (lv' := [(2, .int r1), (0, .ref q), (1, .int p0)]) hx hb dX15_question_5 rfl hl (by decide) rfl (fun ls hl => ?_)
  refine lv_iload_n hx hb dX15_question_6 rfl (lv_at hl 0 rfl) ?_
  refine lv_if_ge (tgt := 12) hx hb dX15_question_7 (by decide) (fun c0 => absurd c0 ((not_ge_of w2 sp_price_lt))) (fun _ => ?_)
  refine lv_iload_n hx hb dX15_question_10 rfl (lv_at hl 0 rfl) ?_
  exact W.iret (v := r1) hx hb hr (fun t ht9 hW => ⟨⟨r1, (), rfl, w2, by rw [ht9]; exact hP.sub [] rfl, va_K.moved hW.alike (hK.sub [] rfl), hD.sub [] (by decide) rfl⟩, hS.F ht9⟩) hS.2.2 dX15_question_11
set_option maxHeartbeats 4000000 in
set_option maxRecDepth 100000 in
theorem r_count (l : Launch) (dC : Nat → ClassId) (dI : Nat → Nat → Nat) (sz : Nat) (q : Nat) (fs : List Value) (p0 : Int32) (L_fs : fs.length = 163) (K38_fs : fs[38]? = some (.null)) (K54_fs : fs[54]? = some (.int 0)) : Met l yX15_count (Cond.code yX15_count cX15_count 3 (some .long) :: tb) ({ frames := 2, cells := 0, slots := 0, locals := 46 }) (pcw [.ref q, .int p0] (dC, dI) [(q, .inr (15, fs))] [] sz) (va_Ql (fun (r : Int64) => (fun (_ : Unit) => r = (sp_price p0).toInt64)) (bw (dC, dI) (va_A [(q, .inr (15, fs))] sz) (fun (_ : Unit) => []) (fun (_ : Unit) => [])) (va_A [(q, .inr (15, fs))] sz)) 0 0 (va_A [(q, .inr (15, fs))] sz) := by
  refine Met.ofW (cc := cX15_count) (maxL := 3) (ret := (some .long)) (by decide) rfl ?_
  intro p e s m args below meth c s₁ B hml hv
  obtain ⟨rfl, hsz, hP, hK, hD0⟩ := hv
  have hx := B.exec
  have hb := B.bytes
  have hr := B.returns
  have hts := atoms_spec (ws := Cond.code yX15_count cX15_count 3 (some .long) :: tb) B.pre
  have ht : ∀ w ∈ tb, w.before _ s = true := fun w h => hts w (List.mem_cons_of_mem _ h)
  have hown : s.vm.findClass RX15 = some m.cls := findClass_of_methodNamed B.named
  have hlocks := B.notSynchronized
  subst hsz
  have hD := hD0.self (sz := s.heap.size)
  generalize hAe : va_A [(q, .inr (15, fs))] s.heap.size = A at hD ⊢
  have hA : ∀ q : Nat, s.heap.size ≤ q → A q := fun q h => by rw [← hAe]; exact Or.inr h
  have hS : va_S A s.heap s.heap [] := va_S.rf
  have hl := lv_entry ([.ref q, .int p0]) (n := 3) (Nat.le_of_ble_eq_true rfl)
  rw [lg_entry_eq]
  generalize (lg_sl ([.ref q, .int p0]) ++ List.replicate (3 - (lg_sl ([.ref q, .int p0])).length) Slot.unset).toArray = ls at hl ⊢
  have hl : lv_has ls 3 [(0, .ref q), (1, .int p0)] := hl
  have hP : va_P (dC, dI) cls [(q, .inr (15, fs))] s.heap := hP
  refine lv_aload_n hx hb dX15_count_0 rfl (lv_at hl 0 rfl) ?_
  refine lv_iload_n hx hb dX15_count_1 rfl (lv_at hl 1 rfl) ?_
  refine ca_i (wr := []) (va_runV (As := [.int p0]) (rest := []) ⟨hx, hb, hml, hown, ht⟩ (r_refusal l dC dI s.heap.size q fs p0 L_fs K38_fs K54_fs ) (cwV 1 ht (gdV k_13_222 k_13_219 k_13_221 ks_154 k_1_17) rfl rfl rfl (by decide +kernel) ⟨Nat.le_of_ble_eq_true rfl, Nat.le_of_ble_eq_true rfl⟩) ⟨pcw_blind, va_recv hK hP (ci := 15) (q0 := 0) rfl rfl, pcw_at hP hD hK [0] [] (by decide) rfl rfl rfl⟩ rfl rfl hl.1 rfl (lv_room (Nat.le_of_ble_eq_true rfl)) dX15_count_2 ⟨Nat.le_of_ble_eq_true rfl, Nat.le_of_ble_eq_true rfl⟩) hP hD hK hS hA [0] [] rfl rfl (by decide) (by decide) (fun r1 u H locs w2 hK hP hD hS => ?_)
  have hK : va_K (dC, dI) cls [] s := hK
  have hP : va_P (dC, dI) cls [] H := hP
  have hD : va_D A [] := hD
  refine lv_istore_n (lv' := [(2, .int r1), (0, .ref q), (1, .int p0)]) hx hb dX15_count_5 rfl hl (by decide) rfl (fun ls hl => ?_)
  refine lv_iload_n hx hb dX15_count_6 rfl (lv_at hl 0 rfl) ?_
  refine lv_if_ge (tgt := 15) hx hb dX15_count_7 (by decide) (fun c0 => absurd c0 ((not_ge_of w2 sp_price_lt))) (fun _ => ?_)
  refine lv_iload_n hx hb dX15_count_10 rfl (lv_at hl 0 rfl) ?_
  refine lv_i2l hx hb dX15_count_11 rfl ?_
  refine lv_topl (fun x3 ex3 => ?_)
  refine lv_goto (tgt := 20) hx hb dX15_count_12 (by decide) ?_
  exact W.lret (v := x3) hx hb hr (fun t ht9 hW => ⟨⟨x3, (), rfl, (by rw [ex3, w2]), by rw [ht9]; exact hP.sub [] rfl, va_K.moved hW.alike (hK.sub [] rfl), hD.sub [] (by decide) rfl⟩, hS.F ht9⟩) hS.2.2 dX15_count_20
set_option maxHeartbeats 4000000 in
set_option maxRecDepth 100000 in
theorem r_ith (l : Launch) (dC : Nat → ClassId) (dI : Nat → Nat → Nat) (sz : Nat) (q : Nat) (fs : List Value) (p0 : Int32) (p1 : Int64) (L_fs : fs.length = 163) (K38_fs : fs[38]? = some (.null)) (K54_fs : fs[54]? = some (.int 0)) : Met l yX15_ith (Cond.code yX15_ith cX15_ith 9 (some .int) :: tb) ({ frames := 2, cells := 0, slots := 0, locals := 46 }) (pcw [.ref q, .int p0, .long p1] (dC, dI) [(q, .inr (15, fs))] [] sz) (va_Qi (fun (r : Int32) => (fun (_ : Unit) => r = sp_price p0)) (bw (dC, dI) (va_A [(q, .inr (15, fs))] sz) (fun (_ : Unit) => []) (fun (_ : Unit) => [])) (va_A [(q, .inr (15, fs))] sz)) 0 0 (va_A [(q, .inr (15, fs))] sz) := by
  refine Met.ofW (cc := cX15_ith) (maxL := 9) (ret := (some .int)) (by decide) rfl ?_
  intro p e s m args below meth c s₁ B hml hv
  obtain ⟨rfl, hsz, hP, hK, hD0⟩ := hv
  have hx := B.exec
  have hb := B.bytes
  have hr := B.returns
  have hts := atoms_spec (ws := Cond.code yX15_ith cX15_ith 9 (some .int) :: tb) B.pre
  have ht : ∀ w ∈ tb, w.before _ s = true := fun w h => hts w (List.mem_cons_of_mem _ h)
  have hown : s.vm.findClass RX15 = some m.cls := findClass_of_methodNamed B.named
  have hlocks := B.notSynchronized
  subst hsz
  have hD := hD0.self (sz := s.heap.size)
  generalize hAe : va_A [(q, .inr (15, fs))] s.heap.size = A at hD ⊢
  have hA : ∀ q : Nat, s.heap.size ≤ q → A q := fun q h => by rw [← hAe]; exact Or.inr h
  have hS : va_S A s.heap s.heap [] := va_S.rf
  have hl := lv_entry ([.ref q, .int p0, .long p1]) (n := 9) (Nat.le_of_ble_eq_true rfl)
  rw [lg_entry_eq]
  generalize (lg_sl ([.ref q, .int p0, .long p1]) ++ List.replicate (9 - (lg_sl ([.ref q, .int p0, .long p1])).length) Slot.unset).toArray = ls at hl ⊢
  have hl : lv_has ls 9 [(0, .ref q), (1, .int p0), (2, .long p1)] := hl
  have hP : va_P (dC, dI) cls [(q, .inr (15, fs))] s.heap := hP
  refine lv_aload_n hx hb dX15_ith_0 rfl (lv_at hl 0 rfl) ?_
  refine lv_iload_n hx hb dX15_ith_1 rfl (lv_at hl 1 rfl) ?_
  refine ca_i (wr := []) (va_runV (As := [.int p0]) (rest := []) ⟨hx, hb, hml, hown, ht⟩ (r_refusal l dC dI s.heap.size q fs p0 L_fs K38_fs K54_fs ) (cwV 1 ht (gdV k_13_222 k_13_219 k_13_221 ks_154 k_1_17) rfl rfl rfl (by decide +kernel) ⟨Nat.le_of_ble_eq_true rfl, Nat.le_of_ble_eq_true rfl⟩) ⟨pcw_blind, va_recv hK hP (ci := 15) (q0 := 0) rfl rfl, pcw_at hP hD hK [0] [] (by decide) rfl rfl rfl⟩ rfl rfl hl.1 rfl (lv_room (Nat.le_of_ble_eq_true rfl)) dX15_ith_2 ⟨Nat.le_of_ble_eq_true rfl, Nat.le_of_ble_eq_true rfl⟩) hP hD hK hS hA [0] [] rfl rfl (by decide) (by decide) (fun r1 u H locs w2 hK hP hD hS => ?_)
  have hK : va_K (dC, dI) cls [] s := hK
  have hP : va_P (dC, dI) cls [] H := hP
  have hD : va_D A [] := hD
  refine lv_istore (lv' := [(4, .int r1), (0, .ref q), (1, .int p0), (2, .long p1)]) hx hb dX15_ith_5 hl (by decide) rfl (fun ls hl => ?_)
  refine lv_iload hx hb dX15_ith_7 (lv_at hl 0 rfl) ?_
  refine lv_if_ge (tgt := 15) hx hb dX15_ith_9 (by decide) (fun c0 => absurd c0 ((not_ge_of w2 sp_price_lt))) (fun _ => ?_)
  refine lv_iload hx hb dX15_ith_12 (lv_at hl 0 rfl) ?_
  exact W.iret (v := r1) hx hb hr (fun t ht9 hW => ⟨⟨r1, (), rfl, w2, by rw [ht9]; exact hP.sub [] rfl, va_K.moved hW.alike (hK.sub [] rfl), hD.sub [] (by decide) rfl⟩, hS.F ht9⟩) hS.2.2 dX15_ith_14
set_option maxHeartbeats 4000000 in
set_option maxRecDepth 100000 in
theorem r_byteOf (l : Launch) (dC : Nat → ClassId) (dI : Nat → Nat → Nat) (sz : Nat) (q : Nat) (fs : List Value) (p0 : Int32) (L_fs : fs.length = 163) (K54_fs : fs[54]? = some (.int 0)) (K62_fs : fs[62]? = some (.int 0)) : Met l yX15_byteOf (Cond.code yX15_byteOf cX15_byteOf 2 (some .int) :: tb) ({ frames := 1, cells := 0, slots := 0, locals := 25 }) (pcw [.ref q, .int p0] (dC, dI) [(q, .inr (15, fs))] [] sz) (va_Qi (fun (r : Int32) => (fun (_ : Unit) => r = -1)) (bw (dC, dI) (va_A [(q, .inr (15, fs))] sz) (fun (_ : Unit) => []) (fun (_ : Unit) => [])) (va_A [(q, .inr (15, fs))] sz)) 0 0 (va_A [(q, .inr (15, fs))] sz) := by
  refine Met.ofW (cc := cX15_byteOf) (maxL := 2) (ret := (some .int)) (by decide) rfl ?_
  intro p e s m args below meth c s₁ B hml hv
  obtain ⟨rfl, hsz, hP, hK, hD0⟩ := hv
  have hx := B.exec
  have hb := B.bytes
  have hr := B.returns
  have hts := atoms_spec (ws := Cond.code yX15_byteOf cX15_byteOf 2 (some .int) :: tb) B.pre
  have ht : ∀ w ∈ tb, w.before _ s = true := fun w h => hts w (List.mem_cons_of_mem _ h)
  have hown : s.vm.findClass RX15 = some m.cls := findClass_of_methodNamed B.named
  have hlocks := B.notSynchronized
  subst hsz
  have hD := hD0.self (sz := s.heap.size)
  generalize hAe : va_A [(q, .inr (15, fs))] s.heap.size = A at hD ⊢
  have hA : ∀ q : Nat, s.heap.size ≤ q → A q := fun q h => by rw [← hAe]; exact Or.inr h
  have hS : va_S A s.heap s.heap [] := va_S.rf
  have hl := lv_entry ([.ref q, .int p0]) (n := 2) (Nat.le_of_ble_eq_true rfl)
  rw [lg_entry_eq]
  generalize (lg_sl ([.ref q, .int p0]) ++ List.replicate (2 - (lg_sl ([.ref q, .int p0])).length) Slot.unset).toArray = ls at hl ⊢
  have hl : lv_has ls 2 [(0, .ref q), (1, .int p0)] := hl
  have hP : va_P (dC, dI) cls [(q, .inr (15, fs))] s.heap := hP
  refine lv_aload_n hx hb dX15_byteOf_0 rfl (lv_at hl 0 rfl) ?_
  refine lv_iconst (v := 0) hx hb dX15_byteOf_1 (by decide) ?_
  refine va_put (D := (dC, dI)) (ci := 15) (v := .int 0) (ty := .int) (C := RX15) (T := TX15) (N := 163) hx hb ht uX15 tyX15 tkX15 nmX15 hown hK hP hD hS 0 rfl rfl 51 (by decide) (ht _ k_10_239) (fun _ h9 => h9) rfl (by decide +kernel) rfl rfl (by rw [L_fs]; decide) dX15_byteOf_2 (fun H locs hP hD hS => ?_)
  obtain ⟨F1, eF1⟩ : ∃ g : List Value, g = fs.set 51 (.int 0) := ⟨_, rfl⟩
  rw [← eF1] at hP hD
  have K54_F1 : F1[54]? = some (.int 0) := by rw [eF1, List.getElem?_set_ne (by decide)]; exact K54_fs
  have K62_F1 : F1[62]? = some (.int 0) := by rw [eF1, List.getElem?_set_ne (by decide)]; exact K62_fs
  have K51_F1 : F1[51]? = some (.int 0) := by rw [eF1]; exact List.getElem?_set_self (by rw [L_fs]; decide)
  have L_F1 : F1.length = 163 := by rw [eF1, List.length_set]; exact L_fs
  have hP : va_P (dC, dI) cls [(q, .inr (15, F1))] H := hP
  have hD : va_D A [(q, .inr (15, F1))] := hD
  refine lv_iload_n hx hb dX15_byteOf_5 rfl (lv_at hl 1 rfl) ?_
  refine lv_i2l hx hb dX15_byteOf_6 rfl ?_
  refine lv_topl (fun x2 ex2 => ?_)
  refine lv_lconst (v := 0) hx hb dX15_byteOf_7 (by decide) ?_
  refine lv_aload_n hx hb dX15_byteOf_8 rfl (lv_at hl 0 rfl) ?_
  refine va_get (D := (dC, dI)) (ci := 15) (v := .int 0) (C := RX15) (T := TX15) (N := 163) hx hb ht uX15 hown hK hP 0 rfl rfl 62 (by decide) (ht _ k_11_10) (fun _ h9 => h9) K62_F1 dX15_byteOf_9 ?_
  refine lv_iconst (v := 1) hx hb dX15_byteOf_12 (by decide) ?_
  refine lv_isub hx hb dX15_byteOf_13 ?_
  refine tk_i (y := (-1)) (by decide) ?_
  refine lv_i2l (v := (-1)) hx hb dX15_byteOf_14 (by decide) ?_
  refine ca_i (wr := [(q, .inr (15, F1))]) (va_runS (As := [.long x2, .long 0, .long (-1)]) (rest := []) ⟨hx, hb, hml, hown, ht⟩ (r_in l dC dI H.size x2 0 (-1)  ) (cwS 3 ht (gdS k_12_216 k_12_214 k_12_215 k_1_17) rfl rfl rfl (by decide +kernel) ⟨Nat.le_of_ble_eq_true rfl, Nat.le_of_ble_eq_true rfl⟩) ⟨pcw_blind, pcw_at hP hD hK [] [] (by decide) rfl rfl rfl⟩ rfl rfl hl.1 rfl (lv_room (Nat.le_of_ble_eq_true rfl)) dX15_byteOf_15 ⟨Nat.le_of_ble_eq_true rfl, Nat.le_of_ble_eq_true rfl⟩) hP hD hK hS hA [] [0] rfl rfl (by decide) (by decide) (fun r3 u H locs w4 hK hP hD hS => ?_)
  have hK : va_K (dC, dI) cls [] s := hK
  have hP : va_P (dC, dI) cls [(q, .inr (15, F1))] H := hP
  have hD : va_D A [(q, .inr (15, F1))] := hD
  rcases w4 with ⟨rfl, n5⟩ | ⟨rfl, n5⟩
  · exact (in_emp (by decide) n5).elim
  · refine lv_if_eq (tgt := 30) hx hb dX15_byteOf_18 (by decide) (fun _ => ?_) (fun c0 => absurd c0 (by decide))
    refine lv_iconst (v := (-1)) hx hb dX15_byteOf_30 (by decide) ?_
    exact W.iret (v := (-1)) hx hb hr (fun t ht9 hW => ⟨⟨(-1), (), rfl, rfl, by rw [ht9]; exact hP.sub [] rfl, va_K.moved hW.alike (hK.sub [] rfl), hD.sub [] (by decide) rfl⟩, hS.F ht9⟩) hS.2.2 dX15_byteOf_31
set_option maxHeartbeats 4000000 in
set_option maxRecDepth 100000 in
theorem r_answer_ (l : Launch) (dC : Nat → ClassId) (dI : Nat → Nat → Nat) (sz : Nat) (q : Nat) (fs : List Value) (p0 : Int32) (L_fs : fs.length = 163) (K54_fs : fs[54]? = some (.int 0)) (K56_fs : fs[56]? = some (.int (-1))) : Met l yX15_answer_ (Cond.code yX15_answer_ cX15_answer_ 2 (some .int) :: tb) ({ frames := 0, cells := 0, slots := 0, locals := 0 }) (pcw [.ref q, .int p0] (dC, dI) [(q, .inr (15, fs))] [] sz) (va_Qi (fun (r : Int32) => (fun (_ : Unit) => r = -2)) (bw (dC, dI) (va_A [(q, .inr (15, fs))] sz) (fun (_ : Unit) => []) (fun (_ : Unit) => [])) (va_A [(q, .inr (15, fs))] sz)) 0 0 (va_A [(q, .inr (15, fs))] sz) := by
  refine Met.ofW (cc := cX15_answer_) (maxL := 2) (ret := (some .int)) (by decide) rfl ?_
  intro p e s m args below meth c s₁ B hml hv
  obtain ⟨rfl, hsz, hP, hK, hD0⟩ := hv
  have hx := B.exec
  have hb := B.bytes
  have hr := B.returns
  have hts := atoms_spec (ws := Cond.code yX15_answer_ cX15_answer_ 2 (some .int) :: tb) B.pre
  have ht : ∀ w ∈ tb, w.before _ s = true := fun w h => hts w (List.mem_cons_of_mem _ h)
  have hown : s.vm.findClass RX15 = some m.cls := findClass_of_methodNamed B.named
  have hlocks := B.notSynchronized
  subst hsz
  have hD := hD0.self (sz := s.heap.size)
  generalize hAe : va_A [(q, .inr (15, fs))] s.heap.size = A at hD ⊢
  have hA : ∀ q : Nat, s.heap.size ≤ q → A q := fun q h => by rw [← hAe]; exact Or.inr h
  have hS : va_S A s.heap s.heap [] := va_S.rf
  have hl := lv_entry ([.ref q, .int p0]) (n := 2) (Nat.le_of_ble_eq_true rfl)
  rw [lg_entry_eq]
  generalize (lg_sl ([.ref q, .int p0]) ++ List.replicate (2 - (lg_sl ([.ref q, .int p0])).length) Slot.unset).toArray = ls at hl ⊢
  have hl : lv_has ls 2 [(0, .ref q), (1, .int p0)] := hl
  have hP : va_P (dC, dI) cls [(q, .inr (15, fs))] s.heap := hP
  refine lv_aload_n hx hb dX15_answer__0 rfl (lv_at hl 0 rfl) ?_
  refine lv_iconst (v := 0) hx hb dX15_answer__1 (by decide) ?_
  refine va_put (D := (dC, dI)) (ci := 15) (v := .int 0) (ty := .int) (C := RX15) (T := TX15) (N := 163) hx hb ht uX15 tyX15 tkX15 nmX15 hown hK hP hD hS 0 rfl rfl 51 (by decide) (ht _ k_10_239) (fun _ h9 => h9) rfl (by decide +kernel) rfl rfl (by rw [L_fs]; decide) dX15_answer__2 (fun H locs hP hD hS => ?_)
  obtain ⟨F1, eF1⟩ : ∃ g : List Value, g = fs.set 51 (.int 0) := ⟨_, rfl⟩
  rw [← eF1] at hP hD
  have K54_F1 : F1[54]? = some (.int 0) := by rw [eF1, List.getElem?_set_ne (by decide)]; exact K54_fs
  have K56_F1 : F1[56]? = some (.int (-1)) := by rw [eF1, List.getElem?_set_ne (by decide)]; exact K56_fs
  have K51_F1 : F1[51]? = some (.int 0) := by rw [eF1]; exact List.getElem?_set_self (by rw [L_fs]; decide)
  have L_F1 : F1.length = 163 := by rw [eF1, List.length_set]; exact L_fs
  have hP : va_P (dC, dI) cls [(q, .inr (15, F1))] H := hP
  have hD : va_D A [(q, .inr (15, F1))] := hD
  refine lv_aload_n hx hb dX15_answer__5 rfl (lv_at hl 0 rfl) ?_
  refine va_get (D := (dC, dI)) (ci := 15) (v := .int (-1)) (C := RX15) (T := TX15) (N := 163) hx hb ht uX15 hown hK hP 0 rfl rfl 56 (by decide) (ht _ k_11_4) (fun _ h9 => h9) K56_F1 dX15_answer__6 ?_
  refine lv_if_lt (tgt := 37) hx hb dX15_answer__9 (by decide) (fun _ => ?_) (fun c0 => absurd c0 (by decide))
  refine lv_bipush (v := (-2)) hx hb dX15_answer__37 (by decide) ?_
  exact W.iret (v := (-2)) hx hb hr (fun t ht9 hW => ⟨⟨(-2), (), rfl, rfl, by rw [ht9]; exact hP.sub [] rfl, va_K.moved hW.alike (hK.sub [] rfl), hD.sub [] (by decide) rfl⟩, hS.F ht9⟩) hS.2.2 dX15_answer__39
set_option maxHeartbeats 4000000 in
set_option maxRecDepth 100000 in
theorem r_point (l : Launch) (dC : Nat → ClassId) (dI : Nat → Nat → Nat) (sz : Nat) (q : Nat) (fs : List Value) (p0 : Int32) (p1 : Int32) (L_fs : fs.length = 163) (K38_fs : fs[38]? = some (.null)) (K54_fs : fs[54]? = some (.int 0)) : Met l yX15_point (Cond.code yX15_point cX15_point 3 (some .int) :: tb) ({ frames := 0, cells := 0, slots := 0, locals := 0 }) (pcw [.ref q, .int p0, .int p1] (dC, dI) [(q, .inr (15, fs))] [] sz) (va_Qi (fun (r : Int32) => (fun (_ : Unit) => r = -2)) (bw (dC, dI) (va_A [(q, .inr (15, fs))] sz) (fun (_ : Unit) => []) (fun (_ : Unit) => [])) (va_A [(q, .inr (15, fs))] sz)) 0 0 (va_A [(q, .inr (15, fs))] sz) := by
  refine Met.ofW (cc := cX15_point) (maxL := 3) (ret := (some .int)) (by decide) rfl ?_
  intro p e s m args below meth c s₁ B hml hv
  obtain ⟨rfl, hsz, hP, hK, hD0⟩ := hv
  have hx := B.exec
  have hb := B.bytes
  have hr := B.returns
  have hts := atoms_spec (ws := Cond.code yX15_point cX15_point 3 (some .int) :: tb) B.pre
  have ht : ∀ w ∈ tb, w.before _ s = true := fun w h => hts w (List.mem_cons_of_mem _ h)
  have hown : s.vm.findClass RX15 = some m.cls := findClass_of_methodNamed B.named
  have hlocks := B.notSynchronized
  subst hsz
  have hD := hD0.self (sz := s.heap.size)
  generalize hAe : va_A [(q, .inr (15, fs))] s.heap.size = A at hD ⊢
  have hA : ∀ q : Nat, s.heap.size ≤ q → A q := fun q h => by rw [← hAe]; exact Or.inr h
  have hS : va_S A s.heap s.heap [] := va_S.rf
  have hl := lv_entry ([.ref q, .int p0, .int p1]) (n := 3) (Nat.le_of_ble_eq_true rfl)
  rw [lg_entry_eq]
  generalize (lg_sl ([.ref q, .int p0, .int p1]) ++ List.replicate (3 - (lg_sl ([.ref q, .int p0, .int p1])).length) Slot.unset).toArray = ls at hl ⊢
  have hl : lv_has ls 3 [(0, .ref q), (1, .int p0), (2, .int p1)] := hl
  have hP : va_P (dC, dI) cls [(q, .inr (15, fs))] s.heap := hP
  refine lv_aload_n hx hb dX15_point_0 rfl (lv_at hl 0 rfl) ?_
  refine lv_iconst (v := 0) hx hb dX15_point_1 (by decide) ?_
  refine va_put (D := (dC, dI)) (ci := 15) (v := .int 0) (ty := .int) (C := RX15) (T := TX15) (N := 163) hx hb ht uX15 tyX15 tkX15 nmX15 hown hK hP hD hS 0 rfl rfl 51 (by decide) (ht _ k_10_239) (fun _ h9 => h9) rfl (by decide +kernel) rfl rfl (by rw [L_fs]; decide) dX15_point_2 (fun H locs hP hD hS => ?_)
  obtain ⟨F1, eF1⟩ : ∃ g : List Value, g = fs.set 51 (.int 0) := ⟨_, rfl⟩
  rw [← eF1] at hP hD
  have K38_F1 : F1[38]? = some (.null) := by rw [eF1, List.getElem?_set_ne (by decide)]; exact K38_fs
  have K54_F1 : F1[54]? = some (.int 0) := by rw [eF1, List.getElem?_set_ne (by decide)]; exact K54_fs
  have K51_F1 : F1[51]? = some (.int 0) := by rw [eF1]; exact List.getElem?_set_self (by rw [L_fs]; decide)
  have L_F1 : F1.length = 163 := by rw [eF1, List.length_set]; exact L_fs
  have hP : va_P (dC, dI) cls [(q, .inr (15, F1))] H := hP
  have hD : va_D A [(q, .inr (15, F1))] := hD
  refine lv_aload_n hx hb dX15_point_5 rfl (lv_at hl 0 rfl) ?_
  refine va_get (D := (dC, dI)) (ci := 15) (v := .null) (C := RX15) (T := TX15) (N := 163) hx hb ht uX15 hown hK hP 0 rfl rfl 38 (by decide) (ht _ k_10_226) (fun _ h9 => h9) K38_F1 dX15_point_6 ?_
  refine lv_ifnullN (tgt := 50) hx hb dX15_point_9 (by decide) ?_
  refine lv_bipush (v := (-2)) hx hb dX15_point_50 (by decide) ?_
  refine lv_goto (tgt := 68) hx hb dX15_point_52 (by decide) ?_
  exact W.iret (v := (-2)) hx hb hr (fun t ht9 hW => ⟨⟨(-2), (), rfl, rfl, by rw [ht9]; exact hP.sub [] rfl, va_K.moved hW.alike (hK.sub [] rfl), hD.sub [] (by decide) rfl⟩, hS.F ht9⟩) hS.2.2 dX15_point_68
set_option maxHeartbeats 4000000 in
set_option maxRecDepth 100000 in
theorem r_isDown_keep (l : Launch) (dC : Nat → ClassId) (dI : Nat → Nat → Nat) (sz : Nat) (q : Nat) (fs : List Value) (L_fs : fs.length = 163) (K54_fs : fs[54]? = some (.int 0)) (K56_fs : fs[56]? = some (.int (-1))) : Met l yX15_isDown (Cond.code yX15_isDown cX15_isDown 1 (some .boolean) :: tb) ({ frames := 0, cells := 0, slots := 0, locals := 0 }) (pcw [.ref q] (dC, dI) [(q, .inr (15, fs))] [] sz) (va_Qi (fun (r : Int32) => (fun (fs1 : List Value) => (r = 0) ∧ (fs1.length = 163) ∧ (fs1[51]? = some (.int 0)) ∧ (fs1[54]? = some (.int 0)) ∧ (fs1[56]? = some (.int (-1))))) (bw (dC, dI) (va_A [(q, .inr (15, fs))] sz) (fun (fs1 : List Value) => [(q, .inr (15, fs1))]) (fun (fs1 : List Value) => [])) (va_A [(q, .inr (15, fs))] sz)) 0 0 (va_A [(q, .inr (15, fs))] sz) := by
  refine Met.ofW (cc := cX15_isDown) (maxL := 1) (ret := (some .boolean)) (by decide) rfl ?_
  intro p e s m args below meth c s₁ B hml hv
  obtain ⟨rfl, hsz, hP, hK, hD0⟩ := hv
  have hx := B.exec
  have hb := B.bytes
  have hr := B.returns
  have hts := atoms_spec (ws := Cond.code yX15_isDown cX15_isDown 1 (some .boolean) :: tb) B.pre
  have ht : ∀ w ∈ tb, w.before _ s = true := fun w h => hts w (List.mem_cons_of_mem _ h)
  have hown : s.vm.findClass RX15 = some m.cls := findClass_of_methodNamed B.named
  have hlocks := B.notSynchronized
  subst hsz
  have hD := hD0.self (sz := s.heap.size)
  generalize hAe : va_A [(q, .inr (15, fs))] s.heap.size = A at hD ⊢
  have hA : ∀ q : Nat, s.heap.size ≤ q → A q := fun q h => by rw [← hAe]; exact Or.inr h
  have hS : va_S A s.heap s.heap [] := va_S.rf
  have hl := lv_entry ([.ref q]) (n := 1) (Nat.le_of_ble_eq_true rfl)
  rw [lg_entry_eq]
  generalize (lg_sl ([.ref q]) ++ List.replicate (1 - (lg_sl ([.ref q])).length) Slot.unset).toArray = ls at hl ⊢
  have hl : lv_has ls 1 [(0, .ref q)] := hl
  have hP : va_P (dC, dI) cls [(q, .inr (15, fs))] s.heap := hP
  refine lv_aload_n hx hb dX15_isDown_0 rfl (lv_at hl 0 rfl) ?_
  refine lv_iconst (v := 0) hx hb dX15_isDown_1 (by decide) ?_
  refine va_put (D := (dC, dI)) (ci := 15) (v := .int 0) (ty := .int) (C := RX15) (T := TX15) (N := 163) hx hb ht uX15 tyX15 tkX15 nmX15 hown hK hP hD hS 0 rfl rfl 51 (by decide) (ht _ k_10_239) (fun _ h9 => h9) rfl (by decide +kernel) rfl rfl (by rw [L_fs]; decide) dX15_isDown_2 (fun H locs hP hD hS => ?_)
  obtain ⟨F1, eF1⟩ : ∃ g : List Value, g = fs.set 51 (.int 0) := ⟨_, rfl⟩
  rw [← eF1] at hP hD
  have K54_F1 : F1[54]? = some (.int 0) := by rw [eF1, List.getElem?_set_ne (by decide)]; exact K54_fs
  have K56_F1 : F1[56]? = some (.int (-1)) := by rw [eF1, List.getElem?_set_ne (by decide)]; exact K56_fs
  have K51_F1 : F1[51]? = some (.int 0) := by rw [eF1]; exact List.getElem?_set_self (by rw [L_fs]; decide)
  have L_F1 : F1.length = 163 := by rw [eF1, List.length_set]; exact L_fs
  have hP : va_P (dC, dI) cls [(q, .inr (15, F1))] H := hP
  have hD : va_D A [(q, .inr (15, F1))] := hD
  refine lv_aload_n hx hb dX15_isDown_5 rfl (lv_at hl 0 rfl) ?_
  refine va_get (D := (dC, dI)) (ci := 15) (v := .int 0) (C := RX15) (T := TX15) (N := 163) hx hb ht uX15 hown hK hP 0 rfl rfl 54 (by decide) (ht _ k_11_2) (fun _ h9 => h9) K54_F1 dX15_isDown_6 ?_
  exact W.zret (v := 0) hx hb hr rfl (fun t ht9 hW => ⟨⟨0, (F1), rfl, ⟨rfl, L_F1, K51_F1, K54_F1, K56_F1⟩, by rw [ht9]; exact hP.sub [0] rfl, va_K.moved hW.alike (hK.sub [] rfl), hD.sub [0] (by decide) rfl⟩, hS.F ht9⟩) hS.2.2 dX15_isDown_9
set_option maxHeartbeats 4000000 in
set_option maxRecDepth 100000 in
theorem r_keep (l : Launch) (dC : Nat → ClassId) (dI : Nat → Nat → Nat) (sz : Nat) (q : Nat) (fs : List Value) (L_fs : fs.length = 163) (K54_fs : fs[54]? = some (.int 0)) (K56_fs : fs[56]? = some (.int (-1))) : Met l yX15_keep (Cond.code yX15_keep cX15_keep 2 (some .int) :: tb) ({ frames := 1, cells := 0, slots := 0, locals := 20 }) (pcw [.ref q] (dC, dI) [(q, .inr (15, fs))] [] sz) (va_Qi (fun (r : Int32) => (fun (_ : Unit) => r = -2)) (bw (dC, dI) (va_A [(q, .inr (15, fs))] sz) (fun (_ : Unit) => []) (fun (_ : Unit) => [])) (va_A [(q, .inr (15, fs))] sz)) 0 0 (va_A [(q, .inr (15, fs))] sz) := by
  refine Met.ofW (cc := cX15_keep) (maxL := 2) (ret := (some .int)) (by decide) rfl ?_
  intro p e s m args below meth c s₁ B hml hv
  obtain ⟨rfl, hsz, hP, hK, hD0⟩ := hv
  have hx := B.exec
  have hb := B.bytes
  have hr := B.returns
  have hts := atoms_spec (ws := Cond.code yX15_keep cX15_keep 2 (some .int) :: tb) B.pre
  have ht : ∀ w ∈ tb, w.before _ s = true := fun w h => hts w (List.mem_cons_of_mem _ h)
  have hown : s.vm.findClass RX15 = some m.cls := findClass_of_methodNamed B.named
  have hlocks := B.notSynchronized
  subst hsz
  have hD := hD0.self (sz := s.heap.size)
  generalize hAe : va_A [(q, .inr (15, fs))] s.heap.size = A at hD ⊢
  have hA : ∀ q : Nat, s.heap.size ≤ q → A q := fun q h => by rw [← hAe]; exact Or.inr h
  have hS : va_S A s.heap s.heap [] := va_S.rf
  have hl := lv_entry ([.ref q]) (n := 2) (Nat.le_of_ble_eq_true rfl)
  rw [lg_entry_eq]
  generalize (lg_sl ([.ref q]) ++ List.replicate (2 - (lg_sl ([.ref q])).length) Slot.unset).toArray = ls at hl ⊢
  have hl : lv_has ls 2 [(0, .ref q)] := hl
  have hP : va_P (dC, dI) cls [(q, .inr (15, fs))] s.heap := hP
  refine lv_aload_n hx hb dX15_keep_0 rfl (lv_at hl 0 rfl) ?_
  refine ca_i (wr := []) (va_runV (As := []) (rest := []) ⟨hx, hb, hml, hown, ht⟩ (r_isDown_keep l dC dI s.heap.size q fs L_fs K54_fs K56_fs ) (cwV 0 ht (gdV k_12_228 k_12_225 k_12_227 ks_112 k_1_17) rfl rfl rfl (by decide +kernel) ⟨Nat.le_of_ble_eq_true rfl, Nat.le_of_ble_eq_true rfl⟩) ⟨pcw_blind, va_recv hK hP (ci := 15) (q0 := 0) rfl rfl, pcw_at hP hD hK [0] [] (by decide) rfl rfl rfl⟩ rfl rfl hl.1 rfl (lv_room (Nat.le_of_ble_eq_true rfl)) dX15_keep_1 ⟨Nat.le_of_ble_eq_true rfl, Nat.le_of_ble_eq_true rfl⟩) hP hD hK hS hA [0] [] rfl rfl (by decide) (by decide) (fun r1 u H locs w2 hK hP hD hS => ?_)
  obtain ⟨F3, rfl⟩ : ∃ z, z = u := ⟨_, rfl⟩
  have hK : va_K (dC, dI) cls [] s := hK
  have hP : va_P (dC, dI) cls [(q, .inr (15, F3))] H := hP
  have hD : va_D A [(q, .inr (15, F3))] := hD
  obtain ⟨w2, K4, K5, K6, K7⟩ := w2
  obtain rfl : r1 = 0 := w2
  refine lv_if_eq (tgt := 10) hx hb dX15_keep_4 (by decide) (fun _ => ?_) (fun c0 => absurd c0 (by decide))
  refine lv_aload_n hx hb dX15_keep_10 rfl (lv_at hl 0 rfl) ?_
  refine va_get (D := (dC, dI)) (ci := 15) (v := .int (-1)) (C := RX15) (T := TX15) (N := 163) hx hb ht uX15 hown hK hP 0 rfl rfl 56 (by decide) (ht _ k_11_4) (fun _ h9 => h9) K7 dX15_keep_11 ?_
  refine lv_if_lt (tgt := 56) hx hb dX15_keep_14 (by decide) (fun _ => ?_) (fun c0 => absurd c0 (by decide))
  refine lv_bipush (v := (-2)) hx hb dX15_keep_56 (by decide) ?_
  exact W.iret (v := (-2)) hx hb hr (fun t ht9 hW => ⟨⟨(-2), (), rfl, rfl, by rw [ht9]; exact hP.sub [] rfl, va_K.moved hW.alike (hK.sub [] rfl), hD.sub [] (by decide) rfl⟩, hS.F ht9⟩) hS.2.2 dX15_keep_58
set_option maxHeartbeats 4000000 in
set_option maxRecDepth 100000 in
theorem r_isDown_kept (l : Launch) (dC : Nat → ClassId) (dI : Nat → Nat → Nat) (sz : Nat) (q : Nat) (fs : List Value) (L_fs : fs.length = 163) (K54_fs : fs[54]? = some (.int 0)) (K77_fs : fs[77]? = some (.int 0)) : Met l yX15_isDown (Cond.code yX15_isDown cX15_isDown 1 (some .boolean) :: tb) ({ frames := 0, cells := 0, slots := 0, locals := 0 }) (pcw [.ref q] (dC, dI) [(q, .inr (15, fs))] [] sz) (va_Qi (fun (r : Int32) => (fun (fs1 : List Value) => (r = 0) ∧ (fs1.length = 163) ∧ (fs1[51]? = some (.int 0)) ∧ (fs1[54]? = some (.int 0)) ∧ (fs1[77]? = some (.int 0)))) (bw (dC, dI) (va_A [(q, .inr (15, fs))] sz) (fun (fs1 : List Value) => [(q, .inr (15, fs1))]) (fun (fs1 : List Value) => [])) (va_A [(q, .inr (15, fs))] sz)) 0 0 (va_A [(q, .inr (15, fs))] sz) := by
  refine Met.ofW (cc := cX15_isDown) (maxL := 1) (ret := (some .boolean)) (by decide) rfl ?_
  intro p e s m args below meth c s₁ B hml hv
  obtain ⟨rfl, hsz, hP, hK, hD0⟩ := hv
  have hx := B.exec
  have hb := B.bytes
  have hr := B.returns
  have hts := atoms_spec (ws := Cond.code yX15_isDown cX15_isDown 1 (some .boolean) :: tb) B.pre
  have ht : ∀ w ∈ tb, w.before _ s = true := fun w h => hts w (List.mem_cons_of_mem _ h)
  have hown : s.vm.findClass RX15 = some m.cls := findClass_of_methodNamed B.named
  have hlocks := B.notSynchronized
  subst hsz
  have hD := hD0.self (sz := s.heap.size)
  generalize hAe : va_A [(q, .inr (15, fs))] s.heap.size = A at hD ⊢
  have hA : ∀ q : Nat, s.heap.size ≤ q → A q := fun q h => by rw [← hAe]; exact Or.inr h
  have hS : va_S A s.heap s.heap [] := va_S.rf
  have hl := lv_entry ([.ref q]) (n := 1) (Nat.le_of_ble_eq_true rfl)
  rw [lg_entry_eq]
  generalize (lg_sl ([.ref q]) ++ List.replicate (1 - (lg_sl ([.ref q])).length) Slot.unset).toArray = ls at hl ⊢
  have hl : lv_has ls 1 [(0, .ref q)] := hl
  have hP : va_P (dC, dI) cls [(q, .inr (15, fs))] s.heap := hP
  refine lv_aload_n hx hb dX15_isDown_0 rfl (lv_at hl 0 rfl) ?_
  refine lv_iconst (v := 0) hx hb dX15_isDown_1 (by decide) ?_
  refine va_put (D := (dC, dI)) (ci := 15) (v := .int 0) (ty := .int) (C := RX15) (T := TX15) (N := 163) hx hb ht uX15 tyX15 tkX15 nmX15 hown hK hP hD hS 0 rfl rfl 51 (by decide) (ht _ k_10_239) (fun _ h9 => h9) rfl (by decide +kernel) rfl rfl (by rw [L_fs]; decide) dX15_isDown_2 (fun H locs hP hD hS => ?_)
  obtain ⟨F1, eF1⟩ : ∃ g : List Value, g = fs.set 51 (.int 0) := ⟨_, rfl⟩
  rw [← eF1] at hP hD
  have K54_F1 : F1[54]? = some (.int 0) := by rw [eF1, List.getElem?_set_ne (by decide)]; exact K54_fs
  have K77_F1 : F1[77]? = some (.int 0) := by rw [eF1, List.getElem?_set_ne (by decide)]; exact K77_fs
  have K51_F1 : F1[51]? = some (.int 0) := by rw [eF1]; exact List.getElem?_set_self (by rw [L_fs]; decide)
  have L_F1 : F1.length = 163 := by rw [eF1, List.length_set]; exact L_fs
  have hP : va_P (dC, dI) cls [(q, .inr (15, F1))] H := hP
  have hD : va_D A [(q, .inr (15, F1))] := hD
  refine lv_aload_n hx hb dX15_isDown_5 rfl (lv_at hl 0 rfl) ?_
  refine va_get (D := (dC, dI)) (ci := 15) (v := .int 0) (C := RX15) (T := TX15) (N := 163) hx hb ht uX15 hown hK hP 0 rfl rfl 54 (by decide) (ht _ k_11_2) (fun _ h9 => h9) K54_F1 dX15_isDown_6 ?_
  exact W.zret (v := 0) hx hb hr rfl (fun t ht9 hW => ⟨⟨0, (F1), rfl, ⟨rfl, L_F1, K51_F1, K54_F1, K77_F1⟩, by rw [ht9]; exact hP.sub [0] rfl, va_K.moved hW.alike (hK.sub [] rfl), hD.sub [0] (by decide) rfl⟩, hS.F ht9⟩) hS.2.2 dX15_isDown_9
set_option maxHeartbeats 4000000 in
set_option maxRecDepth 100000 in
theorem r_kept (l : Launch) (dC : Nat → ClassId) (dI : Nat → Nat → Nat) (sz : Nat) (q : Nat) (fs : List Value) (p0 : Int32) (p1 : Int32) (L_fs : fs.length = 163) (K54_fs : fs[54]? = some (.int 0)) (K77_fs : fs[77]? = some (.int 0)) : Met l yX15_kept (Cond.code yX15_kept cX15_kept 4 (some .int) :: tb) ({ frames := 1, cells := 0, slots := 0, locals := 25 }) (pcw [.ref q, .int p0, .int p1] (dC, dI) [(q, .inr (15, fs))] [] sz) (va_Qi (fun (r : Int32) => (fun (_ : Unit) => r = -1)) (bw (dC, dI) (va_A [(q, .inr (15, fs))] sz) (fun (_ : Unit) => []) (fun (_ : Unit) => [])) (va_A [(q, .inr (15, fs))] sz)) 0 0 (va_A [(q, .inr (15, fs))] sz) := by
  refine Met.ofW (cc := cX15_kept) (maxL := 4) (ret := (some .int)) (by decide) rfl ?_
  intro p e s m args below meth c s₁ B hml hv
  obtain ⟨rfl, hsz, hP, hK, hD0⟩ := hv
  have hx := B.exec
  have hb := B.bytes
  have hr := B.returns
  have hts := atoms_spec (ws := Cond.code yX15_kept cX15_kept 4 (some .int) :: tb) B.pre
  have ht : ∀ w ∈ tb, w.before _ s = true := fun w h => hts w (List.mem_cons_of_mem _ h)
  have hown : s.vm.findClass RX15 = some m.cls := findClass_of_methodNamed B.named
  have hlocks := B.notSynchronized
  subst hsz
  have hD := hD0.self (sz := s.heap.size)
  generalize hAe : va_A [(q, .inr (15, fs))] s.heap.size = A at hD ⊢
  have hA : ∀ q : Nat, s.heap.size ≤ q → A q := fun q h => by rw [← hAe]; exact Or.inr h
  have hS : va_S A s.heap s.heap [] := va_S.rf
  have hl := lv_entry ([.ref q, .int p0, .int p1]) (n := 4) (Nat.le_of_ble_eq_true rfl)
  rw [lg_entry_eq]
  generalize (lg_sl ([.ref q, .int p0, .int p1]) ++ List.replicate (4 - (lg_sl ([.ref q, .int p0, .int p1])).length) Slot.unset).toArray = ls at hl ⊢
  have hl : lv_has ls 4 [(0, .ref q), (1, .int p0), (2, .int p1)] := hl
  have hP : va_P (dC, dI) cls [(q, .inr (15, fs))] s.heap := hP
  refine lv_aload_n hx hb dX15_kept_0 rfl (lv_at hl 0 rfl) ?_
  refine ca_i (wr := []) (va_runV (As := []) (rest := []) ⟨hx, hb, hml, hown, ht⟩ (r_isDown_kept l dC dI s.heap.size q fs L_fs K54_fs K77_fs ) (cwV 0 ht (gdV k_12_228 k_12_225 k_12_227 ks_112 k_1_17) rfl rfl rfl (by decide +kernel) ⟨Nat.le_of_ble_eq_true rfl, Nat.le_of_ble_eq_true rfl⟩) ⟨pcw_blind, va_recv hK hP (ci := 15) (q0 := 0) rfl rfl, pcw_at hP hD hK [0] [] (by decide) rfl rfl rfl⟩ rfl rfl hl.1 rfl (lv_room (Nat.le_of_ble_eq_true rfl)) dX15_kept_1 ⟨Nat.le_of_ble_eq_true rfl, Nat.le_of_ble_eq_true rfl⟩) hP hD hK hS hA [0] [] rfl rfl (by decide) (by decide) (fun r1 u H locs w2 hK hP hD hS => ?_)
  obtain ⟨F3, rfl⟩ : ∃ z, z = u := ⟨_, rfl⟩
  have hK : va_K (dC, dI) cls [] s := hK
  have hP : va_P (dC, dI) cls [(q, .inr (15, F3))] H := hP
  have hD : va_D A [(q, .inr (15, F3))] := hD
  obtain ⟨w2, K4, K5, K6, K7⟩ := w2
  obtain rfl : r1 = 0 := w2
  refine lv_if_eq (tgt := 10) hx hb dX15_kept_4 (by decide) (fun _ => ?_) (fun c0 => absurd c0 (by decide))
  refine lv_iload_n hx hb dX15_kept_10 rfl (lv_at hl 1 rfl) ?_
  refine lv_i2l hx hb dX15_kept_11 rfl ?_
  refine lv_topl (fun x8 ex8 => ?_)
  refine lv_lconst (v := 0) hx hb dX15_kept_12 (by decide) ?_
  refine lv_aload_n hx hb dX15_kept_13 rfl (lv_at hl 0 rfl) ?_
  refine va_get (D := (dC, dI)) (ci := 15) (v := .int 0) (C := RX15) (T := TX15) (N := 163) hx hb ht uX15 hown hK hP 0 rfl rfl 77 (by decide) (ht _ k_11_25) (fun _ h9 => h9) K7 dX15_kept_14 ?_
  refine lv_iconst (v := 1) hx hb dX15_kept_17 (by decide) ?_
  refine lv_isub hx hb dX15_kept_18 ?_
  refine tk_i (y := (-1)) (by decide) ?_
  refine lv_i2l (v := (-1)) hx hb dX15_kept_19 (by decide) ?_
  refine ca_i (wr := [(q, .inr (15, F3))]) (va_runS (As := [.long x8, .long 0, .long (-1)]) (rest := []) ⟨hx, hb, hml, hown, ht⟩ (r_in l dC dI H.size x8 0 (-1)  ) (cwS 3 ht (gdS k_12_216 k_12_214 k_12_215 k_1_17) rfl rfl rfl (by decide +kernel) ⟨Nat.le_of_ble_eq_true rfl, Nat.le_of_ble_eq_true rfl⟩) ⟨pcw_blind, pcw_at hP hD hK [] [] (by decide) rfl rfl rfl⟩ rfl rfl hl.1 rfl (lv_room (Nat.le_of_ble_eq_true rfl)) dX15_kept_20 ⟨Nat.le_of_ble_eq_true rfl, Nat.le_of_ble_eq_true rfl⟩) hP hD hK hS hA [] [0] rfl rfl (by decide) (by decide) (fun r9 u H locs w10 hK hP hD hS => ?_)
  have hK : va_K (dC, dI) cls [] s := hK
  have hP : va_P (dC, dI) cls [(q, .inr (15, F3))] H := hP
  have hD : va_D A [(q, .inr (15, F3))] := hD
  rcases w10 with ⟨rfl, n11⟩ | ⟨rfl, n11⟩
  · exact (in_emp (by decide) n11).elim
  · refine lv_if_ne (tgt := 28) hx hb dX15_kept_23 (by decide) (fun c0 => absurd c0 (by decide)) (fun _ => ?_)
    refine lv_iconst (v := (-1)) hx hb dX15_kept_26 (by decide) ?_
    exact W.iret (v := (-1)) hx hb hr (fun t ht9 hW => ⟨⟨(-1), (), rfl, rfl, by rw [ht9]; exact hP.sub [] rfl, va_K.moved hW.alike (hK.sub [] rfl), hD.sub [] (by decide) rfl⟩, hS.F ht9⟩) hS.2.2 dX15_kept_27
set_option maxHeartbeats 4000000 in
set_option maxRecDepth 100000 in
theorem r_isDown_own (l : Launch) (dC : Nat → ClassId) (dI : Nat → Nat → Nat) (sz : Nat) (q : Nat) (fs : List Value) (L_fs : fs.length = 163) (K5_fs : fs[5]? = some (.int 26)) (K54_fs : fs[54]? = some (.int 0)) : Met l yX15_isDown (Cond.code yX15_isDown cX15_isDown 1 (some .boolean) :: tb) ({ frames := 0, cells := 0, slots := 0, locals := 0 }) (pcw [.ref q] (dC, dI) [(q, .inr (15, fs))] [] sz) (va_Qi (fun (r : Int32) => (fun (fs1 : List Value) => (r = 0) ∧ (fs1.length = 163) ∧ (fs1[5]? = some (.int 26)) ∧ (fs1[51]? = some (.int 0)) ∧ (fs1[54]? = some (.int 0)))) (bw (dC, dI) (va_A [(q, .inr (15, fs))] sz) (fun (fs1 : List Value) => [(q, .inr (15, fs1))]) (fun (fs1 : List Value) => [])) (va_A [(q, .inr (15, fs))] sz)) 0 0 (va_A [(q, .inr (15, fs))] sz) := by
  refine Met.ofW (cc := cX15_isDown) (maxL := 1) (ret := (some .boolean)) (by decide) rfl ?_
  intro p e s m args below meth c s₁ B hml hv
  obtain ⟨rfl, hsz, hP, hK, hD0⟩ := hv
  have hx := B.exec
  have hb := B.bytes
  have hr := B.returns
  have hts := atoms_spec (ws := Cond.code yX15_isDown cX15_isDown 1 (some .boolean) :: tb) B.pre
  have ht : ∀ w ∈ tb, w.before _ s = true := fun w h => hts w (List.mem_cons_of_mem _ h)
  have hown : s.vm.findClass RX15 = some m.cls := findClass_of_methodNamed B.named
  have hlocks := B.notSynchronized
  subst hsz
  have hD := hD0.self (sz := s.heap.size)
  generalize hAe : va_A [(q, .inr (15, fs))] s.heap.size = A at hD ⊢
  have hA : ∀ q : Nat, s.heap.size ≤ q → A q := fun q h => by rw [← hAe]; exact Or.inr h
  have hS : va_S A s.heap s.heap [] := va_S.rf
  have hl := lv_entry ([.ref q]) (n := 1) (Nat.le_of_ble_eq_true rfl)
  rw [lg_entry_eq]
  generalize (lg_sl ([.ref q]) ++ List.replicate (1 - (lg_sl ([.ref q])).length) Slot.unset).toArray = ls at hl ⊢
  have hl : lv_has ls 1 [(0, .ref q)] := hl
  have hP : va_P (dC, dI) cls [(q, .inr (15, fs))] s.heap := hP
  refine lv_aload_n hx hb dX15_isDown_0 rfl (lv_at hl 0 rfl) ?_
  refine lv_iconst (v := 0) hx hb dX15_isDown_1 (by decide) ?_
  refine va_put (D := (dC, dI)) (ci := 15) (v := .int 0) (ty := .int) (C := RX15) (T := TX15) (N := 163) hx hb ht uX15 tyX15 tkX15 nmX15 hown hK hP hD hS 0 rfl rfl 51 (by decide) (ht _ k_10_239) (fun _ h9 => h9) rfl (by decide +kernel) rfl rfl (by rw [L_fs]; decide) dX15_isDown_2 (fun H locs hP hD hS => ?_)
  obtain ⟨F1, eF1⟩ : ∃ g : List Value, g = fs.set 51 (.int 0) := ⟨_, rfl⟩
  rw [← eF1] at hP hD
  have K5_F1 : F1[5]? = some (.int 26) := by rw [eF1, List.getElem?_set_ne (by decide)]; exact K5_fs
  have K54_F1 : F1[54]? = some (.int 0) := by rw [eF1, List.getElem?_set_ne (by decide)]; exact K54_fs
  have K51_F1 : F1[51]? = some (.int 0) := by rw [eF1]; exact List.getElem?_set_self (by rw [L_fs]; decide)
  have L_F1 : F1.length = 163 := by rw [eF1, List.length_set]; exact L_fs
  have hP : va_P (dC, dI) cls [(q, .inr (15, F1))] H := hP
  have hD : va_D A [(q, .inr (15, F1))] := hD
  refine lv_aload_n hx hb dX15_isDown_5 rfl (lv_at hl 0 rfl) ?_
  refine va_get (D := (dC, dI)) (ci := 15) (v := .int 0) (C := RX15) (T := TX15) (N := 163) hx hb ht uX15 hown hK hP 0 rfl rfl 54 (by decide) (ht _ k_11_2) (fun _ h9 => h9) K54_F1 dX15_isDown_6 ?_
  exact W.zret (v := 0) hx hb hr rfl (fun t ht9 hW => ⟨⟨0, (F1), rfl, ⟨rfl, L_F1, K5_F1, K51_F1, K54_F1⟩, by rw [ht9]; exact hP.sub [0] rfl, va_K.moved hW.alike (hK.sub [] rfl), hD.sub [0] (by decide) rfl⟩, hS.F ht9⟩) hS.2.2 dX15_isDown_9
set_option maxHeartbeats 4000000 in
set_option maxRecDepth 100000 in
theorem r_own (l : Launch) (dC : Nat → ClassId) (dI : Nat → Nat → Nat) (sz : Nat) (q : Nat) (fs : List Value) (p0 : Int32) (p1 : Int32) (L_fs : fs.length = 163) (K5_fs : fs[5]? = some (.int 26)) (K54_fs : fs[54]? = some (.int 0)) : Met l yX15_own (Cond.code yX15_own cX15_own 5 (some .int) :: tb) ({ frames := 1, cells := 0, slots := 0, locals := 25 }) (pcw [.ref q, .int p0, .int p1] (dC, dI) [(q, .inr (15, fs))] [] sz) (va_Qi (fun (r : Int32) => (fun (_ : Unit) => r = -1)) (bw (dC, dI) (va_A [(q, .inr (15, fs))] sz) (fun (_ : Unit) => []) (fun (_ : Unit) => [])) (va_A [(q, .inr (15, fs))] sz)) 0 0 (va_A [(q, .inr (15, fs))] sz) := by
  refine Met.ofW (cc := cX15_own) (maxL := 5) (ret := (some .int)) (by decide) rfl ?_
  intro p e s m args below meth c s₁ B hml hv
  obtain ⟨rfl, hsz, hP, hK, hD0⟩ := hv
  have hx := B.exec
  have hb := B.bytes
  have hr := B.returns
  have hts := atoms_spec (ws := Cond.code yX15_own cX15_own 5 (some .int) :: tb) B.pre
  have ht : ∀ w ∈ tb, w.before _ s = true := fun w h => hts w (List.mem_cons_of_mem _ h)
  have hown : s.vm.findClass RX15 = some m.cls := findClass_of_methodNamed B.named
  have hlocks := B.notSynchronized
  subst hsz
  have hD := hD0.self (sz := s.heap.size)
  generalize hAe : va_A [(q, .inr (15, fs))] s.heap.size = A at hD ⊢
  have hA : ∀ q : Nat, s.heap.size ≤ q → A q := fun q h => by rw [← hAe]; exact Or.inr h
  have hS : va_S A s.heap s.heap [] := va_S.rf
  have hl := lv_entry ([.ref q, .int p0, .int p1]) (n := 5) (Nat.le_of_ble_eq_true rfl)
  rw [lg_entry_eq]
  generalize (lg_sl ([.ref q, .int p0, .int p1]) ++ List.replicate (5 - (lg_sl ([.ref q, .int p0, .int p1])).length) Slot.unset).toArray = ls at hl ⊢
  have hl : lv_has ls 5 [(0, .ref q), (1, .int p0), (2, .int p1)] := hl
  have hP : va_P (dC, dI) cls [(q, .inr (15, fs))] s.heap := hP
  refine lv_aload_n hx hb dX15_own_0 rfl (lv_at hl 0 rfl) ?_
  refine ca_i (wr := []) (va_runV (As := []) (rest := []) ⟨hx, hb, hml, hown, ht⟩ (r_isDown_own l dC dI s.heap.size q fs L_fs K5_fs K54_fs ) (cwV 0 ht (gdV k_12_228 k_12_225 k_12_227 ks_112 k_1_17) rfl rfl rfl (by decide +kernel) ⟨Nat.le_of_ble_eq_true rfl, Nat.le_of_ble_eq_true rfl⟩) ⟨pcw_blind, va_recv hK hP (ci := 15) (q0 := 0) rfl rfl, pcw_at hP hD hK [0] [] (by decide) rfl rfl rfl⟩ rfl rfl hl.1 rfl (lv_room (Nat.le_of_ble_eq_true rfl)) dX15_own_1 ⟨Nat.le_of_ble_eq_true rfl, Nat.le_of_ble_eq_true rfl⟩) hP hD hK hS hA [0] [] rfl rfl (by decide) (by decide) (fun r1 u H locs w2 hK hP hD hS => ?_)
  obtain ⟨F3, rfl⟩ : ∃ z, z = u := ⟨_, rfl⟩
  have hK : va_K (dC, dI) cls [] s := hK
  have hP : va_P (dC, dI) cls [(q, .inr (15, F3))] H := hP
  have hD : va_D A [(q, .inr (15, F3))] := hD
  obtain ⟨w2, K4, K5, K6, K7⟩ := w2
  obtain rfl : r1 = 0 := w2
  refine lv_if_eq (tgt := 10) hx hb dX15_own_4 (by decide) (fun _ => ?_) (fun c0 => absurd c0 (by decide))
  refine lv_iload_n hx hb dX15_own_10 rfl (lv_at hl 1 rfl) ?_
  refine lv_i2l hx hb dX15_own_11 rfl ?_
  refine lv_topl (fun x8 ex8 => ?_)
  refine lv_lconst (v := 0) hx hb dX15_own_12 (by decide) ?_
  refine lv_aload_n hx hb dX15_own_13 rfl (lv_at hl 0 rfl) ?_
  refine va_get (D := (dC, dI)) (ci := 15) (v := .int 26) (C := RX15) (T := TX15) (N := 163) hx hb ht uX15 hown hK hP 0 rfl rfl 5 (by decide) (ht _ k_10_193) (fun _ h9 => h9) K5 dX15_own_14 ?_
  refine lv_bipush (v := 26) hx hb dX15_own_17 (by decide) ?_
  refine lv_isub hx hb dX15_own_19 ?_
  refine tk_i (y := 0) (by decide) ?_
  refine lv_iconst (v := 1) hx hb dX15_own_20 (by decide) ?_
  refine lv_isub hx hb dX15_own_21 ?_
  refine tk_i (y := (-1)) (by decide) ?_
  refine lv_i2l (v := (-1)) hx hb dX15_own_22 (by decide) ?_
  refine ca_i (wr := [(q, .inr (15, F3))]) (va_runS (As := [.long x8, .long 0, .long (-1)]) (rest := []) ⟨hx, hb, hml, hown, ht⟩ (r_in l dC dI H.size x8 0 (-1)  ) (cwS 3 ht (gdS k_12_216 k_12_214 k_12_215 k_1_17) rfl rfl rfl (by decide +kernel) ⟨Nat.le_of_ble_eq_true rfl, Nat.le_of_ble_eq_true rfl⟩) ⟨pcw_blind, pcw_at hP hD hK [] [] (by decide) rfl rfl rfl⟩ rfl rfl hl.1 rfl (lv_room (Nat.le_of_ble_eq_true rfl)) dX15_own_23 ⟨Nat.le_of_ble_eq_true rfl, Nat.le_of_ble_eq_true rfl⟩) hP hD hK hS hA [] [0] rfl rfl (by decide) (by decide) (fun r9 u H locs w10 hK hP hD hS => ?_)
  have hK : va_K (dC, dI) cls [] s := hK
  have hP : va_P (dC, dI) cls [(q, .inr (15, F3))] H := hP
  have hD : va_D A [(q, .inr (15, F3))] := hD
  rcases w10 with ⟨rfl, n11⟩ | ⟨rfl, n11⟩
  · exact (in_emp (by decide) n11).elim
  · refine lv_if_ne (tgt := 31) hx hb dX15_own_26 (by decide) (fun c0 => absurd c0 (by decide)) (fun _ => ?_)
    refine lv_iconst (v := (-1)) hx hb dX15_own_29 (by decide) ?_
    exact W.iret (v := (-1)) hx hb hr (fun t ht9 hW => ⟨⟨(-1), (), rfl, rfl, by rw [ht9]; exact hP.sub [] rfl, va_K.moved hW.alike (hK.sub [] rfl), hD.sub [] (by decide) rfl⟩, hS.F ht9⟩) hS.2.2 dX15_own_30
set_option maxHeartbeats 4000000 in
set_option maxRecDepth 100000 in
theorem r_isDown_runs (l : Launch) (dC : Nat → ClassId) (dI : Nat → Nat → Nat) (sz : Nat) (q : Nat) (fs : List Value) (L_fs : fs.length = 163) (K54_fs : fs[54]? = some (.int 0)) (K92_fs : fs[92]? = some (.null)) : Met l yX15_isDown (Cond.code yX15_isDown cX15_isDown 1 (some .boolean) :: tb) ({ frames := 0, cells := 0, slots := 0, locals := 0 }) (pcw [.ref q] (dC, dI) [(q, .inr (15, fs))] [] sz) (va_Qi (fun (r : Int32) => (fun (fs1 : List Value) => (r = 0) ∧ (fs1.length = 163) ∧ (fs1[51]? = some (.int 0)) ∧ (fs1[54]? = some (.int 0)) ∧ (fs1[92]? = some (.null)))) (bw (dC, dI) (va_A [(q, .inr (15, fs))] sz) (fun (fs1 : List Value) => [(q, .inr (15, fs1))]) (fun (fs1 : List Value) => [])) (va_A [(q, .inr (15, fs))] sz)) 0 0 (va_A [(q, .inr (15, fs))] sz) := by
  refine Met.ofW (cc := cX15_isDown) (maxL := 1) (ret := (some .boolean)) (by decide) rfl ?_
  intro p e s m args below meth c s₁ B hml hv
  obtain ⟨rfl, hsz, hP, hK, hD0⟩ := hv
  have hx := B.exec
  have hb := B.bytes
  have hr := B.returns
  have hts := atoms_spec (ws := Cond.code yX15_isDown cX15_isDown 1 (some .boolean) :: tb) B.pre
  have ht : ∀ w ∈ tb, w.before _ s = true := fun w h => hts w (List.mem_cons_of_mem _ h)
  have hown : s.vm.findClass RX15 = some m.cls := findClass_of_methodNamed B.named
  have hlocks := B.notSynchronized
  subst hsz
  have hD := hD0.self (sz := s.heap.size)
  generalize hAe : va_A [(q, .inr (15, fs))] s.heap.size = A at hD ⊢
  have hA : ∀ q : Nat, s.heap.size ≤ q → A q := fun q h => by rw [← hAe]; exact Or.inr h
  have hS : va_S A s.heap s.heap [] := va_S.rf
  have hl := lv_entry ([.ref q]) (n := 1) (Nat.le_of_ble_eq_true rfl)
  rw [lg_entry_eq]
  generalize (lg_sl ([.ref q]) ++ List.replicate (1 - (lg_sl ([.ref q])).length) Slot.unset).toArray = ls at hl ⊢
  have hl : lv_has ls 1 [(0, .ref q)] := hl
  have hP : va_P (dC, dI) cls [(q, .inr (15, fs))] s.heap := hP
  refine lv_aload_n hx hb dX15_isDown_0 rfl (lv_at hl 0 rfl) ?_
  refine lv_iconst (v := 0) hx hb dX15_isDown_1 (by decide) ?_
  refine va_put (D := (dC, dI)) (ci := 15) (v := .int 0) (ty := .int) (C := RX15) (T := TX15) (N := 163) hx hb ht uX15 tyX15 tkX15 nmX15 hown hK hP hD hS 0 rfl rfl 51 (by decide) (ht _ k_10_239) (fun _ h9 => h9) rfl (by decide +kernel) rfl rfl (by rw [L_fs]; decide) dX15_isDown_2 (fun H locs hP hD hS => ?_)
  obtain ⟨F1, eF1⟩ : ∃ g : List Value, g = fs.set 51 (.int 0) := ⟨_, rfl⟩
  rw [← eF1] at hP hD
  have K54_F1 : F1[54]? = some (.int 0) := by rw [eF1, List.getElem?_set_ne (by decide)]; exact K54_fs
  have K92_F1 : F1[92]? = some (.null) := by rw [eF1, List.getElem?_set_ne (by decide)]; exact K92_fs
  have K51_F1 : F1[51]? = some (.int 0) := by rw [eF1]; exact List.getElem?_set_self (by rw [L_fs]; decide)
  have L_F1 : F1.length = 163 := by rw [eF1, List.length_set]; exact L_fs
  have hP : va_P (dC, dI) cls [(q, .inr (15, F1))] H := hP
  have hD : va_D A [(q, .inr (15, F1))] := hD
  refine lv_aload_n hx hb dX15_isDown_5 rfl (lv_at hl 0 rfl) ?_
  refine va_get (D := (dC, dI)) (ci := 15) (v := .int 0) (C := RX15) (T := TX15) (N := 163) hx hb ht uX15 hown hK hP 0 rfl rfl 54 (by decide) (ht _ k_11_2) (fun _ h9 => h9) K54_F1 dX15_isDown_6 ?_
  exact W.zret (v := 0) hx hb hr rfl (fun t ht9 hW => ⟨⟨0, (F1), rfl, ⟨rfl, L_F1, K51_F1, K54_F1, K92_F1⟩, by rw [ht9]; exact hP.sub [0] rfl, va_K.moved hW.alike (hK.sub [] rfl), hD.sub [0] (by decide) rfl⟩, hS.F ht9⟩) hS.2.2 dX15_isDown_9
set_option maxHeartbeats 4000000 in
set_option maxRecDepth 100000 in
theorem r_runs (l : Launch) (dC : Nat → ClassId) (dI : Nat → Nat → Nat) (sz : Nat) (q : Nat) (fs : List Value) (p0 : Int32) (p1 : Int32) (L_fs : fs.length = 163) (K54_fs : fs[54]? = some (.int 0)) (K92_fs : fs[92]? = some (.null)) : Met l yX15_runs (Cond.code yX15_runs cX15_runs 3 (some .int) :: tb) ({ frames := 1, cells := 0, slots := 0, locals := 20 }) (pcw [.ref q, .int p0, .int p1] (dC, dI) [(q, .inr (15, fs))] [] sz) (va_Qi (fun (r : Int32) => (fun (_ : Unit) => r = -2)) (bw (dC, dI) (va_A [(q, .inr (15, fs))] sz) (fun (_ : Unit) => []) (fun (_ : Unit) => [])) (va_A [(q, .inr (15, fs))] sz)) 0 0 (va_A [(q, .inr (15, fs))] sz) := by
  refine Met.ofW (cc := cX15_runs) (maxL := 3) (ret := (some .int)) (by decide) rfl ?_
  intro p e s m args below meth c s₁ B hml hv
  obtain ⟨rfl, hsz, hP, hK, hD0⟩ := hv
  have hx := B.exec
  have hb := B.bytes
  have hr := B.returns
  have hts := atoms_spec (ws := Cond.code yX15_runs cX15_runs 3 (some .int) :: tb) B.pre
  have ht : ∀ w ∈ tb, w.before _ s = true := fun w h => hts w (List.mem_cons_of_mem _ h)
  have hown : s.vm.findClass RX15 = some m.cls := findClass_of_methodNamed B.named
  have hlocks := B.notSynchronized
  subst hsz
  have hD := hD0.self (sz := s.heap.size)
  generalize hAe : va_A [(q, .inr (15, fs))] s.heap.size = A at hD ⊢
  have hA : ∀ q : Nat, s.heap.size ≤ q → A q := fun q h => by rw [← hAe]; exact Or.inr h
  have hS : va_S A s.heap s.heap [] := va_S.rf
  have hl := lv_entry ([.ref q, .int p0, .int p1]) (n := 3) (Nat.le_of_ble_eq_true rfl)
  rw [lg_entry_eq]
  generalize (lg_sl ([.ref q, .int p0, .int p1]) ++ List.replicate (3 - (lg_sl ([.ref q, .int p0, .int p1])).length) Slot.unset).toArray = ls at hl ⊢
  have hl : lv_has ls 3 [(0, .ref q), (1, .int p0), (2, .int p1)] := hl
  have hP : va_P (dC, dI) cls [(q, .inr (15, fs))] s.heap := hP
  refine lv_aload_n hx hb dX15_runs_0 rfl (lv_at hl 0 rfl) ?_
  refine ca_i (wr := []) (va_runV (As := []) (rest := []) ⟨hx, hb, hml, hown, ht⟩ (r_isDown_runs l dC dI s.heap.size q fs L_fs K54_fs K92_fs ) (cwV 0 ht (gdV k_12_228 k_12_225 k_12_227 ks_112 k_1_17) rfl rfl rfl (by decide +kernel) ⟨Nat.le_of_ble_eq_true rfl, Nat.le_of_ble_eq_true rfl⟩) ⟨pcw_blind, va_recv hK hP (ci := 15) (q0 := 0) rfl rfl, pcw_at hP hD hK [0] [] (by decide) rfl rfl rfl⟩ rfl rfl hl.1 rfl (lv_room (Nat.le_of_ble_eq_true rfl)) dX15_runs_1 ⟨Nat.le_of_ble_eq_true rfl, Nat.le_of_ble_eq_true rfl⟩) hP hD hK hS hA [0] [] rfl rfl (by decide) (by decide) (fun r1 u H locs w2 hK hP hD hS => ?_)
  obtain ⟨F3, rfl⟩ : ∃ z, z = u := ⟨_, rfl⟩
  have hK : va_K (dC, dI) cls [] s := hK
  have hP : va_P (dC, dI) cls [(q, .inr (15, F3))] H := hP
  have hD : va_D A [(q, .inr (15, F3))] := hD
  obtain ⟨w2, K4, K5, K6, K7⟩ := w2
  obtain rfl : r1 = 0 := w2
  refine lv_if_eq (tgt := 10) hx hb dX15_runs_4 (by decide) (fun _ => ?_) (fun c0 => absurd c0 (by decide))
  refine lv_aload_n hx hb dX15_runs_10 rfl (lv_at hl 0 rfl) ?_
  refine va_get (D := (dC, dI)) (ci := 15) (v := .null) (C := RX15) (T := TX15) (N := 163) hx hb ht uX15 hown hK hP 0 rfl rfl 92 (by decide) (ht _ k_11_40) (fun _ h9 => h9) K7 dX15_runs_11 ?_
  refine lv_ifnonnullN hx hb dX15_runs_14 ?_
  refine lv_bipush (v := (-2)) hx hb dX15_runs_17 (by decide) ?_
  exact W.iret (v := (-2)) hx hb hr (fun t ht9 hW => ⟨⟨(-2), (), rfl, rfl, by rw [ht9]; exact hP.sub [] rfl, va_K.moved hW.alike (hK.sub [] rfl), hD.sub [] (by decide) rfl⟩, hS.F ht9⟩) hS.2.2 dX15_runs_19
set_option maxHeartbeats 4000000 in
set_option maxRecDepth 100000 in
theorem r_isDown_span (l : Launch) (dC : Nat → ClassId) (dI : Nat → Nat → Nat) (sz : Nat) (q : Nat) (fs : List Value) (L_fs : fs.length = 163) (K54_fs : fs[54]? = some (.int 0)) (K92_fs : fs[92]? = some (.null)) : Met l yX15_isDown (Cond.code yX15_isDown cX15_isDown 1 (some .boolean) :: tb) ({ frames := 0, cells := 0, slots := 0, locals := 0 }) (pcw [.ref q] (dC, dI) [(q, .inr (15, fs))] [] sz) (va_Qi (fun (r : Int32) => (fun (fs1 : List Value) => (r = 0) ∧ (fs1.length = 163) ∧ (fs1[51]? = some (.int 0)) ∧ (fs1[54]? = some (.int 0)) ∧ (fs1[92]? = some (.null)))) (bw (dC, dI) (va_A [(q, .inr (15, fs))] sz) (fun (fs1 : List Value) => [(q, .inr (15, fs1))]) (fun (fs1 : List Value) => [])) (va_A [(q, .inr (15, fs))] sz)) 0 0 (va_A [(q, .inr (15, fs))] sz) := by
  refine Met.ofW (cc := cX15_isDown) (maxL := 1) (ret := (some .boolean)) (by decide) rfl ?_
  intro p e s m args below meth c s₁ B hml hv
  obtain ⟨rfl, hsz, hP, hK, hD0⟩ := hv
  have hx := B.exec
  have hb := B.bytes
  have hr := B.returns
  have hts := atoms_spec (ws := Cond.code yX15_isDown cX15_isDown 1 (some .boolean) :: tb) B.pre
  have ht : ∀ w ∈ tb, w.before _ s = true := fun w h => hts w (List.mem_cons_of_mem _ h)
  have hown : s.vm.findClass RX15 = some m.cls := findClass_of_methodNamed B.named
  have hlocks := B.notSynchronized
  subst hsz
  have hD := hD0.self (sz := s.heap.size)
  generalize hAe : va_A [(q, .inr (15, fs))] s.heap.size = A at hD ⊢
  have hA : ∀ q : Nat, s.heap.size ≤ q → A q := fun q h => by rw [← hAe]; exact Or.inr h
  have hS : va_S A s.heap s.heap [] := va_S.rf
  have hl := lv_entry ([.ref q]) (n := 1) (Nat.le_of_ble_eq_true rfl)
  rw [lg_entry_eq]
  generalize (lg_sl ([.ref q]) ++ List.replicate (1 - (lg_sl ([.ref q])).length) Slot.unset).toArray = ls at hl ⊢
  have hl : lv_has ls 1 [(0, .ref q)] := hl
  have hP : va_P (dC, dI) cls [(q, .inr (15, fs))] s.heap := hP
  refine lv_aload_n hx hb dX15_isDown_0 rfl (lv_at hl 0 rfl) ?_
  refine lv_iconst (v := 0) hx hb dX15_isDown_1 (by decide) ?_
  refine va_put (D := (dC, dI)) (ci := 15) (v := .int 0) (ty := .int) (C := RX15) (T := TX15) (N := 163) hx hb ht uX15 tyX15 tkX15 nmX15 hown hK hP hD hS 0 rfl rfl 51 (by decide) (ht _ k_10_239) (fun _ h9 => h9) rfl (by decide +kernel) rfl rfl (by rw [L_fs]; decide) dX15_isDown_2 (fun H locs hP hD hS => ?_)
  obtain ⟨F1, eF1⟩ : ∃ g : List Value, g = fs.set 51 (.int 0) := ⟨_, rfl⟩
  rw [← eF1] at hP hD
  have K54_F1 : F1[54]? = some (.int 0) := by rw [eF1, List.getElem?_set_ne (by decide)]; exact K54_fs
  have K92_F1 : F1[92]? = some (.null) := by rw [eF1, List.getElem?_set_ne (by decide)]; exact K92_fs
  have K51_F1 : F1[51]? = some (.int 0) := by rw [eF1]; exact List.getElem?_set_self (by rw [L_fs]; decide)
  have L_F1 : F1.length = 163 := by rw [eF1, List.length_set]; exact L_fs
  have hP : va_P (dC, dI) cls [(q, .inr (15, F1))] H := hP
  have hD : va_D A [(q, .inr (15, F1))] := hD
  refine lv_aload_n hx hb dX15_isDown_5 rfl (lv_at hl 0 rfl) ?_
  refine va_get (D := (dC, dI)) (ci := 15) (v := .int 0) (C := RX15) (T := TX15) (N := 163) hx hb ht uX15 hown hK hP 0 rfl rfl 54 (by decide) (ht _ k_11_2) (fun _ h9 => h9) K54_F1 dX15_isDown_6 ?_
  exact W.zret (v := 0) hx hb hr rfl (fun t ht9 hW => ⟨⟨0, (F1), rfl, ⟨rfl, L_F1, K51_F1, K54_F1, K92_F1⟩, by rw [ht9]; exact hP.sub [0] rfl, va_K.moved hW.alike (hK.sub [] rfl), hD.sub [0] (by decide) rfl⟩, hS.F ht9⟩) hS.2.2 dX15_isDown_9
set_option maxHeartbeats 4000000 in
set_option maxRecDepth 100000 in
theorem r_span (l : Launch) (dC : Nat → ClassId) (dI : Nat → Nat → Nat) (sz : Nat) (q : Nat) (fs : List Value) (p0 : Int32) (p1 : Int32) (L_fs : fs.length = 163) (K54_fs : fs[54]? = some (.int 0)) (K92_fs : fs[92]? = some (.null)) : Met l yX15_span (Cond.code yX15_span cX15_span 4 (some .int) :: tb) ({ frames := 1, cells := 0, slots := 0, locals := 20 }) (pcw [.ref q, .int p0, .int p1] (dC, dI) [(q, .inr (15, fs))] [] sz) (va_Qi (fun (r : Int32) => (fun (_ : Unit) => r = -2)) (bw (dC, dI) (va_A [(q, .inr (15, fs))] sz) (fun (_ : Unit) => []) (fun (_ : Unit) => [])) (va_A [(q, .inr (15, fs))] sz)) 0 0 (va_A [(q, .inr (15, fs))] sz) := by
  refine Met.ofW (cc := cX15_span) (maxL := 4) (ret := (some .int)) (by decide) rfl ?_
  intro p e s m args below meth c s₁ B hml hv
  obtain ⟨rfl, hsz, hP, hK, hD0⟩ := hv
  have hx := B.exec
  have hb := B.bytes
  have hr := B.returns
  have hts := atoms_spec (ws := Cond.code yX15_span cX15_span 4 (some .int) :: tb) B.pre
  have ht : ∀ w ∈ tb, w.before _ s = true := fun w h => hts w (List.mem_cons_of_mem _ h)
  have hown : s.vm.findClass RX15 = some m.cls := findClass_of_methodNamed B.named
  have hlocks := B.notSynchronized
  subst hsz
  have hD := hD0.self (sz := s.heap.size)
  generalize hAe : va_A [(q, .inr (15, fs))] s.heap.size = A at hD ⊢
  have hA : ∀ q : Nat, s.heap.size ≤ q → A q := fun q h => by rw [← hAe]; exact Or.inr h
  have hS : va_S A s.heap s.heap [] := va_S.rf
  have hl := lv_entry ([.ref q, .int p0, .int p1]) (n := 4) (Nat.le_of_ble_eq_true rfl)
  rw [lg_entry_eq]
  generalize (lg_sl ([.ref q, .int p0, .int p1]) ++ List.replicate (4 - (lg_sl ([.ref q, .int p0, .int p1])).length) Slot.unset).toArray = ls at hl ⊢
  have hl : lv_has ls 4 [(0, .ref q), (1, .int p0), (2, .int p1)] := hl
  have hP : va_P (dC, dI) cls [(q, .inr (15, fs))] s.heap := hP
  refine lv_aload_n hx hb dX15_span_0 rfl (lv_at hl 0 rfl) ?_
  refine ca_i (wr := []) (va_runV (As := []) (rest := []) ⟨hx, hb, hml, hown, ht⟩ (r_isDown_runs l dC dI s.heap.size q fs L_fs K54_fs K92_fs ) (cwV 0 ht (gdV k_12_228 k_12_225 k_12_227 ks_112 k_1_17) rfl rfl rfl (by decide +kernel) ⟨Nat.le_of_ble_eq_true rfl, Nat.le_of_ble_eq_true rfl⟩) ⟨pcw_blind, va_recv hK hP (ci := 15) (q0 := 0) rfl rfl, pcw_at hP hD hK [0] [] (by decide) rfl rfl rfl⟩ rfl rfl hl.1 rfl (lv_room (Nat.le_of_ble_eq_true rfl)) dX15_span_1 ⟨Nat.le_of_ble_eq_true rfl, Nat.le_of_ble_eq_true rfl⟩) hP hD hK hS hA [0] [] rfl rfl (by decide) (by decide) (fun r1 u H locs w2 hK hP hD hS => ?_)
  obtain ⟨F3, rfl⟩ : ∃ z, z = u := ⟨_, rfl⟩
  have hK : va_K (dC, dI) cls [] s := hK
  have hP : va_P (dC, dI) cls [(q, .inr (15, F3))] H := hP
  have hD : va_D A [(q, .inr (15, F3))] := hD
  obtain ⟨w2, K4, K5, K6, K7⟩ := w2
  obtain rfl : r1 = 0 := w2
  refine lv_if_eq (tgt := 10) hx hb dX15_span_4 (by decide) (fun _ => ?_) (fun c0 => absurd c0 (by decide))
  refine lv_aload_n hx hb dX15_span_10 rfl (lv_at hl 0 rfl) ?_
  refine va_get (D := (dC, dI)) (ci := 15) (v := .null) (C := RX15) (T := TX15) (N := 163) hx hb ht uX15 hown hK hP 0 rfl rfl 92 (by decide) (ht _ k_11_40) (fun _ h9 => h9) K7 dX15_span_11 ?_
  refine lv_ifnonnullN hx hb dX15_span_14 ?_
  refine lv_bipush (v := (-2)) hx hb dX15_span_17 (by decide) ?_
  exact W.iret (v := (-2)) hx hb hr (fun t ht9 hW => ⟨⟨(-2), (), rfl, rfl, by rw [ht9]; exact hP.sub [] rfl, va_K.moved hW.alike (hK.sub [] rfl), hD.sub [] (by decide) rfl⟩, hS.F ht9⟩) hS.2.2 dX15_span_19
set_option maxHeartbeats 4000000 in
set_option maxRecDepth 100000 in
theorem r_isDown_clear (l : Launch) (dC : Nat → ClassId) (dI : Nat → Nat → Nat) (sz : Nat) (q : Nat) (fs : List Value) (L_fs : fs.length = 163) (K54_fs : fs[54]? = some (.int 0)) (K109_fs : fs[109]? = some (.int 0)) : Met l yX15_isDown (Cond.code yX15_isDown cX15_isDown 1 (some .boolean) :: tb) ({ frames := 0, cells := 0, slots := 0, locals := 0 }) (pcw [.ref q] (dC, dI) [(q, .inr (15, fs))] [] sz) (va_Qi (fun (r : Int32) => (fun (fs1 : List Value) => (r = 0) ∧ (fs1.length = 163) ∧ (fs1[51]? = some (.int 0)) ∧ (fs1[54]? = some (.int 0)) ∧ (fs1[109]? = some (.int 0)))) (bw (dC, dI) (va_A [(q, .inr (15, fs))] sz) (fun (fs1 : List Value) => [(q, .inr (15, fs1))]) (fun (fs1 : List Value) => [])) (va_A [(q, .inr (15, fs))] sz)) 0 0 (va_A [(q, .inr (15, fs))] sz) := by
  refine Met.ofW (cc := cX15_isDown) (maxL := 1) (ret := (some .boolean)) (by decide) rfl ?_
  intro p e s m args below meth c s₁ B hml hv
  obtain ⟨rfl, hsz, hP, hK, hD0⟩ := hv
  have hx := B.exec
  have hb := B.bytes
  have hr := B.returns
  have hts := atoms_spec (ws := Cond.code yX15_isDown cX15_isDown 1 (some .boolean) :: tb) B.pre
  have ht : ∀ w ∈ tb, w.before _ s = true := fun w h => hts w (List.mem_cons_of_mem _ h)
  have hown : s.vm.findClass RX15 = some m.cls := findClass_of_methodNamed B.named
  have hlocks := B.notSynchronized
  subst hsz
  have hD := hD0.self (sz := s.heap.size)
  generalize hAe : va_A [(q, .inr (15, fs))] s.heap.size = A at hD ⊢
  have hA : ∀ q : Nat, s.heap.size ≤ q → A q := fun q h => by rw [← hAe]; exact Or.inr h
  have hS : va_S A s.heap s.heap [] := va_S.rf
  have hl := lv_entry ([.ref q]) (n := 1) (Nat.le_of_ble_eq_true rfl)
  rw [lg_entry_eq]
  generalize (lg_sl ([.ref q]) ++ List.replicate (1 - (lg_sl ([.ref q])).length) Slot.unset).toArray = ls at hl ⊢
  have hl : lv_has ls 1 [(0, .ref q)] := hl
  have hP : va_P (dC, dI) cls [(q, .inr (15, fs))] s.heap := hP
  refine lv_aload_n hx hb dX15_isDown_0 rfl (lv_at hl 0 rfl) ?_
  refine lv_iconst (v := 0) hx hb dX15_isDown_1 (by decide) ?_
  refine va_put (D := (dC, dI)) (ci := 15) (v := .int 0) (ty := .int) (C := RX15) (T := TX15) (N := 163) hx hb ht uX15 tyX15 tkX15 nmX15 hown hK hP hD hS 0 rfl rfl 51 (by decide) (ht _ k_10_239) (fun _ h9 => h9) rfl (by decide +kernel) rfl rfl (by rw [L_fs]; decide) dX15_isDown_2 (fun H locs hP hD hS => ?_)
  obtain ⟨F1, eF1⟩ : ∃ g : List Value, g = fs.set 51 (.int 0) := ⟨_, rfl⟩
  rw [← eF1] at hP hD
  have K54_F1 : F1[54]? = some (.int 0) := by rw [eF1, List.getElem?_set_ne (by decide)]; exact K54_fs
  have K109_F1 : F1[109]? = some (.int 0) := by rw [eF1, List.getElem?_set_ne (by decide)]; exact K109_fs
  have K51_F1 : F1[51]? = some (.int 0) := by rw [eF1]; exact List.getElem?_set_self (by rw [L_fs]; decide)
  have L_F1 : F1.length = 163 := by rw [eF1, List.length_set]; exact L_fs
  have hP : va_P (dC, dI) cls [(q, .inr (15, F1))] H := hP
  have hD : va_D A [(q, .inr (15, F1))] := hD
  refine lv_aload_n hx hb dX15_isDown_5 rfl (lv_at hl 0 rfl) ?_
  refine va_get (D := (dC, dI)) (ci := 15) (v := .int 0) (C := RX15) (T := TX15) (N := 163) hx hb ht uX15 hown hK hP 0 rfl rfl 54 (by decide) (ht _ k_11_2) (fun _ h9 => h9) K54_F1 dX15_isDown_6 ?_
  exact W.zret (v := 0) hx hb hr rfl (fun t ht9 hW => ⟨⟨0, (F1), rfl, ⟨rfl, L_F1, K51_F1, K54_F1, K109_F1⟩, by rw [ht9]; exact hP.sub [0] rfl, va_K.moved hW.alike (hK.sub [] rfl), hD.sub [0] (by decide) rfl⟩, hS.F ht9⟩) hS.2.2 dX15_isDown_9
set_option maxHeartbeats 4000000 in
set_option maxRecDepth 100000 in
theorem r_clear (l : Launch) (dC : Nat → ClassId) (dI : Nat → Nat → Nat) (sz : Nat) (q : Nat) (fs : List Value) (L_fs : fs.length = 163) (K54_fs : fs[54]? = some (.int 0)) (K109_fs : fs[109]? = some (.int 0)) : Met l yX15_clear (Cond.code yX15_clear cX15_clear 2 (some .int) :: tb) ({ frames := 1, cells := 0, slots := 0, locals := 20 }) (pcw [.ref q] (dC, dI) [(q, .inr (15, fs))] [] sz) (va_Qi (fun (r : Int32) => (fun (_ : Unit) => r = 0)) (bw (dC, dI) (va_A [(q, .inr (15, fs))] sz) (fun (_ : Unit) => []) (fun (_ : Unit) => [])) (va_A [(q, .inr (15, fs))] sz)) 0 0 (va_A [(q, .inr (15, fs))] sz) := by
  refine Met.ofW (cc := cX15_clear) (maxL := 2) (ret := (some .int)) (by decide) rfl ?_
  intro p e s m args below meth c s₁ B hml hv
  obtain ⟨rfl, hsz, hP, hK, hD0⟩ := hv
  have hx := B.exec
  have hb := B.bytes
  have hr := B.returns
  have hts := atoms_spec (ws := Cond.code yX15_clear cX15_clear 2 (some .int) :: tb) B.pre
  have ht : ∀ w ∈ tb, w.before _ s = true := fun w h => hts w (List.mem_cons_of_mem _ h)
  have hown : s.vm.findClass RX15 = some m.cls := findClass_of_methodNamed B.named
  have hlocks := B.notSynchronized
  subst hsz
  have hD := hD0.self (sz := s.heap.size)
  generalize hAe : va_A [(q, .inr (15, fs))] s.heap.size = A at hD ⊢
  have hA : ∀ q : Nat, s.heap.size ≤ q → A q := fun q h => by rw [← hAe]; exact Or.inr h
  have hS : va_S A s.heap s.heap [] := va_S.rf
  have hl := lv_entry ([.ref q]) (n := 2) (Nat.le_of_ble_eq_true rfl)
  rw [lg_entry_eq]
  generalize (lg_sl ([.ref q]) ++ List.replicate (2 - (lg_sl ([.ref q])).length) Slot.unset).toArray = ls at hl ⊢
  have hl : lv_has ls 2 [(0, .ref q)] := hl
  have hP : va_P (dC, dI) cls [(q, .inr (15, fs))] s.heap := hP
  refine lv_aload_n hx hb dX15_clear_0 rfl (lv_at hl 0 rfl) ?_
  refine ca_i (wr := []) (va_runV (As := []) (rest := []) ⟨hx, hb, hml, hown, ht⟩ (r_isDown_clear l dC dI s.heap.size q fs L_fs K54_fs K109_fs ) (cwV 0 ht (gdV k_12_228 k_12_225 k_12_227 ks_112 k_1_17) rfl rfl rfl (by decide +kernel) ⟨Nat.le_of_ble_eq_true rfl, Nat.le_of_ble_eq_true rfl⟩) ⟨pcw_blind, va_recv hK hP (ci := 15) (q0 := 0) rfl rfl, pcw_at hP hD hK [0] [] (by decide) rfl rfl rfl⟩ rfl rfl hl.1 rfl (lv_room (Nat.le_of_ble_eq_true rfl)) dX15_clear_1 ⟨Nat.le_of_ble_eq_true rfl, Nat.le_of_ble_eq_true rfl⟩) hP hD hK hS hA [0] [] rfl rfl (by decide) (by decide) (fun r1 u H locs w2 hK hP hD hS => ?_)
  obtain ⟨F3, rfl⟩ : ∃ z, z = u := ⟨_, rfl⟩
  have hK : va_K (dC, dI) cls [] s := hK
  have hP : va_P (dC, dI) cls [(q, .inr (15, F3))] H := hP
  have hD : va_D A [(q, .inr (15, F3))] := hD
  obtain ⟨w2, K4, K5, K6, K7⟩ := w2
  obtain rfl : r1 = 0 := w2
  refine lv_if_eq (tgt := 10) hx hb dX15_clear_4 (by decide) (fun _ => ?_) (fun c0 => absurd c0 (by decide))
  refine lv_aload_n hx hb dX15_clear_10 rfl (lv_at hl 0 rfl) ?_
  refine va_get (D := (dC, dI)) (ci := 15) (v := .int 0) (C := RX15) (T := TX15) (N := 163) hx hb ht uX15 hown hK hP 0 rfl rfl 109 (by decide) (ht _ k_11_57) (fun _ h9 => h9) K7 dX15_clear_11 ?_
  refine lv_istore_n (lv' := [(1, .int 0), (0, .ref q)]) hx hb dX15_clear_14 rfl hl (by decide) rfl (fun ls hl => ?_)
  refine lv_iload_n hx hb dX15_clear_15 rfl (lv_at hl 0 rfl) ?_
  refine lv_if_le (tgt := 30) hx hb dX15_clear_16 (by decide) (fun _ => ?_) (fun c0 => absurd c0 (by decide))
  refine lv_iload_n hx hb dX15_clear_30 rfl (lv_at hl 0 rfl) ?_
  refine lv_if_le (tgt := 46) hx hb dX15_clear_31 (by decide) (fun _ => ?_) (fun c0 => absurd c0 (by decide))
  refine lv_aload_n hx hb dX15_clear_46 rfl (lv_at hl 1 rfl) ?_
  refine lv_iconst (v := 0) hx hb dX15_clear_47 (by decide) ?_
  refine va_put (D := (dC, dI)) (ci := 15) (v := .int 0) (ty := .int) (C := RX15) (T := TX15) (N := 163) hx hb ht uX15 tyX15 tkX15 nmX15 hown hK hP hD hS 0 rfl rfl 109 (by decide) (ht _ k_11_57) (fun _ h9 => h9) rfl (by decide +kernel) rfl rfl (by rw [K4]; decide) dX15_clear_48 (fun H locs hP hD hS => ?_)
  obtain ⟨F8, eF8⟩ : ∃ g : List Value, g = F3.set 109 (.int 0) := ⟨_, rfl⟩
  rw [← eF8] at hP hD
  have K51_F8 : F8[51]? = some (.int 0) := by rw [eF8, List.getElem?_set_ne (by decide)]; exact K5
  have K54_F8 : F8[54]? = some (.int 0) := by rw [eF8, List.getElem?_set_ne (by decide)]; exact K6
  have K109_F8 : F8[109]? = some (.int 0) := by rw [eF8]; exact List.getElem?_set_self (by rw [K4]; decide)
  have L_F8 : F8.length = 163 := by rw [eF8, List.length_set]; exact K4
  have hP : va_P (dC, dI) cls [(q, .inr (15, F8))] H := hP
  have hD : va_D A [(q, .inr (15, F8))] := hD
  refine lv_iload_n hx hb dX15_clear_51 rfl (lv_at hl 0 rfl) ?_
  exact W.iret (v := 0) hx hb hr (fun t ht9 hW => ⟨⟨0, (), rfl, rfl, by rw [ht9]; exact hP.sub [] rfl, va_K.moved hW.alike (hK.sub [] rfl), hD.sub [] (by decide) rfl⟩, hS.F ht9⟩) hS.2.2 dX15_clear_52
set_option maxHeartbeats 4000000 in
set_option maxRecDepth 100000 in
theorem r_isDown_fit (l : Launch) (dC : Nat → ClassId) (dI : Nat → Nat → Nat) (sz : Nat) (q : Nat) (fs : List Value) (L_fs : fs.length = 163) (K54_fs : fs[54]? = some (.int 0)) (K109_fs : fs[109]? = some (.int 0)) : Met l yX15_isDown (Cond.code yX15_isDown cX15_isDown 1 (some .boolean) :: tb) ({ frames := 0, cells := 0, slots := 0, locals := 0 }) (pcw [.ref q] (dC, dI) [(q, .inr (15, fs))] [] sz) (va_Qi (fun (r : Int32) => (fun (fs1 : List Value) => (r = 0) ∧ (fs1.length = 163) ∧ (fs1[51]? = some (.int 0)) ∧ (fs1[54]? = some (.int 0)) ∧ (fs1[109]? = some (.int 0)))) (bw (dC, dI) (va_A [(q, .inr (15, fs))] sz) (fun (fs1 : List Value) => [(q, .inr (15, fs1))]) (fun (fs1 : List Value) => [])) (va_A [(q, .inr (15, fs))] sz)) 0 0 (va_A [(q, .inr (15, fs))] sz) := by
  refine Met.ofW (cc := cX15_isDown) (maxL := 1) (ret := (some .boolean)) (by decide) rfl ?_
  intro p e s m args below meth c s₁ B hml hv
  obtain ⟨rfl, hsz, hP, hK, hD0⟩ := hv
  have hx := B.exec
  have hb := B.bytes
  have hr := B.returns
  have hts := atoms_spec (ws := Cond.code yX15_isDown cX15_isDown 1 (some .boolean) :: tb) B.pre
  have ht : ∀ w ∈ tb, w.before _ s = true := fun w h => hts w (List.mem_cons_of_mem _ h)
  have hown : s.vm.findClass RX15 = some m.cls := findClass_of_methodNamed B.named
  have hlocks := B.notSynchronized
  subst hsz
  have hD := hD0.self (sz := s.heap.size)
  generalize hAe : va_A [(q, .inr (15, fs))] s.heap.size = A at hD ⊢
  have hA : ∀ q : Nat, s.heap.size ≤ q → A q := fun q h => by rw [← hAe]; exact Or.inr h
  have hS : va_S A s.heap s.heap [] := va_S.rf
  have hl := lv_entry ([.ref q]) (n := 1) (Nat.le_of_ble_eq_true rfl)
  rw [lg_entry_eq]
  generalize (lg_sl ([.ref q]) ++ List.replicate (1 - (lg_sl ([.ref q])).length) Slot.unset).toArray = ls at hl ⊢
  have hl : lv_has ls 1 [(0, .ref q)] := hl
  have hP : va_P (dC, dI) cls [(q, .inr (15, fs))] s.heap := hP
  refine lv_aload_n hx hb dX15_isDown_0 rfl (lv_at hl 0 rfl) ?_
  refine lv_iconst (v := 0) hx hb dX15_isDown_1 (by decide) ?_
  refine va_put (D := (dC, dI)) (ci := 15) (v := .int 0) (ty := .int) (C := RX15) (T := TX15) (N := 163) hx hb ht uX15 tyX15 tkX15 nmX15 hown hK hP hD hS 0 rfl rfl 51 (by decide) (ht _ k_10_239) (fun _ h9 => h9) rfl (by decide +kernel) rfl rfl (by rw [L_fs]; decide) dX15_isDown_2 (fun H locs hP hD hS => ?_)
  obtain ⟨F1, eF1⟩ : ∃ g : List Value, g = fs.set 51 (.int 0) := ⟨_, rfl⟩
  rw [← eF1] at hP hD
  have K54_F1 : F1[54]? = some (.int 0) := by rw [eF1, List.getElem?_set_ne (by decide)]; exact K54_fs
  have K109_F1 : F1[109]? = some (.int 0) := by rw [eF1, List.getElem?_set_ne (by decide)]; exact K109_fs
  have K51_F1 : F1[51]? = some (.int 0) := by rw [eF1]; exact List.getElem?_set_self (by rw [L_fs]; decide)
  have L_F1 : F1.length = 163 := by rw [eF1, List.length_set]; exact L_fs
  have hP : va_P (dC, dI) cls [(q, .inr (15, F1))] H := hP
  have hD : va_D A [(q, .inr (15, F1))] := hD
  refine lv_aload_n hx hb dX15_isDown_5 rfl (lv_at hl 0 rfl) ?_
  refine va_get (D := (dC, dI)) (ci := 15) (v := .int 0) (C := RX15) (T := TX15) (N := 163) hx hb ht uX15 hown hK hP 0 rfl rfl 54 (by decide) (ht _ k_11_2) (fun _ h9 => h9) K54_F1 dX15_isDown_6 ?_
  exact W.zret (v := 0) hx hb hr rfl (fun t ht9 hW => ⟨⟨0, (F1), rfl, ⟨rfl, L_F1, K51_F1, K54_F1, K109_F1⟩, by rw [ht9]; exact hP.sub [0] rfl, va_K.moved hW.alike (hK.sub [] rfl), hD.sub [0] (by decide) rfl⟩, hS.F ht9⟩) hS.2.2 dX15_isDown_9
set_option maxHeartbeats 4000000 in
set_option maxRecDepth 100000 in
theorem r_fit (l : Launch) (dC : Nat → ClassId) (dI : Nat → Nat → Nat) (sz : Nat) (q : Nat) (fs : List Value) (L_fs : fs.length = 163) (K54_fs : fs[54]? = some (.int 0)) (K109_fs : fs[109]? = some (.int 0)) : Met l yX15_fit (Cond.code yX15_fit cX15_fit 5 (some .int) :: tb) ({ frames := 1, cells := 0, slots := 0, locals := 20 }) (pcw [.ref q] (dC, dI) [(q, .inr (15, fs))] [] sz) (va_Qi (fun (r : Int32) => (fun (_ : Unit) => r = -2)) (bw (dC, dI) (va_A [(q, .inr (15, fs))] sz) (fun (_ : Unit) => []) (fun (_ : Unit) => [])) (va_A [(q, .inr (15, fs))] sz)) 0 0 (va_A [(q, .inr (15, fs))] sz) := by
  refine Met.ofW (cc := cX15_fit) (maxL := 5) (ret := (some .int)) (by decide) rfl ?_
  intro p e s m args below meth c s₁ B hml hv
  obtain ⟨rfl, hsz, hP, hK, hD0⟩ := hv
  have hx := B.exec
  have hb := B.bytes
  have hr := B.returns
  have hts := atoms_spec (ws := Cond.code yX15_fit cX15_fit 5 (some .int) :: tb) B.pre
  have ht : ∀ w ∈ tb, w.before _ s = true := fun w h => hts w (List.mem_cons_of_mem _ h)
  have hown : s.vm.findClass RX15 = some m.cls := findClass_of_methodNamed B.named
  have hlocks := B.notSynchronized
  subst hsz
  have hD := hD0.self (sz := s.heap.size)
  generalize hAe : va_A [(q, .inr (15, fs))] s.heap.size = A at hD ⊢
  have hA : ∀ q : Nat, s.heap.size ≤ q → A q := fun q h => by rw [← hAe]; exact Or.inr h
  have hS : va_S A s.heap s.heap [] := va_S.rf
  have hl := lv_entry ([.ref q]) (n := 5) (Nat.le_of_ble_eq_true rfl)
  rw [lg_entry_eq]
  generalize (lg_sl ([.ref q]) ++ List.replicate (5 - (lg_sl ([.ref q])).length) Slot.unset).toArray = ls at hl ⊢
  have hl : lv_has ls 5 [(0, .ref q)] := hl
  have hP : va_P (dC, dI) cls [(q, .inr (15, fs))] s.heap := hP
  refine lv_aload_n hx hb dX15_fit_0 rfl (lv_at hl 0 rfl) ?_
  refine ca_i (wr := []) (va_runV (As := []) (rest := []) ⟨hx, hb, hml, hown, ht⟩ (r_isDown_clear l dC dI s.heap.size q fs L_fs K54_fs K109_fs ) (cwV 0 ht (gdV k_12_228 k_12_225 k_12_227 ks_112 k_1_17) rfl rfl rfl (by decide +kernel) ⟨Nat.le_of_ble_eq_true rfl, Nat.le_of_ble_eq_true rfl⟩) ⟨pcw_blind, va_recv hK hP (ci := 15) (q0 := 0) rfl rfl, pcw_at hP hD hK [0] [] (by decide) rfl rfl rfl⟩ rfl rfl hl.1 rfl (lv_room (Nat.le_of_ble_eq_true rfl)) dX15_fit_1 ⟨Nat.le_of_ble_eq_true rfl, Nat.le_of_ble_eq_true rfl⟩) hP hD hK hS hA [0] [] rfl rfl (by decide) (by decide) (fun r1 u H locs w2 hK hP hD hS => ?_)
  obtain ⟨F3, rfl⟩ : ∃ z, z = u := ⟨_, rfl⟩
  have hK : va_K (dC, dI) cls [] s := hK
  have hP : va_P (dC, dI) cls [(q, .inr (15, F3))] H := hP
  have hD : va_D A [(q, .inr (15, F3))] := hD
  obtain ⟨w2, K4, K5, K6, K7⟩ := w2
  obtain rfl : r1 = 0 := w2
  refine lv_if_eq (tgt := 10) hx hb dX15_fit_4 (by decide) (fun _ => ?_) (fun c0 => absurd c0 (by decide))
  refine lv_aload_n hx hb dX15_fit_10 rfl (lv_at hl 0 rfl) ?_
  refine va_get (D := (dC, dI)) (ci := 15) (v := .int 0) (C := RX15) (T := TX15) (N := 163) hx hb ht uX15 hown hK hP 0 rfl rfl 109 (by decide) (ht _ k_11_57) (fun _ h9 => h9) K7 dX15_fit_11 ?_
  refine lv_if_ne (tgt := 20) hx hb dX15_fit_14 (by decide) (fun c0 => absurd c0 (by decide)) (fun _ => ?_)
  refine lv_bipush (v := (-2)) hx hb dX15_fit_17 (by decide) ?_
  exact W.iret (v := (-2)) hx hb hr (fun t ht9 hW => ⟨⟨(-2), (), rfl, rfl, by rw [ht9]; exact hP.sub [] rfl, va_K.moved hW.alike (hK.sub [] rfl), hD.sub [] (by decide) rfl⟩, hS.F ht9⟩) hS.2.2 dX15_fit_19
set_option maxHeartbeats 4000000 in
set_option maxRecDepth 100000 in
theorem r_isDown_fitting (l : Launch) (dC : Nat → ClassId) (dI : Nat → Nat → Nat) (sz : Nat) (q : Nat) (fs : List Value) (L_fs : fs.length = 163) (K54_fs : fs[54]? = some (.int 0)) (K109_fs : fs[109]? = some (.int 0)) : Met l yX15_isDown (Cond.code yX15_isDown cX15_isDown 1 (some .boolean) :: tb) ({ frames := 0, cells := 0, slots := 0, locals := 0 }) (pcw [.ref q] (dC, dI) [(q, .inr (15, fs))] [] sz) (va_Qi (fun (r : Int32) => (fun (fs1 : List Value) => (r = 0) ∧ (fs1.length = 163) ∧ (fs1[51]? = some (.int 0)) ∧ (fs1[54]? = some (.int 0)) ∧ (fs1[109]? = some (.int 0)))) (bw (dC, dI) (va_A [(q, .inr (15, fs))] sz) (fun (fs1 : List Value) => [(q, .inr (15, fs1))]) (fun (fs1 : List Value) => [])) (va_A [(q, .inr (15, fs))] sz)) 0 0 (va_A [(q, .inr (15, fs))] sz) := by
  refine Met.ofW (cc := cX15_isDown) (maxL := 1) (ret := (some .boolean)) (by decide) rfl ?_
  intro p e s m args below meth c s₁ B hml hv
  obtain ⟨rfl, hsz, hP, hK, hD0⟩ := hv
  have hx := B.exec
  have hb := B.bytes
  have hr := B.returns
  have hts := atoms_spec (ws := Cond.code yX15_isDown cX15_isDown 1 (some .boolean) :: tb) B.pre
  have ht : ∀ w ∈ tb, w.before _ s = true := fun w h => hts w (List.mem_cons_of_mem _ h)
  have hown : s.vm.findClass RX15 = some m.cls := findClass_of_methodNamed B.named
  have hlocks := B.notSynchronized
  subst hsz
  have hD := hD0.self (sz := s.heap.size)
  generalize hAe : va_A [(q, .inr (15, fs))] s.heap.size = A at hD ⊢
  have hA : ∀ q : Nat, s.heap.size ≤ q → A q := fun q h => by rw [← hAe]; exact Or.inr h
  have hS : va_S A s.heap s.heap [] := va_S.rf
  have hl := lv_entry ([.ref q]) (n := 1) (Nat.le_of_ble_eq_true rfl)
  rw [lg_entry_eq]
  generalize (lg_sl ([.ref q]) ++ List.replicate (1 - (lg_sl ([.ref q])).length) Slot.unset).toArray = ls at hl ⊢
  have hl : lv_has ls 1 [(0, .ref q)] := hl
  have hP : va_P (dC, dI) cls [(q, .inr (15, fs))] s.heap := hP
  refine lv_aload_n hx hb dX15_isDown_0 rfl (lv_at hl 0 rfl) ?_
  refine lv_iconst (v := 0) hx hb dX15_isDown_1 (by decide) ?_
  refine va_put (D := (dC, dI)) (ci := 15) (v := .int 0) (ty := .int) (C := RX15) (T := TX15) (N := 163) hx hb ht uX15 tyX15 tkX15 nmX15 hown hK hP hD hS 0 rfl rfl 51 (by decide) (ht _ k_10_239) (fun _ h9 => h9) rfl (by decide +kernel) rfl rfl (by rw [L_fs]; decide) dX15_isDown_2 (fun H locs hP hD hS => ?_)
  obtain ⟨F1, eF1⟩ : ∃ g : List Value, g = fs.set 51 (.int 0) := ⟨_, rfl⟩
  rw [← eF1] at hP hD
  have K54_F1 : F1[54]? = some (.int 0) := by rw [eF1, List.getElem?_set_ne (by decide)]; exact K54_fs
  have K109_F1 : F1[109]? = some (.int 0) := by rw [eF1, List.getElem?_set_ne (by decide)]; exact K109_fs
  have K51_F1 : F1[51]? = some (.int 0) := by rw [eF1]; exact List.getElem?_set_self (by rw [L_fs]; decide)
  have L_F1 : F1.length = 163 := by rw [eF1, List.length_set]; exact L_fs
  have hP : va_P (dC, dI) cls [(q, .inr (15, F1))] H := hP
  have hD : va_D A [(q, .inr (15, F1))] := hD
  refine lv_aload_n hx hb dX15_isDown_5 rfl (lv_at hl 0 rfl) ?_
  refine va_get (D := (dC, dI)) (ci := 15) (v := .int 0) (C := RX15) (T := TX15) (N := 163) hx hb ht uX15 hown hK hP 0 rfl rfl 54 (by decide) (ht _ k_11_2) (fun _ h9 => h9) K54_F1 dX15_isDown_6 ?_
  exact W.zret (v := 0) hx hb hr rfl (fun t ht9 hW => ⟨⟨0, (F1), rfl, ⟨rfl, L_F1, K51_F1, K54_F1, K109_F1⟩, by rw [ht9]; exact hP.sub [0] rfl, va_K.moved hW.alike (hK.sub [] rfl), hD.sub [0] (by decide) rfl⟩, hS.F ht9⟩) hS.2.2 dX15_isDown_9
set_option maxHeartbeats 4000000 in
set_option maxRecDepth 100000 in
theorem r_fitting (l : Launch) (dC : Nat → ClassId) (dI : Nat → Nat → Nat) (sz : Nat) (q : Nat) (fs : List Value) (p0 : Int32) (L_fs : fs.length = 163) (K54_fs : fs[54]? = some (.int 0)) (K109_fs : fs[109]? = some (.int 0)) : Met l yX15_fitting (Cond.code yX15_fitting cX15_fitting 2 (some .long) :: tb) ({ frames := 1, cells := 0, slots := 0, locals := 25 }) (pcw [.ref q, .int p0] (dC, dI) [(q, .inr (15, fs))] [] sz) (va_Ql (fun (r : Int64) => (fun (_ : Unit) => r = sp_fitting p0)) (bw (dC, dI) (va_A [(q, .inr (15, fs))] sz) (fun (_ : Unit) => []) (fun (_ : Unit) => [])) (va_A [(q, .inr (15, fs))] sz)) 0 0 (va_A [(q, .inr (15, fs))] sz) := by
  refine Met.ofW (cc := cX15_fitting) (maxL := 2) (ret := (some .long)) (by decide) rfl ?_
  intro p e s m args below meth c s₁ B hml hv
  obtain ⟨rfl, hsz, hP, hK, hD0⟩ := hv
  have hx := B.exec
  have hb := B.bytes
  have hr := B.returns
  have hts := atoms_spec (ws := Cond.code yX15_fitting cX15_fitting 2 (some .long) :: tb) B.pre
  have ht : ∀ w ∈ tb, w.before _ s = true := fun w h => hts w (List.mem_cons_of_mem _ h)
  have hown : s.vm.findClass RX15 = some m.cls := findClass_of_methodNamed B.named
  have hlocks := B.notSynchronized
  subst hsz
  have hD := hD0.self (sz := s.heap.size)
  generalize hAe : va_A [(q, .inr (15, fs))] s.heap.size = A at hD ⊢
  have hA : ∀ q : Nat, s.heap.size ≤ q → A q := fun q h => by rw [← hAe]; exact Or.inr h
  have hS : va_S A s.heap s.heap [] := va_S.rf
  have hl := lv_entry ([.ref q, .int p0]) (n := 2) (Nat.le_of_ble_eq_true rfl)
  rw [lg_entry_eq]
  generalize (lg_sl ([.ref q, .int p0]) ++ List.replicate (2 - (lg_sl ([.ref q, .int p0])).length) Slot.unset).toArray = ls at hl ⊢
  have hl : lv_has ls 2 [(0, .ref q), (1, .int p0)] := hl
  have hP : va_P (dC, dI) cls [(q, .inr (15, fs))] s.heap := hP
  refine lv_aload_n hx hb dX15_fitting_0 rfl (lv_at hl 0 rfl) ?_
  refine ca_i (wr := []) (va_runV (As := []) (rest := []) ⟨hx, hb, hml, hown, ht⟩ (r_isDown_clear l dC dI s.heap.size q fs L_fs K54_fs K109_fs ) (cwV 0 ht (gdV k_12_228 k_12_225 k_12_227 ks_112 k_1_17) rfl rfl rfl (by decide +kernel) ⟨Nat.le_of_ble_eq_true rfl, Nat.le_of_ble_eq_true rfl⟩) ⟨pcw_blind, va_recv hK hP (ci := 15) (q0 := 0) rfl rfl, pcw_at hP hD hK [0] [] (by decide) rfl rfl rfl⟩ rfl rfl hl.1 rfl (lv_room (Nat.le_of_ble_eq_true rfl)) dX15_fitting_1 ⟨Nat.le_of_ble_eq_true rfl, Nat.le_of_ble_eq_true rfl⟩) hP hD hK hS hA [0] [] rfl rfl (by decide) (by decide) (fun r1 u H locs w2 hK hP hD hS => ?_)
  obtain ⟨F3, rfl⟩ : ∃ z, z = u := ⟨_, rfl⟩
  have hK : va_K (dC, dI) cls [] s := hK
  have hP : va_P (dC, dI) cls [(q, .inr (15, F3))] H := hP
  have hD : va_D A [(q, .inr (15, F3))] := hD
  obtain ⟨w2, K4, K5, K6, K7⟩ := w2
  obtain rfl : r1 = 0 := w2
  refine lv_if_eq (tgt := 11) hx hb dX15_fitting_4 (by decide) (fun _ => ?_) (fun c0 => absurd c0 (by decide))
  refine lv_iload_n hx hb dX15_fitting_11 rfl (lv_at hl 1 rfl) ?_
  refine lv_i2l hx hb dX15_fitting_12 rfl ?_
  refine lv_topl (fun x8 ex8 => ?_)
  refine lv_lconst (v := 1) hx hb dX15_fitting_13 (by decide) ?_
  refine lv_ldc2 (v := 4) hx hb hown (ht _ k_15_196) dX15_fitting_14 ?_
  refine ca_i (wr := [(q, .inr (15, F3))]) (va_runS (As := [.long x8, .long 1, .long 4]) (rest := []) ⟨hx, hb, hml, hown, ht⟩ (r_in l dC dI H.size x8 1 4  ) (cwS 3 ht (gdS k_12_216 k_12_214 k_12_215 k_1_17) rfl rfl rfl (by decide +kernel) ⟨Nat.le_of_ble_eq_true rfl, Nat.le_of_ble_eq_true rfl⟩) ⟨pcw_blind, pcw_at hP hD hK [] [] (by decide) rfl rfl rfl⟩ rfl rfl hl.1 rfl (lv_room (Nat.le_of_ble_eq_true rfl)) dX15_fitting_17 ⟨Nat.le_of_ble_eq_true rfl, Nat.le_of_ble_eq_true rfl⟩) hP hD hK hS hA [] [0] rfl rfl (by decide) (by decide) (fun r9 u H locs w10 hK hP hD hS => ?_)
  have hK : va_K (dC, dI) cls [] s := hK
  have hP : va_P (dC, dI) cls [(q, .inr (15, F3))] H := hP
  have hD : va_D A [(q, .inr (15, F3))] := hD
  rcases w10 with ⟨rfl, n11⟩ | ⟨rfl, n11⟩
  · obtain ⟨n11a, n11b⟩ := in_yes (p := p0) (lo := 1) (hi := 4) ex8 (by decide) (by decide) n11
    refine lv_if_ne (tgt := 27) hx hb dX15_fitting_20 (by decide) (fun _ => ?_) (fun c0 => absurd c0 (by decide))
    refine lv_aload_n hx hb dX15_fitting_27 rfl (lv_at hl 0 rfl) ?_
    refine va_get (D := (dC, dI)) (ci := 15) (v := .int 0) (C := RX15) (T := TX15) (N := 163) hx hb ht uX15 hown hK hP 0 rfl rfl 109 (by decide) (ht _ k_11_57) (fun _ h9 => h9) K7 dX15_fitting_28 ?_
    refine lv_if_ne (tgt := 38) hx hb dX15_fitting_31 (by decide) (fun c0 => absurd c0 (by decide)) (fun _ => ?_)
    refine lv_ldc2 (v := (-2)) hx hb hown (ht _ k_15_59) dX15_fitting_34 ?_
    exact W.lret (v := (-2)) hx hb hr (fun t ht9 hW => ⟨⟨(-2), (), rfl, (by simp [sp_fitting, n11a, n11b]), by rw [ht9]; exact hP.sub [] rfl, va_K.moved hW.alike (hK.sub [] rfl), hD.sub [] (by decide) rfl⟩, hS.F ht9⟩) hS.2.2 dX15_fitting_37
  · rcases in_no (p := p0) (lo := 1) (hi := 4) ex8 (by decide) (by decide) n11 with n11c | n11c
    · refine lv_if_ne (tgt := 27) hx hb dX15_fitting_20 (by decide) (fun c0 => absurd c0 (by decide)) (fun _ => ?_)
      refine lv_ldc2 (v := (-1)) hx hb hown (ht _ k_14_163) dX15_fitting_23 ?_
      exact W.lret (v := (-1)) hx hb hr (fun t ht9 hW => ⟨⟨(-1), (), rfl, (by simp [sp_fitting, n11c]), by rw [ht9]; exact hP.sub [] rfl, va_K.moved hW.alike (hK.sub [] rfl), hD.sub [] (by decide) rfl⟩, hS.F ht9⟩) hS.2.2 dX15_fitting_26
    · refine lv_if_ne (tgt := 27) hx hb dX15_fitting_20 (by decide) (fun c0 => absurd c0 (by decide)) (fun _ => ?_)
      refine lv_ldc2 (v := (-1)) hx hb hown (ht _ k_14_163) dX15_fitting_23 ?_
      exact W.lret (v := (-1)) hx hb hr (fun t ht9 hW => ⟨⟨(-1), (), rfl, (by simp [sp_fitting, n11c]), by rw [ht9]; exact hP.sub [] rfl, va_K.moved hW.alike (hK.sub [] rfl), hD.sub [] (by decide) rfl⟩, hS.F ht9⟩) hS.2.2 dX15_fitting_26
set_option maxHeartbeats 4000000 in
set_option maxRecDepth 100000 in
theorem r_part (l : Launch) (dC : Nat → ClassId) (dI : Nat → Nat → Nat) (sz : Nat) (q : Nat) (fs : List Value) (p0 : Int32) (p1 : Int32) (L_fs : fs.length = 163) (K54_fs : fs[54]? = some (.int 0)) (K125_fs : fs[125]? = some (.int 0)) : Met l yX15_part (Cond.code yX15_part cX15_part 4 (some .int) :: tb) ({ frames := 1, cells := 0, slots := 0, locals := 25 }) (pcw [.ref q, .int p0, .int p1] (dC, dI) [(q, .inr (15, fs))] [] sz) (va_Qi (fun (r : Int32) => (fun (_ : Unit) => r = -1)) (bw (dC, dI) (va_A [(q, .inr (15, fs))] sz) (fun (_ : Unit) => []) (fun (_ : Unit) => [])) (va_A [(q, .inr (15, fs))] sz)) 0 0 (va_A [(q, .inr (15, fs))] sz) := by
  refine Met.ofW (cc := cX15_part) (maxL := 4) (ret := (some .int)) (by decide) rfl ?_
  intro p e s m args below meth c s₁ B hml hv
  obtain ⟨rfl, hsz, hP, hK, hD0⟩ := hv
  have hx := B.exec
  have hb := B.bytes
  have hr := B.returns
  have hts := atoms_spec (ws := Cond.code yX15_part cX15_part 4 (some .int) :: tb) B.pre
  have ht : ∀ w ∈ tb, w.before _ s = true := fun w h => hts w (List.mem_cons_of_mem _ h)
  have hown : s.vm.findClass RX15 = some m.cls := findClass_of_methodNamed B.named
  have hlocks := B.notSynchronized
  subst hsz
  have hD := hD0.self (sz := s.heap.size)
  generalize hAe : va_A [(q, .inr (15, fs))] s.heap.size = A at hD ⊢
  have hA : ∀ q : Nat, s.heap.size ≤ q → A q := fun q h => by rw [← hAe]; exact Or.inr h
  have hS : va_S A s.heap s.heap [] := va_S.rf
  have hl := lv_entry ([.ref q, .int p0, .int p1]) (n := 4) (Nat.le_of_ble_eq_true rfl)
  rw [lg_entry_eq]
  generalize (lg_sl ([.ref q, .int p0, .int p1]) ++ List.replicate (4 - (lg_sl ([.ref q, .int p0, .int p1])).length) Slot.unset).toArray = ls at hl ⊢
  have hl : lv_has ls 4 [(0, .ref q), (1, .int p0), (2, .int p1)] := hl
  have hP : va_P (dC, dI) cls [(q, .inr (15, fs))] s.heap := hP
  refine lv_aload_n hx hb dX15_part_0 rfl (lv_at hl 0 rfl) ?_
  refine lv_iconst (v := 0) hx hb dX15_part_1 (by decide) ?_
  refine va_put (D := (dC, dI)) (ci := 15) (v := .int 0) (ty := .int) (C := RX15) (T := TX15) (N := 163) hx hb ht uX15 tyX15 tkX15 nmX15 hown hK hP hD hS 0 rfl rfl 51 (by decide) (ht _ k_10_239) (fun _ h9 => h9) rfl (by decide +kernel) rfl rfl (by rw [L_fs]; decide) dX15_part_2 (fun H locs hP hD hS => ?_)
  obtain ⟨F1, eF1⟩ : ∃ g : List Value, g = fs.set 51 (.int 0) := ⟨_, rfl⟩
  rw [← eF1] at hP hD
  have K54_F1 : F1[54]? = some (.int 0) := by rw [eF1, List.getElem?_set_ne (by decide)]; exact K54_fs
  have K125_F1 : F1[125]? = some (.int 0) := by rw [eF1, List.getElem?_set_ne (by decide)]; exact K125_fs
  have K51_F1 : F1[51]? = some (.int 0) := by rw [eF1]; exact List.getElem?_set_self (by rw [L_fs]; decide)
  have L_F1 : F1.length = 163 := by rw [eF1, List.length_set]; exact L_fs
  have hP : va_P (dC, dI) cls [(q, .inr (15, F1))] H := hP
  have hD : va_D A [(q, .inr (15, F1))] := hD
  refine lv_iload_n hx hb dX15_part_5 rfl (lv_at hl 2 rfl) ?_
  refine lv_if_ne (tgt := 25) hx hb dX15_part_6 (by decide) (fun b2 => ?_) (fun b2 => ?_)
  · refine lv_iload_n hx hb dX15_part_25 rfl (lv_at hl 1 rfl) ?_
    refine lv_i2l hx hb dX15_part_26 rfl ?_
    refine lv_topl (fun x3 ex3 => ?_)
    refine lv_lconst (v := 0) hx hb dX15_part_27 (by decide) ?_
    refine lv_aload_n hx hb dX15_part_28 rfl (lv_at hl 0 rfl) ?_
    refine va_get (D := (dC, dI)) (ci := 15) (v := .int 0) (C := RX15) (T := TX15) (N := 163) hx hb ht uX15 hown hK hP 0 rfl rfl 125 (by decide) (ht _ k_11_73) (fun _ h9 => h9) K125_F1 dX15_part_29 ?_
    refine lv_iconst (v := 1) hx hb dX15_part_32 (by decide) ?_
    refine lv_isub hx hb dX15_part_33 ?_
    refine tk_i (y := (-1)) (by decide) ?_
    refine lv_i2l (v := (-1)) hx hb dX15_part_34 (by decide) ?_
    refine ca_i (wr := [(q, .inr (15, F1))]) (va_runS (As := [.long x3, .long 0, .long (-1)]) (rest := []) ⟨hx, hb, hml, hown, ht⟩ (r_in l dC dI H.size x3 0 (-1)  ) (cwS 3 ht (gdS k_12_216 k_12_214 k_12_215 k_1_17) rfl rfl rfl (by decide +kernel) ⟨Nat.le_of_ble_eq_true rfl, Nat.le_of_ble_eq_true rfl⟩) ⟨pcw_blind, pcw_at hP hD hK [] [] (by decide) rfl rfl rfl⟩ rfl rfl hl.1 rfl (lv_room (Nat.le_of_ble_eq_true rfl)) dX15_part_35 ⟨Nat.le_of_ble_eq_true rfl, Nat.le_of_ble_eq_true rfl⟩) hP hD hK hS hA [] [0] rfl rfl (by decide) (by decide) (fun r4 u H locs w5 hK hP hD hS => ?_)
    have hK : va_K (dC, dI) cls [] s := hK
    have hP : va_P (dC, dI) cls [(q, .inr (15, F1))] H := hP
    have hD : va_D A [(q, .inr (15, F1))] := hD
    rcases w5 with ⟨rfl, n6⟩ | ⟨rfl, n6⟩
    · exact (in_emp (by decide) n6).elim
    · refine lv_if_eq (tgt := 53) hx hb dX15_part_38 (by decide) (fun _ => ?_) (fun c0 => absurd c0 (by decide))
      refine lv_iconst (v := (-1)) hx hb dX15_part_53 (by decide) ?_
      exact W.iret (v := (-1)) hx hb hr (fun t ht9 hW => ⟨⟨(-1), (), rfl, rfl, by rw [ht9]; exact hP.sub [] rfl, va_K.moved hW.alike (hK.sub [] rfl), hD.sub [] (by decide) rfl⟩, hS.F ht9⟩) hS.2.2 dX15_part_54
  · refine lv_aload_n hx hb dX15_part_9 rfl (lv_at hl 0 rfl) ?_
    refine va_get (D := (dC, dI)) (ci := 15) (v := .int 0) (C := RX15) (T := TX15) (N := 163) hx hb ht uX15 hown hK hP 0 rfl rfl 125 (by decide) (ht _ k_11_73) (fun _ h9 => h9) K125_F1 dX15_part_10 ?_
    refine lv_if_ne (tgt := 20) hx hb dX15_part_13 (by decide) (fun c0 => absurd c0 (by decide)) (fun _ => ?_)
    refine lv_iconst (v := (-1)) hx hb dX15_part_16 (by decide) ?_
    refine lv_goto (tgt := 24) hx hb dX15_part_17 (by decide) ?_
    exact W.iret (v := (-1)) hx hb hr (fun t ht9 hW => ⟨⟨(-1), (), rfl, rfl, by rw [ht9]; exact hP.sub [] rfl, va_K.moved hW.alike (hK.sub [] rfl), hD.sub [] (by decide) rfl⟩, hS.F ht9⟩) hS.2.2 dX15_part_24
set_option maxHeartbeats 4000000 in
set_option maxRecDepth 100000 in
theorem r_isDown_forget (l : Launch) (dC : Nat → ClassId) (dI : Nat → Nat → Nat) (sz : Nat) (q : Nat) (fs : List Value) (L_fs : fs.length = 163) (K54_fs : fs[54]? = some (.int 0)) (K128_fs : fs[128]? = some (.int 0)) : Met l yX15_isDown (Cond.code yX15_isDown cX15_isDown 1 (some .boolean) :: tb) ({ frames := 0, cells := 0, slots := 0, locals := 0 }) (pcw [.ref q] (dC, dI) [(q, .inr (15, fs))] [] sz) (va_Qi (fun (r : Int32) => (fun (fs1 : List Value) => (r = 0) ∧ (fs1.length = 163) ∧ (fs1[51]? = some (.int 0)) ∧ (fs1[54]? = some (.int 0)) ∧ (fs1[128]? = some (.int 0)))) (bw (dC, dI) (va_A [(q, .inr (15, fs))] sz) (fun (fs1 : List Value) => [(q, .inr (15, fs1))]) (fun (fs1 : List Value) => [])) (va_A [(q, .inr (15, fs))] sz)) 0 0 (va_A [(q, .inr (15, fs))] sz) := by
  refine Met.ofW (cc := cX15_isDown) (maxL := 1) (ret := (some .boolean)) (by decide) rfl ?_
  intro p e s m args below meth c s₁ B hml hv
  obtain ⟨rfl, hsz, hP, hK, hD0⟩ := hv
  have hx := B.exec
  have hb := B.bytes
  have hr := B.returns
  have hts := atoms_spec (ws := Cond.code yX15_isDown cX15_isDown 1 (some .boolean) :: tb) B.pre
  have ht : ∀ w ∈ tb, w.before _ s = true := fun w h => hts w (List.mem_cons_of_mem _ h)
  have hown : s.vm.findClass RX15 = some m.cls := findClass_of_methodNamed B.named
  have hlocks := B.notSynchronized
  subst hsz
  have hD := hD0.self (sz := s.heap.size)
  generalize hAe : va_A [(q, .inr (15, fs))] s.heap.size = A at hD ⊢
  have hA : ∀ q : Nat, s.heap.size ≤ q → A q := fun q h => by rw [← hAe]; exact Or.inr h
  have hS : va_S A s.heap s.heap [] := va_S.rf
  have hl := lv_entry ([.ref q]) (n := 1) (Nat.le_of_ble_eq_true rfl)
  rw [lg_entry_eq]
  generalize (lg_sl ([.ref q]) ++ List.replicate (1 - (lg_sl ([.ref q])).length) Slot.unset).toArray = ls at hl ⊢
  have hl : lv_has ls 1 [(0, .ref q)] := hl
  have hP : va_P (dC, dI) cls [(q, .inr (15, fs))] s.heap := hP
  refine lv_aload_n hx hb dX15_isDown_0 rfl (lv_at hl 0 rfl) ?_
  refine lv_iconst (v := 0) hx hb dX15_isDown_1 (by decide) ?_
  refine va_put (D := (dC, dI)) (ci := 15) (v := .int 0) (ty := .int) (C := RX15) (T := TX15) (N := 163) hx hb ht uX15 tyX15 tkX15 nmX15 hown hK hP hD hS 0 rfl rfl 51 (by decide) (ht _ k_10_239) (fun _ h9 => h9) rfl (by decide +kernel) rfl rfl (by rw [L_fs]; decide) dX15_isDown_2 (fun H locs hP hD hS => ?_)
  obtain ⟨F1, eF1⟩ : ∃ g : List Value, g = fs.set 51 (.int 0) := ⟨_, rfl⟩
  rw [← eF1] at hP hD
  have K54_F1 : F1[54]? = some (.int 0) := by rw [eF1, List.getElem?_set_ne (by decide)]; exact K54_fs
  have K128_F1 : F1[128]? = some (.int 0) := by rw [eF1, List.getElem?_set_ne (by decide)]; exact K128_fs
  have K51_F1 : F1[51]? = some (.int 0) := by rw [eF1]; exact List.getElem?_set_self (by rw [L_fs]; decide)
  have L_F1 : F1.length = 163 := by rw [eF1, List.length_set]; exact L_fs
  have hP : va_P (dC, dI) cls [(q, .inr (15, F1))] H := hP
  have hD : va_D A [(q, .inr (15, F1))] := hD
  refine lv_aload_n hx hb dX15_isDown_5 rfl (lv_at hl 0 rfl) ?_
  refine va_get (D := (dC, dI)) (ci := 15) (v := .int 0) (C := RX15) (T := TX15) (N := 163) hx hb ht uX15 hown hK hP 0 rfl rfl 54 (by decide) (ht _ k_11_2) (fun _ h9 => h9) K54_F1 dX15_isDown_6 ?_
  exact W.zret (v := 0) hx hb hr rfl (fun t ht9 hW => ⟨⟨0, (F1), rfl, ⟨rfl, L_F1, K51_F1, K54_F1, K128_F1⟩, by rw [ht9]; exact hP.sub [0] rfl, va_K.moved hW.alike (hK.sub [] rfl), hD.sub [0] (by decide) rfl⟩, hS.F ht9⟩) hS.2.2 dX15_isDown_9
set_option maxHeartbeats 4000000 in
set_option maxRecDepth 100000 in
theorem r_forget (l : Launch) (dC : Nat → ClassId) (dI : Nat → Nat → Nat) (sz : Nat) (q : Nat) (fs : List Value) (L_fs : fs.length = 163) (K54_fs : fs[54]? = some (.int 0)) (K128_fs : fs[128]? = some (.int 0)) : Met l yX15_forget (Cond.code yX15_forget cX15_forget 2 (some .int) :: tb) ({ frames := 1, cells := 0, slots := 0, locals := 20 }) (pcw [.ref q] (dC, dI) [(q, .inr (15, fs))] [] sz) (va_Qi (fun (r : Int32) => (fun (_ : Unit) => r = 0)) (bw (dC, dI) (va_A [(q, .inr (15, fs))] sz) (fun (_ : Unit) => []) (fun (_ : Unit) => [])) (va_A [(q, .inr (15, fs))] sz)) 0 0 (va_A [(q, .inr (15, fs))] sz) := by
  refine Met.ofW (cc := cX15_forget) (maxL := 2) (ret := (some .int)) (by decide) rfl ?_
  intro p e s m args below meth c s₁ B hml hv
  obtain ⟨rfl, hsz, hP, hK, hD0⟩ := hv
  have hx := B.exec
  have hb := B.bytes
  have hr := B.returns
  have hts := atoms_spec (ws := Cond.code yX15_forget cX15_forget 2 (some .int) :: tb) B.pre
  have ht : ∀ w ∈ tb, w.before _ s = true := fun w h => hts w (List.mem_cons_of_mem _ h)
  have hown : s.vm.findClass RX15 = some m.cls := findClass_of_methodNamed B.named
  have hlocks := B.notSynchronized
  subst hsz
  have hD := hD0.self (sz := s.heap.size)
  generalize hAe : va_A [(q, .inr (15, fs))] s.heap.size = A at hD ⊢
  have hA : ∀ q : Nat, s.heap.size ≤ q → A q := fun q h => by rw [← hAe]; exact Or.inr h
  have hS : va_S A s.heap s.heap [] := va_S.rf
  have hl := lv_entry ([.ref q]) (n := 2) (Nat.le_of_ble_eq_true rfl)
  rw [lg_entry_eq]
  generalize (lg_sl ([.ref q]) ++ List.replicate (2 - (lg_sl ([.ref q])).length) Slot.unset).toArray = ls at hl ⊢
  have hl : lv_has ls 2 [(0, .ref q)] := hl
  have hP : va_P (dC, dI) cls [(q, .inr (15, fs))] s.heap := hP
  refine lv_aload_n hx hb dX15_forget_0 rfl (lv_at hl 0 rfl) ?_
  refine ca_i (wr := []) (va_runV (As := []) (rest := []) ⟨hx, hb, hml, hown, ht⟩ (r_isDown_forget l dC dI s.heap.size q fs L_fs K54_fs K128_fs ) (cwV 0 ht (gdV k_12_228 k_12_225 k_12_227 ks_112 k_1_17) rfl rfl rfl (by decide +kernel) ⟨Nat.le_of_ble_eq_true rfl, Nat.le_of_ble_eq_true rfl⟩) ⟨pcw_blind, va_recv hK hP (ci := 15) (q0 := 0) rfl rfl, pcw_at hP hD hK [0] [] (by decide) rfl rfl rfl⟩ rfl rfl hl.1 rfl (lv_room (Nat.le_of_ble_eq_true rfl)) dX15_forget_1 ⟨Nat.le_of_ble_eq_true rfl, Nat.le_of_ble_eq_true rfl⟩) hP hD hK hS hA [0] [] rfl rfl (by decide) (by decide) (fun r1 u H locs w2 hK hP hD hS => ?_)
  obtain ⟨F3, rfl⟩ : ∃ z, z = u := ⟨_, rfl⟩
  have hK : va_K (dC, dI) cls [] s := hK
  have hP : va_P (dC, dI) cls [(q, .inr (15, F3))] H := hP
  have hD : va_D A [(q, .inr (15, F3))] := hD
  obtain ⟨w2, K4, K5, K6, K7⟩ := w2
  obtain rfl : r1 = 0 := w2
  refine lv_if_eq (tgt := 10) hx hb dX15_forget_4 (by decide) (fun _ => ?_) (fun c0 => absurd c0 (by decide))
  refine lv_aload_n hx hb dX15_forget_10 rfl (lv_at hl 0 rfl) ?_
  refine va_get (D := (dC, dI)) (ci := 15) (v := .int 0) (C := RX15) (T := TX15) (N := 163) hx hb ht uX15 hown hK hP 0 rfl rfl 128 (by decide) (ht _ k_11_76) (fun _ h9 => h9) K7 dX15_forget_11 ?_
  refine lv_istore_n (lv' := [(1, .int 0), (0, .ref q)]) hx hb dX15_forget_14 rfl hl (by decide) rfl (fun ls hl => ?_)
  refine lv_iload_n hx hb dX15_forget_15 rfl (lv_at hl 0 rfl) ?_
  refine lv_if_le (tgt := 30) hx hb dX15_forget_16 (by decide) (fun _ => ?_) (fun c0 => absurd c0 (by decide))
  refine lv_iload_n hx hb dX15_forget_30 rfl (lv_at hl 0 rfl) ?_
  refine lv_if_le (tgt := 45) hx hb dX15_forget_31 (by decide) (fun _ => ?_) (fun c0 => absurd c0 (by decide))
  refine lv_aload_n hx hb dX15_forget_45 rfl (lv_at hl 1 rfl) ?_
  refine lv_iconst (v := 0) hx hb dX15_forget_46 (by decide) ?_
  refine va_put (D := (dC, dI)) (ci := 15) (v := .int 0) (ty := .int) (C := RX15) (T := TX15) (N := 163) hx hb ht uX15 tyX15 tkX15 nmX15 hown hK hP hD hS 0 rfl rfl 128 (by decide) (ht _ k_11_76) (fun _ h9 => h9) rfl (by decide +kernel) rfl rfl (by rw [K4]; decide) dX15_forget_47 (fun H locs hP hD hS => ?_)
  obtain ⟨F8, eF8⟩ : ∃ g : List Value, g = F3.set 128 (.int 0) := ⟨_, rfl⟩
  rw [← eF8] at hP hD
  have K51_F8 : F8[51]? = some (.int 0) := by rw [eF8, List.getElem?_set_ne (by decide)]; exact K5
  have K54_F8 : F8[54]? = some (.int 0) := by rw [eF8, List.getElem?_set_ne (by decide)]; exact K6
  have K128_F8 : F8[128]? = some (.int 0) := by rw [eF8]; exact List.getElem?_set_self (by rw [K4]; decide)
  have L_F8 : F8.length = 163 := by rw [eF8, List.length_set]; exact K4
  have hP : va_P (dC, dI) cls [(q, .inr (15, F8))] H := hP
  have hD : va_D A [(q, .inr (15, F8))] := hD
  refine lv_iload_n hx hb dX15_forget_50 rfl (lv_at hl 0 rfl) ?_
  exact W.iret (v := 0) hx hb hr (fun t ht9 hW => ⟨⟨0, (), rfl, rfl, by rw [ht9]; exact hP.sub [] rfl, va_K.moved hW.alike (hK.sub [] rfl), hD.sub [] (by decide) rfl⟩, hS.F ht9⟩) hS.2.2 dX15_forget_51
set_option maxHeartbeats 4000000 in
set_option maxRecDepth 100000 in
theorem r_state (l : Launch) (dC : Nat → ClassId) (dI : Nat → Nat → Nat) (sz : Nat) (q : Nat) (fs : List Value) (p0 : Int32) (p1 : Int32) (L_fs : fs.length = 163) (K54_fs : fs[54]? = some (.int 0)) (K134_fs : fs[134]? = some (.int 0)) : Met l yX15_state (Cond.code yX15_state cX15_state 3 (some .int) :: tb) ({ frames := 1, cells := 0, slots := 0, locals := 25 }) (pcw [.ref q, .int p0, .int p1] (dC, dI) [(q, .inr (15, fs))] [] sz) (va_Qi (fun (r : Int32) => (fun (_ : Unit) => r = -1)) (bw (dC, dI) (va_A [(q, .inr (15, fs))] sz) (fun (_ : Unit) => []) (fun (_ : Unit) => [])) (va_A [(q, .inr (15, fs))] sz)) 0 0 (va_A [(q, .inr (15, fs))] sz) := by
  refine Met.ofW (cc := cX15_state) (maxL := 3) (ret := (some .int)) (by decide) rfl ?_
  intro p e s m args below meth c s₁ B hml hv
  obtain ⟨rfl, hsz, hP, hK, hD0⟩ := hv
  have hx := B.exec
  have hb := B.bytes
  have hr := B.returns
  have hts := atoms_spec (ws := Cond.code yX15_state cX15_state 3 (some .int) :: tb) B.pre
  have ht : ∀ w ∈ tb, w.before _ s = true := fun w h => hts w (List.mem_cons_of_mem _ h)
  have hown : s.vm.findClass RX15 = some m.cls := findClass_of_methodNamed B.named
  have hlocks := B.notSynchronized
  subst hsz
  have hD := hD0.self (sz := s.heap.size)
  generalize hAe : va_A [(q, .inr (15, fs))] s.heap.size = A at hD ⊢
  have hA : ∀ q : Nat, s.heap.size ≤ q → A q := fun q h => by rw [← hAe]; exact Or.inr h
  have hS : va_S A s.heap s.heap [] := va_S.rf
  have hl := lv_entry ([.ref q, .int p0, .int p1]) (n := 3) (Nat.le_of_ble_eq_true rfl)
  rw [lg_entry_eq]
  generalize (lg_sl ([.ref q, .int p0, .int p1]) ++ List.replicate (3 - (lg_sl ([.ref q, .int p0, .int p1])).length) Slot.unset).toArray = ls at hl ⊢
  have hl : lv_has ls 3 [(0, .ref q), (1, .int p0), (2, .int p1)] := hl
  have hP : va_P (dC, dI) cls [(q, .inr (15, fs))] s.heap := hP
  refine lv_aload_n hx hb dX15_state_0 rfl (lv_at hl 0 rfl) ?_
  refine lv_iconst (v := 0) hx hb dX15_state_1 (by decide) ?_
  refine va_put (D := (dC, dI)) (ci := 15) (v := .int 0) (ty := .int) (C := RX15) (T := TX15) (N := 163) hx hb ht uX15 tyX15 tkX15 nmX15 hown hK hP hD hS 0 rfl rfl 51 (by decide) (ht _ k_10_239) (fun _ h9 => h9) rfl (by decide +kernel) rfl rfl (by rw [L_fs]; decide) dX15_state_2 (fun H locs hP hD hS => ?_)
  obtain ⟨F1, eF1⟩ : ∃ g : List Value, g = fs.set 51 (.int 0) := ⟨_, rfl⟩
  rw [← eF1] at hP hD
  have K54_F1 : F1[54]? = some (.int 0) := by rw [eF1, List.getElem?_set_ne (by decide)]; exact K54_fs
  have K134_F1 : F1[134]? = some (.int 0) := by rw [eF1, List.getElem?_set_ne (by decide)]; exact K134_fs
  have K51_F1 : F1[51]? = some (.int 0) := by rw [eF1]; exact List.getElem?_set_self (by rw [L_fs]; decide)
  have L_F1 : F1.length = 163 := by rw [eF1, List.length_set]; exact L_fs
  have hP : va_P (dC, dI) cls [(q, .inr (15, F1))] H := hP
  have hD : va_D A [(q, .inr (15, F1))] := hD
  refine lv_iload_n hx hb dX15_state_5 rfl (lv_at hl 1 rfl) ?_
  refine lv_i2l hx hb dX15_state_6 rfl ?_
  refine lv_topl (fun x2 ex2 => ?_)
  refine lv_lconst (v := 0) hx hb dX15_state_7 (by decide) ?_
  refine lv_aload_n hx hb dX15_state_8 rfl (lv_at hl 0 rfl) ?_
  refine va_get (D := (dC, dI)) (ci := 15) (v := .int 0) (C := RX15) (T := TX15) (N := 163) hx hb ht uX15 hown hK hP 0 rfl rfl 134 (by decide) (ht _ k_11_82) (fun _ h9 => h9) K134_F1 dX15_state_9 ?_
  refine lv_iconst (v := 1) hx hb dX15_state_12 (by decide) ?_
  refine lv_isub hx hb dX15_state_13 ?_
  refine tk_i (y := (-1)) (by decide) ?_
  refine lv_i2l (v := (-1)) hx hb dX15_state_14 (by decide) ?_
  refine ca_i (wr := [(q, .inr (15, F1))]) (va_runS (As := [.long x2, .long 0, .long (-1)]) (rest := []) ⟨hx, hb, hml, hown, ht⟩ (r_in l dC dI H.size x2 0 (-1)  ) (cwS 3 ht (gdS k_12_216 k_12_214 k_12_215 k_1_17) rfl rfl rfl (by decide +kernel) ⟨Nat.le_of_ble_eq_true rfl, Nat.le_of_ble_eq_true rfl⟩) ⟨pcw_blind, pcw_at hP hD hK [] [] (by decide) rfl rfl rfl⟩ rfl rfl hl.1 rfl (lv_room (Nat.le_of_ble_eq_true rfl)) dX15_state_15 ⟨Nat.le_of_ble_eq_true rfl, Nat.le_of_ble_eq_true rfl⟩) hP hD hK hS hA [] [0] rfl rfl (by decide) (by decide) (fun r3 u H locs w4 hK hP hD hS => ?_)
  have hK : va_K (dC, dI) cls [] s := hK
  have hP : va_P (dC, dI) cls [(q, .inr (15, F1))] H := hP
  have hD : va_D A [(q, .inr (15, F1))] := hD
  rcases w4 with ⟨rfl, n5⟩ | ⟨rfl, n5⟩
  · exact (in_emp (by decide) n5).elim
  · refine lv_if_eq (tgt := 33) hx hb dX15_state_18 (by decide) (fun _ => ?_) (fun c0 => absurd c0 (by decide))
    refine lv_iconst (v := (-1)) hx hb dX15_state_33 (by decide) ?_
    exact W.iret (v := (-1)) hx hb hr (fun t ht9 hW => ⟨⟨(-1), (), rfl, rfl, by rw [ht9]; exact hP.sub [] rfl, va_K.moved hW.alike (hK.sub [] rfl), hD.sub [] (by decide) rfl⟩, hS.F ht9⟩) hS.2.2 dX15_state_34
set_option maxHeartbeats 4000000 in
set_option maxRecDepth 100000 in
theorem r_step_ (l : Launch) (dC : Nat → ClassId) (dI : Nat → Nat → Nat) (sz : Nat) (q : Nat) (fs : List Value) (p0 : Int32) (L_fs : fs.length = 163) (K54_fs : fs[54]? = some (.int 0)) (K137_fs : fs[137]? = some (.int 0)) : Met l yX15_step_ (Cond.code yX15_step_ cX15_step_ 2 (some .int) :: tb) ({ frames := 1, cells := 0, slots := 0, locals := 25 }) (pcw [.ref q, .int p0] (dC, dI) [(q, .inr (15, fs))] [] sz) (va_Qi (fun (r : Int32) => (fun (_ : Unit) => r = -1)) (bw (dC, dI) (va_A [(q, .inr (15, fs))] sz) (fun (_ : Unit) => []) (fun (_ : Unit) => [])) (va_A [(q, .inr (15, fs))] sz)) 0 0 (va_A [(q, .inr (15, fs))] sz) := by
  refine Met.ofW (cc := cX15_step_) (maxL := 2) (ret := (some .int)) (by decide) rfl ?_
  intro p e s m args below meth c s₁ B hml hv
  obtain ⟨rfl, hsz, hP, hK, hD0⟩ := hv
  have hx := B.exec
  have hb := B.bytes
  have hr := B.returns
  have hts := atoms_spec (ws := Cond.code yX15_step_ cX15_step_ 2 (some .int) :: tb) B.pre
  have ht : ∀ w ∈ tb, w.before _ s = true := fun w h => hts w (List.mem_cons_of_mem _ h)
  have hown : s.vm.findClass RX15 = some m.cls := findClass_of_methodNamed B.named
  have hlocks := B.notSynchronized
  subst hsz
  have hD := hD0.self (sz := s.heap.size)
  generalize hAe : va_A [(q, .inr (15, fs))] s.heap.size = A at hD ⊢
  have hA : ∀ q : Nat, s.heap.size ≤ q → A q := fun q h => by rw [← hAe]; exact Or.inr h
  have hS : va_S A s.heap s.heap [] := va_S.rf
  have hl := lv_entry ([.ref q, .int p0]) (n := 2) (Nat.le_of_ble_eq_true rfl)
  rw [lg_entry_eq]
  generalize (lg_sl ([.ref q, .int p0]) ++ List.replicate (2 - (lg_sl ([.ref q, .int p0])).length) Slot.unset).toArray = ls at hl ⊢
  have hl : lv_has ls 2 [(0, .ref q), (1, .int p0)] := hl
  have hP : va_P (dC, dI) cls [(q, .inr (15, fs))] s.heap := hP
  refine lv_aload_n hx hb dX15_step__0 rfl (lv_at hl 0 rfl) ?_
  refine lv_iconst (v := 0) hx hb dX15_step__1 (by decide) ?_
  refine va_put (D := (dC, dI)) (ci := 15) (v := .int 0) (ty := .int) (C := RX15) (T := TX15) (N := 163) hx hb ht uX15 tyX15 tkX15 nmX15 hown hK hP hD hS 0 rfl rfl 51 (by decide) (ht _ k_10_239) (fun _ h9 => h9) rfl (by decide +kernel) rfl rfl (by rw [L_fs]; decide) dX15_step__2 (fun H locs hP hD hS => ?_)
  obtain ⟨F1, eF1⟩ : ∃ g : List Value, g = fs.set 51 (.int 0) := ⟨_, rfl⟩
  rw [← eF1] at hP hD
  have K54_F1 : F1[54]? = some (.int 0) := by rw [eF1, List.getElem?_set_ne (by decide)]; exact K54_fs
  have K137_F1 : F1[137]? = some (.int 0) := by rw [eF1, List.getElem?_set_ne (by decide)]; exact K137_fs
  have K51_F1 : F1[51]? = some (.int 0) := by rw [eF1]; exact List.getElem?_set_self (by rw [L_fs]; decide)
  have L_F1 : F1.length = 163 := by rw [eF1, List.length_set]; exact L_fs
  have hP : va_P (dC, dI) cls [(q, .inr (15, F1))] H := hP
  have hD : va_D A [(q, .inr (15, F1))] := hD
  refine lv_iload_n hx hb dX15_step__5 rfl (lv_at hl 1 rfl) ?_
  refine lv_i2l hx hb dX15_step__6 rfl ?_
  refine lv_topl (fun x2 ex2 => ?_)
  refine lv_lconst (v := 0) hx hb dX15_step__7 (by decide) ?_
  refine lv_aload_n hx hb dX15_step__8 rfl (lv_at hl 0 rfl) ?_
  refine va_get (D := (dC, dI)) (ci := 15) (v := .int 0) (C := RX15) (T := TX15) (N := 163) hx hb ht uX15 hown hK hP 0 rfl rfl 137 (by decide) (ht _ k_11_85) (fun _ h9 => h9) K137_F1 dX15_step__9 ?_
  refine lv_iconst (v := 1) hx hb dX15_step__12 (by decide) ?_
  refine lv_isub hx hb dX15_step__13 ?_
  refine tk_i (y := (-1)) (by decide) ?_
  refine lv_i2l (v := (-1)) hx hb dX15_step__14 (by decide) ?_
  refine ca_i (wr := [(q, .inr (15, F1))]) (va_runS (As := [.long x2, .long 0, .long (-1)]) (rest := []) ⟨hx, hb, hml, hown, ht⟩ (r_in l dC dI H.size x2 0 (-1)  ) (cwS 3 ht (gdS k_12_216 k_12_214 k_12_215 k_1_17) rfl rfl rfl (by decide +kernel) ⟨Nat.le_of_ble_eq_true rfl, Nat.le_of_ble_eq_true rfl⟩) ⟨pcw_blind, pcw_at hP hD hK [] [] (by decide) rfl rfl rfl⟩ rfl rfl hl.1 rfl (lv_room (Nat.le_of_ble_eq_true rfl)) dX15_step__15 ⟨Nat.le_of_ble_eq_true rfl, Nat.le_of_ble_eq_true rfl⟩) hP hD hK hS hA [] [0] rfl rfl (by decide) (by decide) (fun r3 u H locs w4 hK hP hD hS => ?_)
  have hK : va_K (dC, dI) cls [] s := hK
  have hP : va_P (dC, dI) cls [(q, .inr (15, F1))] H := hP
  have hD : va_D A [(q, .inr (15, F1))] := hD
  rcases w4 with ⟨rfl, n5⟩ | ⟨rfl, n5⟩
  · exact (in_emp (by decide) n5).elim
  · refine lv_if_eq (tgt := 30) hx hb dX15_step__18 (by decide) (fun _ => ?_) (fun c0 => absurd c0 (by decide))
    refine lv_iconst (v := (-1)) hx hb dX15_step__30 (by decide) ?_
    exact W.iret (v := (-1)) hx hb hr (fun t ht9 hW => ⟨⟨(-1), (), rfl, rfl, by rw [ht9]; exact hP.sub [] rfl, va_K.moved hW.alike (hK.sub [] rfl), hD.sub [] (by decide) rfl⟩, hS.F ht9⟩) hS.2.2 dX15_step__31
set_option maxHeartbeats 4000000 in
set_option maxRecDepth 100000 in
theorem r_isDown_cut (l : Launch) (dC : Nat → ClassId) (dI : Nat → Nat → Nat) (sz : Nat) (q : Nat) (fs : List Value) (L_fs : fs.length = 163) (K54_fs : fs[54]? = some (.int 0)) : Met l yX15_isDown (Cond.code yX15_isDown cX15_isDown 1 (some .boolean) :: tb) ({ frames := 0, cells := 0, slots := 0, locals := 0 }) (pcw [.ref q] (dC, dI) [(q, .inr (15, fs))] [] sz) (va_Qi (fun (r : Int32) => (fun (fs1 : List Value) => (r = 0) ∧ (fs1.length = 163) ∧ (fs1[51]? = some (.int 0)) ∧ (fs1[54]? = some (.int 0)))) (bw (dC, dI) (va_A [(q, .inr (15, fs))] sz) (fun (fs1 : List Value) => [(q, .inr (15, fs1))]) (fun (fs1 : List Value) => [])) (va_A [(q, .inr (15, fs))] sz)) 0 0 (va_A [(q, .inr (15, fs))] sz) := by
  refine Met.ofW (cc := cX15_isDown) (maxL := 1) (ret := (some .boolean)) (by decide) rfl ?_
  intro p e s m args below meth c s₁ B hml hv
  obtain ⟨rfl, hsz, hP, hK, hD0⟩ := hv
  have hx := B.exec
  have hb := B.bytes
  have hr := B.returns
  have hts := atoms_spec (ws := Cond.code yX15_isDown cX15_isDown 1 (some .boolean) :: tb) B.pre
  have ht : ∀ w ∈ tb, w.before _ s = true := fun w h => hts w (List.mem_cons_of_mem _ h)
  have hown : s.vm.findClass RX15 = some m.cls := findClass_of_methodNamed B.named
  have hlocks := B.notSynchronized
  subst hsz
  have hD := hD0.self (sz := s.heap.size)
  generalize hAe : va_A [(q, .inr (15, fs))] s.heap.size = A at hD ⊢
  have hA : ∀ q : Nat, s.heap.size ≤ q → A q := fun q h => by rw [← hAe]; exact Or.inr h
  have hS : va_S A s.heap s.heap [] := va_S.rf
  have hl := lv_entry ([.ref q]) (n := 1) (Nat.le_of_ble_eq_true rfl)
  rw [lg_entry_eq]
  generalize (lg_sl ([.ref q]) ++ List.replicate (1 - (lg_sl ([.ref q])).length) Slot.unset).toArray = ls at hl ⊢
  have hl : lv_has ls 1 [(0, .ref q)] := hl
  have hP : va_P (dC, dI) cls [(q, .inr (15, fs))] s.heap := hP
  refine lv_aload_n hx hb dX15_isDown_0 rfl (lv_at hl 0 rfl) ?_
  refine lv_iconst (v := 0) hx hb dX15_isDown_1 (by decide) ?_
  refine va_put (D := (dC, dI)) (ci := 15) (v := .int 0) (ty := .int) (C := RX15) (T := TX15) (N := 163) hx hb ht uX15 tyX15 tkX15 nmX15 hown hK hP hD hS 0 rfl rfl 51 (by decide) (ht _ k_10_239) (fun _ h9 => h9) rfl (by decide +kernel) rfl rfl (by rw [L_fs]; decide) dX15_isDown_2 (fun H locs hP hD hS => ?_)
  obtain ⟨F1, eF1⟩ : ∃ g : List Value, g = fs.set 51 (.int 0) := ⟨_, rfl⟩
  rw [← eF1] at hP hD
  have K54_F1 : F1[54]? = some (.int 0) := by rw [eF1, List.getElem?_set_ne (by decide)]; exact K54_fs
  have K51_F1 : F1[51]? = some (.int 0) := by rw [eF1]; exact List.getElem?_set_self (by rw [L_fs]; decide)
  have L_F1 : F1.length = 163 := by rw [eF1, List.length_set]; exact L_fs
  have hP : va_P (dC, dI) cls [(q, .inr (15, F1))] H := hP
  have hD : va_D A [(q, .inr (15, F1))] := hD
  refine lv_aload_n hx hb dX15_isDown_5 rfl (lv_at hl 0 rfl) ?_
  refine va_get (D := (dC, dI)) (ci := 15) (v := .int 0) (C := RX15) (T := TX15) (N := 163) hx hb ht uX15 hown hK hP 0 rfl rfl 54 (by decide) (ht _ k_11_2) (fun _ h9 => h9) K54_F1 dX15_isDown_6 ?_
  exact W.zret (v := 0) hx hb hr rfl (fun t ht9 hW => ⟨⟨0, (F1), rfl, ⟨rfl, L_F1, K51_F1, K54_F1⟩, by rw [ht9]; exact hP.sub [0] rfl, va_K.moved hW.alike (hK.sub [] rfl), hD.sub [0] (by decide) rfl⟩, hS.F ht9⟩) hS.2.2 dX15_isDown_9
set_option maxHeartbeats 4000000 in
set_option maxRecDepth 100000 in
theorem r_cut (l : Launch) (dC : Nat → ClassId) (dI : Nat → Nat → Nat) (sz : Nat) (q : Nat) (fs : List Value) (p0 : Int32) (p1 : Int32) (L_fs : fs.length = 163) (K54_fs : fs[54]? = some (.int 0)) : Met l yX15_cut (Cond.code yX15_cut cX15_cut 3 (some .int) :: tb) ({ frames := 1, cells := 0, slots := 0, locals := 25 }) (pcw [.ref q, .int p0, .int p1] (dC, dI) [(q, .inr (15, fs))] [] sz) (va_Qi (fun (r : Int32) => (fun (_ : Unit) => r = sp_cut p0 p1)) (bw (dC, dI) (va_A [(q, .inr (15, fs))] sz) (fun (_ : Unit) => []) (fun (_ : Unit) => [])) (va_A [(q, .inr (15, fs))] sz)) 0 0 (va_A [(q, .inr (15, fs))] sz) := by
  refine Met.ofW (cc := cX15_cut) (maxL := 3) (ret := (some .int)) (by decide) rfl ?_
  intro p e s m args below meth c s₁ B hml hv
  obtain ⟨rfl, hsz, hP, hK, hD0⟩ := hv
  have hx := B.exec
  have hb := B.bytes
  have hr := B.returns
  have hts := atoms_spec (ws := Cond.code yX15_cut cX15_cut 3 (some .int) :: tb) B.pre
  have ht : ∀ w ∈ tb, w.before _ s = true := fun w h => hts w (List.mem_cons_of_mem _ h)
  have hown : s.vm.findClass RX15 = some m.cls := findClass_of_methodNamed B.named
  have hlocks := B.notSynchronized
  subst hsz
  have hD := hD0.self (sz := s.heap.size)
  generalize hAe : va_A [(q, .inr (15, fs))] s.heap.size = A at hD ⊢
  have hA : ∀ q : Nat, s.heap.size ≤ q → A q := fun q h => by rw [← hAe]; exact Or.inr h
  have hS : va_S A s.heap s.heap [] := va_S.rf
  have hl := lv_entry ([.ref q, .int p0, .int p1]) (n := 3) (Nat.le_of_ble_eq_true rfl)
  rw [lg_entry_eq]
  generalize (lg_sl ([.ref q, .int p0, .int p1]) ++ List.replicate (3 - (lg_sl ([.ref q, .int p0, .int p1])).length) Slot.unset).toArray = ls at hl ⊢
  have hl : lv_has ls 3 [(0, .ref q), (1, .int p0), (2, .int p1)] := hl
  have hP : va_P (dC, dI) cls [(q, .inr (15, fs))] s.heap := hP
  refine lv_aload_n hx hb dX15_cut_0 rfl (lv_at hl 0 rfl) ?_
  refine ca_i (wr := []) (va_runV (As := []) (rest := []) ⟨hx, hb, hml, hown, ht⟩ (r_isDown_cut l dC dI s.heap.size q fs L_fs K54_fs ) (cwV 0 ht (gdV k_12_228 k_12_225 k_12_227 ks_112 k_1_17) rfl rfl rfl (by decide +kernel) ⟨Nat.le_of_ble_eq_true rfl, Nat.le_of_ble_eq_true rfl⟩) ⟨pcw_blind, va_recv hK hP (ci := 15) (q0 := 0) rfl rfl, pcw_at hP hD hK [0] [] (by decide) rfl rfl rfl⟩ rfl rfl hl.1 rfl (lv_room (Nat.le_of_ble_eq_true rfl)) dX15_cut_1 ⟨Nat.le_of_ble_eq_true rfl, Nat.le_of_ble_eq_true rfl⟩) hP hD hK hS hA [0] [] rfl rfl (by decide) (by decide) (fun r1 u H locs w2 hK hP hD hS => ?_)
  obtain ⟨F3, rfl⟩ : ∃ z, z = u := ⟨_, rfl⟩
  have hK : va_K (dC, dI) cls [] s := hK
  have hP : va_P (dC, dI) cls [(q, .inr (15, F3))] H := hP
  have hD : va_D A [(q, .inr (15, F3))] := hD
  obtain ⟨w2, K4, K5, K6⟩ := w2
  obtain rfl : r1 = 0 := w2
  refine lv_if_eq (tgt := 10) hx hb dX15_cut_4 (by decide) (fun _ => ?_) (fun c0 => absurd c0 (by decide))
  refine lv_iload_n hx hb dX15_cut_10 rfl (lv_at hl 1 rfl) ?_
  refine lv_i2l hx hb dX15_cut_11 rfl ?_
  refine lv_topl (fun x7 ex7 => ?_)
  refine lv_ldc2 (v := (-1)) hx hb hown (ht _ k_14_163) dX15_cut_12 ?_
  refine lv_ldc2 (v := 400) hx hb hown (ht _ k_16_80) dX15_cut_15 ?_
  refine ca_i (wr := [(q, .inr (15, F3))]) (va_runS (As := [.long x7, .long (-1), .long 400]) (rest := []) ⟨hx, hb, hml, hown, ht⟩ (r_in l dC dI H.size x7 (-1) 400  ) (cwS 3 ht (gdS k_12_216 k_12_214 k_12_215 k_1_17) rfl rfl rfl (by decide +kernel) ⟨Nat.le_of_ble_eq_true rfl, Nat.le_of_ble_eq_true rfl⟩) ⟨pcw_blind, pcw_at hP hD hK [] [] (by decide) rfl rfl rfl⟩ rfl rfl hl.1 rfl (lv_room (Nat.le_of_ble_eq_true rfl)) dX15_cut_18 ⟨Nat.le_of_ble_eq_true rfl, Nat.le_of_ble_eq_true rfl⟩) hP hD hK hS hA [] [0] rfl rfl (by decide) (by decide) (fun r8 u H locs w9 hK hP hD hS => ?_)
  have hK : va_K (dC, dI) cls [] s := hK
  have hP : va_P (dC, dI) cls [(q, .inr (15, F3))] H := hP
  have hD : va_D A [(q, .inr (15, F3))] := hD
  rcases w9 with ⟨rfl, n10⟩ | ⟨rfl, n10⟩
  · obtain ⟨n10a, n10b⟩ := in_yes (p := p0) (lo := (-1)) (hi := 400) ex7 (by decide) (by decide) n10
    refine lv_if_eq (tgt := 36) hx hb dX15_cut_21 (by decide) (fun c0 => absurd c0 (by decide)) (fun _ => ?_)
    refine lv_iload_n hx hb dX15_cut_24 rfl (lv_at hl 2 rfl) ?_
    refine lv_i2l hx hb dX15_cut_25 rfl ?_
    refine lv_topl (fun x11 ex11 => ?_)
    refine lv_lconst (v := 0) hx hb dX15_cut_26 (by decide) ?_
    refine lv_ldc2 (v := 127) hx hb hown (ht _ k_16_81) dX15_cut_27 ?_
    refine ca_i (wr := [(q, .inr (15, F3))]) (va_runS (As := [.long x11, .long 0, .long 127]) (rest := []) ⟨hx, hb, hml, hown, ht⟩ (r_in l dC dI H.size x11 0 127  ) (cwS 3 ht (gdS k_12_216 k_12_214 k_12_215 k_1_17) rfl rfl rfl (by decide +kernel) ⟨Nat.le_of_ble_eq_true rfl, Nat.le_of_ble_eq_true rfl⟩) ⟨pcw_blind, pcw_at hP hD hK [] [] (by decide) rfl rfl rfl⟩ rfl rfl hl.1 rfl (lv_room (Nat.le_of_ble_eq_true rfl)) dX15_cut_30 ⟨Nat.le_of_ble_eq_true rfl, Nat.le_of_ble_eq_true rfl⟩) hP hD hK hS hA [] [0] rfl rfl (by decide) (by decide) (fun r12 u H locs w13 hK hP hD hS => ?_)
    have hK : va_K (dC, dI) cls [] s := hK
    have hP : va_P (dC, dI) cls [(q, .inr (15, F3))] H := hP
    have hD : va_D A [(q, .inr (15, F3))] := hD
    rcases w13 with ⟨rfl, n14⟩ | ⟨rfl, n14⟩
    · obtain ⟨n14a, n14b⟩ := in_yes (p := p1) (lo := 0) (hi := 127) ex11 (by decide) (by decide) n14
      refine lv_if_ne (tgt := 38) hx hb dX15_cut_33 (by decide) (fun _ => ?_) (fun c0 => absurd c0 (by decide))
      refine lv_aload_n hx hb dX15_cut_38 rfl (lv_at hl 0 rfl) ?_
      refine lv_iload_n hx hb dX15_cut_39 rfl (lv_at hl 1 rfl) ?_
      refine va_put (D := (dC, dI)) (ci := 15) (v := .int p0) (ty := .int) (C := RX15) (T := TX15) (N := 163) hx hb ht uX15 tyX15 tkX15 nmX15 hown hK hP hD hS 0 rfl rfl 161 (by decide) (ht _ k_11_109) (fun _ h9 => h9) rfl (by decide +kernel) rfl rfl (by rw [K4]; decide) dX15_cut_40 (fun H locs hP hD hS => ?_)
      obtain ⟨F15, eF15⟩ : ∃ g : List Value, g = F3.set 161 (.int p0) := ⟨_, rfl⟩
      rw [← eF15] at hP hD
      have K51_F15 : F15[51]? = some (.int 0) := by rw [eF15, List.getElem?_set_ne (by decide)]; exact K5
      have K54_F15 : F15[54]? = some (.int 0) := by rw [eF15, List.getElem?_set_ne (by decide)]; exact K6
      have K161_F15 : F15[161]? = some (.int p0) := by rw [eF15]; exact List.getElem?_set_self (by rw [K4]; decide)
      have L_F15 : F15.length = 163 := by rw [eF15, List.length_set]; exact K4
      have hP : va_P (dC, dI) cls [(q, .inr (15, F15))] H := hP
      have hD : va_D A [(q, .inr (15, F15))] := hD
      refine lv_aload_n hx hb dX15_cut_43 rfl (lv_at hl 0 rfl) ?_
      refine lv_iload_n hx hb dX15_cut_44 rfl (lv_at hl 2 rfl) ?_
      refine va_put (D := (dC, dI)) (ci := 15) (v := .int p1) (ty := .int) (C := RX15) (T := TX15) (N := 163) hx hb ht uX15 tyX15 tkX15 nmX15 hown hK hP hD hS 0 rfl rfl 162 (by decide) (ht _ k_11_110) (fun _ h9 => h9) rfl (by decide +kernel) rfl rfl (by rw [L_F15]; decide) dX15_cut_45 (fun H locs hP hD hS => ?_)
      obtain ⟨F16, eF16⟩ : ∃ g : List Value, g = F15.set 162 (.int p1) := ⟨_, rfl⟩
      rw [← eF16] at hP hD
      have K51_F16 : F16[51]? = some (.int 0) := by rw [eF16, List.getElem?_set_ne (by decide)]; exact K51_F15
      have K54_F16 : F16[54]? = some (.int 0) := by rw [eF16, List.getElem?_set_ne (by decide)]; exact K54_F15
      have K161_F16 : F16[161]? = some (.int p0) := by rw [eF16, List.getElem?_set_ne (by decide)]; exact K161_F15
      have K162_F16 : F16[162]? = some (.int p1) := by rw [eF16]; exact List.getElem?_set_self (by rw [L_F15]; decide)
      have L_F16 : F16.length = 163 := by rw [eF16, List.length_set]; exact L_F15
      have hP : va_P (dC, dI) cls [(q, .inr (15, F16))] H := hP
      have hD : va_D A [(q, .inr (15, F16))] := hD
      refine lv_iconst (v := 1) hx hb dX15_cut_48 (by decide) ?_
      exact W.iret (v := 1) hx hb hr (fun t ht9 hW => ⟨⟨1, (), rfl, (by simp [sp_cut, n10a, n10b, n14a, n14b]), by rw [ht9]; exact hP.sub [] rfl, va_K.moved hW.alike (hK.sub [] rfl), hD.sub [] (by decide) rfl⟩, hS.F ht9⟩) hS.2.2 dX15_cut_49
    · rcases in_no (p := p1) (lo := 0) (hi := 127) ex11 (by decide) (by decide) n14 with n14c | n14c
      · refine lv_if_ne (tgt := 38) hx hb dX15_cut_33 (by decide) (fun c0 => absurd c0 (by decide)) (fun _ => ?_)
        refine lv_iconst (v := (-1)) hx hb dX15_cut_36 (by decide) ?_
        exact W.iret (v := (-1)) hx hb hr (fun t ht9 hW => ⟨⟨(-1), (), rfl, (by simp [sp_cut, n10a, n10b, n14c]), by rw [ht9]; exact hP.sub [] rfl, va_K.moved hW.alike (hK.sub [] rfl), hD.sub [] (by decide) rfl⟩, hS.F ht9⟩) hS.2.2 dX15_cut_37
      · refine lv_if_ne (tgt := 38) hx hb dX15_cut_33 (by decide) (fun c0 => absurd c0 (by decide)) (fun _ => ?_)
        refine lv_iconst (v := (-1)) hx hb dX15_cut_36 (by decide) ?_
        exact W.iret (v := (-1)) hx hb hr (fun t ht9 hW => ⟨⟨(-1), (), rfl, (by simp [sp_cut, n10a, n10b, n14c]), by rw [ht9]; exact hP.sub [] rfl, va_K.moved hW.alike (hK.sub [] rfl), hD.sub [] (by decide) rfl⟩, hS.F ht9⟩) hS.2.2 dX15_cut_37
  · rcases in_no (p := p0) (lo := (-1)) (hi := 400) ex7 (by decide) (by decide) n10 with n10c | n10c
    · refine lv_if_eq (tgt := 36) hx hb dX15_cut_21 (by decide) (fun _ => ?_) (fun c0 => absurd c0 (by decide))
      refine lv_iconst (v := (-1)) hx hb dX15_cut_36 (by decide) ?_
      exact W.iret (v := (-1)) hx hb hr (fun t ht9 hW => ⟨⟨(-1), (), rfl, (by simp [sp_cut, n10c]), by rw [ht9]; exact hP.sub [] rfl, va_K.moved hW.alike (hK.sub [] rfl), hD.sub [] (by decide) rfl⟩, hS.F ht9⟩) hS.2.2 dX15_cut_37
    · refine lv_if_eq (tgt := 36) hx hb dX15_cut_21 (by decide) (fun _ => ?_) (fun c0 => absurd c0 (by decide))
      refine lv_iconst (v := (-1)) hx hb dX15_cut_36 (by decide) ?_
      exact W.iret (v := (-1)) hx hb hr (fun t ht9 hW => ⟨⟨(-1), (), rfl, (by simp [sp_cut, n10c]), by rw [ht9]; exact hP.sub [] rfl, va_K.moved hW.alike (hK.sub [] rfl), hD.sub [] (by decide) rfl⟩, hS.F ht9⟩) hS.2.2 dX15_cut_37
set_option maxHeartbeats 4000000 in
set_option maxRecDepth 100000 in
theorem r_start (l : Launch) (dC : Nat → ClassId) (dI : Nat → Nat → Nat) (sz : Nat) (q : Nat) (fs : List Value) (L_fs : fs.length = 163) (K54_fs : fs[54]? = some (.int 0)) : Met l yX15_start (Cond.code yX15_start cX15_start 5 (some .int) :: tb) ({ frames := 0, cells := 0, slots := 0, locals := 0 }) (pcw [.ref q] (dC, dI) [(q, .inr (15, fs))] [] sz) (va_Qi (fun (r : Int32) => (fun (_ : Unit) => r = -2)) (bw (dC, dI) (va_A [(q, .inr (15, fs))] sz) (fun (_ : Unit) => []) (fun (_ : Unit) => [])) (va_A [(q, .inr (15, fs))] sz)) 0 0 (va_A [(q, .inr (15, fs))] sz) := by
  refine Met.ofW (cc := cX15_start) (maxL := 5) (ret := (some .int)) (by decide) rfl ?_
  intro p e s m args below meth c s₁ B hml hv
  obtain ⟨rfl, hsz, hP, hK, hD0⟩ := hv
  have hx := B.exec
  have hb := B.bytes
  have hr := B.returns
  have hts := atoms_spec (ws := Cond.code yX15_start cX15_start 5 (some .int) :: tb) B.pre
  have ht : ∀ w ∈ tb, w.before _ s = true := fun w h => hts w (List.mem_cons_of_mem _ h)
  have hown : s.vm.findClass RX15 = some m.cls := findClass_of_methodNamed B.named
  have hlocks := B.notSynchronized
  subst hsz
  have hD := hD0.self (sz := s.heap.size)
  generalize hAe : va_A [(q, .inr (15, fs))] s.heap.size = A at hD ⊢
  have hA : ∀ q : Nat, s.heap.size ≤ q → A q := fun q h => by rw [← hAe]; exact Or.inr h
  have hS : va_S A s.heap s.heap [] := va_S.rf
  have hl := lv_entry ([.ref q]) (n := 5) (Nat.le_of_ble_eq_true rfl)
  rw [lg_entry_eq]
  generalize (lg_sl ([.ref q]) ++ List.replicate (5 - (lg_sl ([.ref q])).length) Slot.unset).toArray = ls at hl ⊢
  have hl : lv_has ls 5 [(0, .ref q)] := hl
  have hP : va_P (dC, dI) cls [(q, .inr (15, fs))] s.heap := hP
  refine lv_aload_n hx hb dX15_start_0 rfl (lv_at hl 0 rfl) ?_
  refine lv_iconst (v := 0) hx hb dX15_start_1 (by decide) ?_
  refine va_put (D := (dC, dI)) (ci := 15) (v := .int 0) (ty := .int) (C := RX15) (T := TX15) (N := 163) hx hb ht uX15 tyX15 tkX15 nmX15 hown hK hP hD hS 0 rfl rfl 51 (by decide) (ht _ k_10_239) (fun _ h9 => h9) rfl (by decide +kernel) rfl rfl (by rw [L_fs]; decide) dX15_start_2 (fun H locs hP hD hS => ?_)
  obtain ⟨F1, eF1⟩ : ∃ g : List Value, g = fs.set 51 (.int 0) := ⟨_, rfl⟩
  rw [← eF1] at hP hD
  have K54_F1 : F1[54]? = some (.int 0) := by rw [eF1, List.getElem?_set_ne (by decide)]; exact K54_fs
  have K51_F1 : F1[51]? = some (.int 0) := by rw [eF1]; exact List.getElem?_set_self (by rw [L_fs]; decide)
  have L_F1 : F1.length = 163 := by rw [eF1, List.length_set]; exact L_fs
  have hP : va_P (dC, dI) cls [(q, .inr (15, F1))] H := hP
  have hD : va_D A [(q, .inr (15, F1))] := hD
  refine lv_aload_n hx hb dX15_start_5 rfl (lv_at hl 0 rfl) ?_
  refine va_get (D := (dC, dI)) (ci := 15) (v := .int 0) (C := RX15) (T := TX15) (N := 163) hx hb ht uX15 hown hK hP 0 rfl rfl 54 (by decide) (ht _ k_11_2) (fun _ h9 => h9) K54_F1 dX15_start_6 ?_
  refine lv_if_ne (tgt := 15) hx hb dX15_start_9 (by decide) (fun c0 => absurd c0 (by decide)) (fun _ => ?_)
  refine lv_bipush (v := (-2)) hx hb dX15_start_12 (by decide) ?_
  exact W.iret (v := (-2)) hx hb hr (fun t ht9 hW => ⟨⟨(-2), (), rfl, rfl, by rw [ht9]; exact hP.sub [] rfl, va_K.moved hW.alike (hK.sub [] rfl), hD.sub [] (by decide) rfl⟩, hS.F ht9⟩) hS.2.2 dX15_start_14
