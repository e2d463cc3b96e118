abbrev RJT : String := "java/lang/Throwable"
abbrev cJT_init4 : ByteArray := prog_28_method_5_code
abbrev yJT_init4 : MethodName := ⟨RJT, "<init>", "(Ljava/lang/String;Ljava/lang/Throwable;ZZ)V"⟩
abbrev RJE : String := "java/lang/Exception"
abbrev cJE_init4 : ByteArray := prog_18_method_5_code
abbrev yJE_init4 : MethodName := ⟨RJE, "<init>", "(Ljava/lang/String;Ljava/lang/Throwable;ZZ)V"⟩
abbrev RJR : String := "java/lang/RuntimeException"
abbrev cJR_init4 : ByteArray := prog_23_method_5_code
abbrev yJR_init4 : MethodName := ⟨RJR, "<init>", "(Ljava/lang/String;Ljava/lang/Throwable;ZZ)V"⟩
theorem k_1_55 : Jvm.Cond.fieldLink "java/lang/String" (38 : Nat) "java/lang/String" "COMPACT_STRINGS" "Z" ∈ tb := tb1 55 (by decide +kernel) (by decide +kernel)
theorem dJ0_coder_7d493_0 : decode cJ0_coder_7d493 0 = .ok (.getstatic 38, 3) := by decide +kernel
theorem dJ0_coder_7d493_3 : decode cJ0_coder_7d493 3 = .ok (.ifCond .eq 10, 3) := by decide +kernel
theorem dJ0_coder_7d493_6 : decode cJ0_coder_7d493 6 = .ok (.aload_n 0, 1) := by decide +kernel
theorem k_16_116 : Jvm.Cond.fieldLink "java/lang/String" (15 : Nat) "java/lang/String" "coder" "B" ∈ tb := tb16 116 (by decide +kernel) (by decide +kernel)
theorem dJ0_coder_7d493_7 : decode cJ0_coder_7d493 7 = .ok (.getfield 15, 3) := by decide +kernel
theorem dJ0_coder_7d493_10 : decode cJ0_coder_7d493 10 = .ok (.goto 4, 3) := by decide +kernel
theorem dJ0_coder_7d493_14 : decode cJ0_coder_7d493 14 = .ok (.ireturn, 1) := by decide +kernel
theorem dJ0_isLatin1_aae02_0 : decode cJ0_isLatin1_aae02 0 = .ok (.getstatic 38, 3) := by decide +kernel
theorem dJ0_isLatin1_aae02_3 : decode cJ0_isLatin1_aae02 3 = .ok (.ifCond .eq 14, 3) := by decide +kernel
theorem dJ0_isLatin1_aae02_6 : decode cJ0_isLatin1_aae02 6 = .ok (.aload_n 0, 1) := by decide +kernel
theorem dJ0_isLatin1_aae02_7 : decode cJ0_isLatin1_aae02 7 = .ok (.getfield 15, 3) := by decide +kernel
theorem dJ0_isLatin1_aae02_10 : decode cJ0_isLatin1_aae02 10 = .ok (.ifCond .ne 7, 3) := by decide +kernel
theorem dJ0_isLatin1_aae02_13 : decode cJ0_isLatin1_aae02 13 = .ok (.iconst 1, 1) := by decide +kernel
theorem dJ0_isLatin1_aae02_14 : decode cJ0_isLatin1_aae02 14 = .ok (.goto 4, 3) := by decide +kernel
theorem dJ0_isLatin1_aae02_18 : decode cJ0_isLatin1_aae02 18 = .ok (.ireturn, 1) := by decide +kernel
theorem dJ0_length_8abf5_0 : decode cJ0_length_8abf5 0 = .ok (.aload_n 0, 1) := by decide +kernel
theorem k_16_115 : Jvm.Cond.fieldLink "java/lang/String" (9 : Nat) "java/lang/String" "value" "[B" ∈ tb := tb16 115 (by decide +kernel) (by decide +kernel)
theorem dJ0_length_8abf5_1 : decode cJ0_length_8abf5 1 = .ok (.getfield 9, 3) := by decide +kernel
theorem dJ0_length_8abf5_4 : decode cJ0_length_8abf5 4 = .ok (.arraylength, 1) := by decide +kernel
theorem dJ0_length_8abf5_5 : decode cJ0_length_8abf5 5 = .ok (.aload_n 0, 1) := by decide +kernel
theorem k_1_54 : Jvm.Cond.code ({ cls := "java/lang/String", name := "coder", desc := "()B" } : Jvm.MethodName) prog_24_method_152_code (1 : Nat) (Option.some Jvm.ClassFile.FieldType.byte) ∈ tb := tb1 54 (by decide +kernel) (by decide +kernel)
theorem k_1_51 : Jvm.Cond.methodLink "java/lang/String" (335 : Nat) ({ cls := "java/lang/String", name := "coder", desc := "()B" } : Jvm.MethodName) ∈ tb := tb1 51 (by decide +kernel) (by decide +kernel)
theorem k_1_52 : Jvm.Cond.instanceMethod ({ cls := "java/lang/String", name := "coder", desc := "()B" } : Jvm.MethodName) ∈ tb := tb1 52 (by decide +kernel) (by decide +kernel)
theorem k_1_53 : Jvm.Cond.selects "java/lang/String" ({ cls := "java/lang/String", name := "coder", desc := "()B" } : Jvm.MethodName) ({ cls := "java/lang/String", name := "coder", desc := "()B" } : Jvm.MethodName) ∈ tb := tb1 53 (by decide +kernel) (by decide +kernel)
theorem k_1_3 : Jvm.Cond.initialized "java/lang/String" ∈ tb := tb1 3 (by decide +kernel) (by decide +kernel)
theorem dJ0_length_8abf5_6 : decode cJ0_length_8abf5 6 = .ok (.invokevirtual 335, 3) := by decide +kernel
theorem dJ0_length_8abf5_9 : decode cJ0_length_8abf5 9 = .ok (.ishr, 1) := by decide +kernel
theorem dJ0_length_8abf5_10 : decode cJ0_length_8abf5 10 = .ok (.ireturn, 1) := by decide +kernel
theorem dJ3_checkIndex_8e157_0 : decode cJ3_checkIndex_8e157 0 = .ok (.iload_n 0, 1) := by decide +kernel
theorem dJ3_checkIndex_8e157_1 : decode cJ3_checkIndex_8e157 1 = .ok (.ifCond .lt 8, 3) := by decide +kernel
theorem dJ3_checkIndex_8e157_4 : decode cJ3_checkIndex_8e157 4 = .ok (.iload_n 0, 1) := by decide +kernel
theorem dJ3_checkIndex_8e157_5 : decode cJ3_checkIndex_8e157 5 = .ok (.iload_n 1, 1) := by decide +kernel
theorem dJ3_checkIndex_8e157_6 : decode cJ3_checkIndex_8e157 6 = .ok (.if_icmp .lt 10, 3) := by decide +kernel
theorem dJ3_checkIndex_8e157_16 : decode cJ3_checkIndex_8e157 16 = .ok (.iload_n 0, 1) := by decide +kernel
theorem dJ3_checkIndex_8e157_17 : decode cJ3_checkIndex_8e157 17 = .ok (.ireturn, 1) := by decide +kernel
theorem dJ0_checkIndex_df160_0 : decode cJ0_checkIndex_df160 0 = .ok (.iload_n 0, 1) := by decide +kernel
theorem dJ0_checkIndex_df160_1 : decode cJ0_checkIndex_df160 1 = .ok (.iload_n 1, 1) := by decide +kernel
theorem k_1_71 : Jvm.Cond.fieldLink "java/lang/String" (1053 : Nat) "jdk/internal/util/Preconditions" "SIOOBE_FORMATTER" "Ljava/util/function/BiFunction;" ∈ tb := tb1 71 (by decide +kernel) (by decide +kernel)
theorem dJ0_checkIndex_df160_2 : decode cJ0_checkIndex_df160 2 = .ok (.getstatic 1053, 3) := by decide +kernel
theorem k_1_75 : Jvm.Cond.code ({ cls := "jdk/internal/util/Preconditions", name := "checkIndex", desc := "(IILjava/util/function/BiFunction;)I" } : Jvm.MethodName) prog_30_method_11_code (3 : Nat) (Option.some Jvm.ClassFile.FieldType.int) ∈ tb := tb1 75 (by decide +kernel) (by decide +kernel)
theorem k_1_5 : Jvm.Cond.initialized "jdk/internal/util/Preconditions" ∈ tb := tb1 5 (by decide +kernel) (by decide +kernel)
theorem k_1_73 : Jvm.Cond.methodLink "java/lang/String" (1059 : Nat) ({ cls := "jdk/internal/util/Preconditions", name := "checkIndex", desc := "(IILjava/util/function/BiFunction;)I" } : Jvm.MethodName) ∈ tb := tb1 73 (by decide +kernel) (by decide +kernel)
theorem k_1_74 : Jvm.Cond.static ({ cls := "jdk/internal/util/Preconditions", name := "checkIndex", desc := "(IILjava/util/function/BiFunction;)I" } : Jvm.MethodName) ∈ tb := tb1 74 (by decide +kernel) (by decide +kernel)
theorem dJ0_checkIndex_df160_5 : decode cJ0_checkIndex_df160 5 = .ok (.invokestatic 1059, 3) := by decide +kernel
theorem dJ0_checkIndex_df160_8 : decode cJ0_checkIndex_df160 8 = .ok (.pop, 1) := by decide +kernel
theorem dJ0_checkIndex_df160_9 : decode cJ0_checkIndex_df160 9 = .ok (.return_, 1) := by decide +kernel
theorem dJ1_charAt_3b067_0 : decode cJ1_charAt_3b067 0 = .ok (.iload_n 1, 1) := by decide +kernel
theorem dJ1_charAt_3b067_1 : decode cJ1_charAt_3b067 1 = .ok (.aload_n 0, 1) := by decide +kernel
theorem dJ1_charAt_3b067_2 : decode cJ1_charAt_3b067 2 = .ok (.arraylength, 1) := by decide +kernel
theorem k_1_70 : Jvm.Cond.code ({ cls := "java/lang/String", name := "checkIndex", desc := "(II)V" } : Jvm.MethodName) prog_24_method_155_code (2 : Nat) (Option.none : Option Jvm.ClassFile.FieldType) ∈ tb := tb1 70 (by decide +kernel) (by decide +kernel)
theorem k_1_68 : Jvm.Cond.methodLink "java/lang/StringLatin1" (9 : Nat) ({ cls := "java/lang/String", name := "checkIndex", desc := "(II)V" } : Jvm.MethodName) ∈ tb := tb1 68 (by decide +kernel) (by decide +kernel)
theorem k_1_69 : Jvm.Cond.static ({ cls := "java/lang/String", name := "checkIndex", desc := "(II)V" } : Jvm.MethodName) ∈ tb := tb1 69 (by decide +kernel) (by decide +kernel)
theorem dJ1_charAt_3b067_3 : decode cJ1_charAt_3b067 3 = .ok (.invokestatic 9, 3) := by decide +kernel
theorem dJ1_charAt_3b067_6 : decode cJ1_charAt_3b067 6 = .ok (.aload_n 0, 1) := by decide +kernel
theorem dJ1_charAt_3b067_7 : decode cJ1_charAt_3b067 7 = .ok (.iload_n 1, 1) := by decide +kernel
theorem dJ1_charAt_3b067_8 : decode cJ1_charAt_3b067 8 = .ok (.baload, 1) := by decide +kernel
theorem dJ1_charAt_3b067_9 : decode cJ1_charAt_3b067 9 = .ok (.sipush 255, 3) := by decide +kernel
theorem dJ1_charAt_3b067_12 : decode cJ1_charAt_3b067 12 = .ok (.iand, 1) := by decide +kernel
theorem dJ1_charAt_3b067_13 : decode cJ1_charAt_3b067 13 = .ok (.i2c, 1) := by decide +kernel
theorem dJ1_charAt_3b067_14 : decode cJ1_charAt_3b067 14 = .ok (.ireturn, 1) := by decide +kernel
theorem dJ0_charAt_5068e_0 : decode cJ0_charAt_5068e 0 = .ok (.aload_n 0, 1) := by decide +kernel
theorem k_1_64 : Jvm.Cond.code ({ cls := "java/lang/String", name := "isLatin1", desc := "()Z" } : Jvm.MethodName) prog_24_method_154_code (1 : Nat) (Option.some Jvm.ClassFile.FieldType.boolean) ∈ tb := tb1 64 (by decide +kernel) (by decide +kernel)
theorem k_1_61 : Jvm.Cond.methodLink "java/lang/String" (492 : Nat) ({ cls := "java/lang/String", name := "isLatin1", desc := "()Z" } : Jvm.MethodName) ∈ tb := tb1 61 (by decide +kernel) (by decide +kernel)
theorem k_1_62 : Jvm.Cond.instanceMethod ({ cls := "java/lang/String", name := "isLatin1", desc := "()Z" } : Jvm.MethodName) ∈ tb := tb1 62 (by decide +kernel) (by decide +kernel)
theorem k_1_63 : Jvm.Cond.selects "java/lang/String" ({ cls := "java/lang/String", name := "isLatin1", desc := "()Z" } : Jvm.MethodName) ({ cls := "java/lang/String", name := "isLatin1", desc := "()Z" } : Jvm.MethodName) ∈ tb := tb1 63 (by decide +kernel) (by decide +kernel)
theorem dJ0_charAt_5068e_1 : decode cJ0_charAt_5068e 1 = .ok (.invokevirtual 492, 3) := by decide +kernel
theorem dJ0_charAt_5068e_4 : decode cJ0_charAt_5068e 4 = .ok (.ifCond .eq 12, 3) := by decide +kernel
theorem dJ0_charAt_5068e_7 : decode cJ0_charAt_5068e 7 = .ok (.aload_n 0, 1) := by decide +kernel
theorem dJ0_charAt_5068e_8 : decode cJ0_charAt_5068e 8 = .ok (.getfield 9, 3) := by decide +kernel
theorem dJ0_charAt_5068e_11 : decode cJ0_charAt_5068e 11 = .ok (.iload_n 1, 1) := by decide +kernel
theorem k_1_67 : Jvm.Cond.code ({ cls := "java/lang/StringLatin1", name := "charAt", desc := "([BI)C" } : Jvm.MethodName) prog_25_method_2_code (2 : Nat) (Option.some Jvm.ClassFile.FieldType.char) ∈ tb := tb1 67 (by decide +kernel) (by decide +kernel)
theorem k_1_4 : Jvm.Cond.initialized "java/lang/StringLatin1" ∈ tb := tb1 4 (by decide +kernel) (by decide +kernel)
theorem k_1_65 : Jvm.Cond.methodLink "java/lang/String" (495 : Nat) ({ cls := "java/lang/StringLatin1", name := "charAt", desc := "([BI)C" } : Jvm.MethodName) ∈ tb := tb1 65 (by decide +kernel) (by decide +kernel)
theorem k_1_66 : Jvm.Cond.static ({ cls := "java/lang/StringLatin1", name := "charAt", desc := "([BI)C" } : Jvm.MethodName) ∈ tb := tb1 66 (by decide +kernel) (by decide +kernel)
theorem dJ0_charAt_5068e_12 : decode cJ0_charAt_5068e 12 = .ok (.invokestatic 495, 3) := by decide +kernel
theorem dJ0_charAt_5068e_15 : decode cJ0_charAt_5068e 15 = .ok (.ireturn, 1) := by decide +kernel
theorem dJT_init4_0 : decode cJT_init4 0 = .ok (.aload_n 0, 1) := by decide +kernel
theorem k_9_122 : Jvm.Cond.methodLink "java/lang/Throwable" (1 : Nat) ({ cls := "java/lang/Object", name := "<init>", desc := "()V" } : Jvm.MethodName) ∈ tb := tb9 122 (by decide +kernel) (by decide +kernel)
theorem dJT_init4_1 : decode cJT_init4 1 = .ok (.invokespecial 1, 3) := by decide +kernel
theorem dJT_init4_4 : decode cJT_init4 4 = .ok (.aload_n 0, 1) := by decide +kernel
theorem dJT_init4_5 : decode cJT_init4 5 = .ok (.aload_n 0, 1) := by decide +kernel
theorem k_9_154 : Jvm.Cond.fieldLink "java/lang/Throwable" (7 : Nat) "java/lang/Throwable" "cause" "Ljava/lang/Throwable;" ∈ tb := tb9 154 (by decide +kernel) (by decide +kernel)
theorem dJT_init4_6 : decode cJT_init4 6 = .ok (.putfield 7, 3) := by decide +kernel
theorem dJT_init4_9 : decode cJT_init4 9 = .ok (.aload_n 0, 1) := by decide +kernel
theorem k_9_123 : Jvm.Cond.fieldLink "java/lang/Throwable" (13 : Nat) "java/lang/Throwable" "UNASSIGNED_STACK" "[Ljava/lang/StackTraceElement;" ∈ tb := tb9 123 (by decide +kernel) (by decide +kernel)
theorem dJT_init4_10 : decode cJT_init4 10 = .ok (.getstatic 13, 3) := by decide +kernel
theorem k_9_155 : Jvm.Cond.fieldLink "java/lang/Throwable" (17 : Nat) "java/lang/Throwable" "stackTrace" "[Ljava/lang/StackTraceElement;" ∈ tb := tb9 155 (by decide +kernel) (by decide +kernel)
theorem dJT_init4_13 : decode cJT_init4 13 = .ok (.putfield 17, 3) := by decide +kernel
theorem dJT_init4_16 : decode cJT_init4 16 = .ok (.aload_n 0, 1) := by decide +kernel
theorem k_9_125 : Jvm.Cond.fieldLink "java/lang/Throwable" (20 : Nat) "java/lang/Throwable" "SUPPRESSED_SENTINEL" "Ljava/util/List;" ∈ tb := tb9 125 (by decide +kernel) (by decide +kernel)
theorem dJT_init4_17 : decode cJT_init4 17 = .ok (.getstatic 20, 3) := by decide +kernel
theorem k_9_156 : Jvm.Cond.fieldLink "java/lang/Throwable" (24 : Nat) "java/lang/Throwable" "suppressedExceptions" "Ljava/util/List;" ∈ tb := tb9 156 (by decide +kernel) (by decide +kernel)
theorem dJT_init4_20 : decode cJT_init4 20 = .ok (.putfield 24, 3) := by decide +kernel
theorem dJT_init4_23 : decode cJT_init4 23 = .ok (.iload 4, 2) := by decide +kernel
theorem dJT_init4_25 : decode cJT_init4 25 = .ok (.ifCond .eq 11, 3) := by decide +kernel
theorem dJT_init4_36 : decode cJT_init4 36 = .ok (.aload_n 0, 1) := by decide +kernel
theorem dJT_init4_37 : decode cJT_init4 37 = .ok (.aconst_null, 1) := by decide +kernel
theorem dJT_init4_38 : decode cJT_init4 38 = .ok (.putfield 17, 3) := by decide +kernel
theorem dJT_init4_41 : decode cJT_init4 41 = .ok (.aload_n 0, 1) := by decide +kernel
theorem dJT_init4_42 : decode cJT_init4 42 = .ok (.aload_n 1, 1) := by decide +kernel
theorem k_9_153 : Jvm.Cond.fieldLink "java/lang/Throwable" (31 : Nat) "java/lang/Throwable" "detailMessage" "Ljava/lang/String;" ∈ tb := tb9 153 (by decide +kernel) (by decide +kernel)
theorem dJT_init4_43 : decode cJT_init4 43 = .ok (.putfield 31, 3) := by decide +kernel
theorem dJT_init4_46 : decode cJT_init4 46 = .ok (.aload_n 0, 1) := by decide +kernel
theorem dJT_init4_47 : decode cJT_init4 47 = .ok (.aload_n 2, 1) := by decide +kernel
theorem dJT_init4_48 : decode cJT_init4 48 = .ok (.putfield 7, 3) := by decide +kernel
theorem dJT_init4_51 : decode cJT_init4 51 = .ok (.iload_n 3, 1) := by decide +kernel
theorem dJT_init4_52 : decode cJT_init4 52 = .ok (.ifCond .ne 8, 3) := by decide +kernel
theorem dJT_init4_55 : decode cJT_init4 55 = .ok (.aload_n 0, 1) := by decide +kernel
theorem dJT_init4_56 : decode cJT_init4 56 = .ok (.aconst_null, 1) := by decide +kernel
theorem dJT_init4_57 : decode cJT_init4 57 = .ok (.putfield 24, 3) := by decide +kernel
theorem dJT_init4_60 : decode cJT_init4 60 = .ok (.return_, 1) := by decide +kernel
theorem dJE_init4_0 : decode cJE_init4 0 = .ok (.aload_n 0, 1) := by decide +kernel
theorem dJE_init4_1 : decode cJE_init4 1 = .ok (.aload_n 1, 1) := by decide +kernel
theorem dJE_init4_2 : decode cJE_init4 2 = .ok (.aload_n 2, 1) := by decide +kernel
theorem dJE_init4_3 : decode cJE_init4 3 = .ok (.iload_n 3, 1) := by decide +kernel
theorem dJE_init4_4 : decode cJE_init4 4 = .ok (.iload 4, 2) := by decide +kernel
theorem k_10_15 : Jvm.Cond.code ({ cls := "java/lang/Throwable", name := "<init>", desc := "(Ljava/lang/String;Ljava/lang/Throwable;ZZ)V" } : Jvm.MethodName) prog_28_method_5_code (5 : Nat) (Option.none : Option Jvm.ClassFile.FieldType) ∈ tb := tb10 15 (by decide +kernel) (by decide +kernel)
theorem k_1_18 : Jvm.Cond.initialized "java/lang/Throwable" ∈ tb := tb1 18 (by decide +kernel) (by decide +kernel)
theorem k_10_13 : Jvm.Cond.methodLink "java/lang/Exception" (16 : Nat) ({ cls := "java/lang/Throwable", name := "<init>", desc := "(Ljava/lang/String;Ljava/lang/Throwable;ZZ)V" } : Jvm.MethodName) ∈ tb := tb10 13 (by decide +kernel) (by decide +kernel)
theorem k_10_14 : Jvm.Cond.instanceMethod ({ cls := "java/lang/Throwable", name := "<init>", desc := "(Ljava/lang/String;Ljava/lang/Throwable;ZZ)V" } : Jvm.MethodName) ∈ tb := tb10 14 (by decide +kernel) (by decide +kernel)
theorem dJE_init4_6 : decode cJE_init4 6 = .ok (.invokespecial 16, 3) := by decide +kernel
theorem dJE_init4_9 : decode cJE_init4 9 = .ok (.return_, 1) := by decide +kernel
theorem dJR_init4_0 : decode cJR_init4 0 = .ok (.aload_n 0, 1) := by decide +kernel
theorem dJR_init4_1 : decode cJR_init4 1 = .ok (.aload_n 1, 1) := by decide +kernel
theorem dJR_init4_2 : decode cJR_init4 2 = .ok (.aload_n 2, 1) := by decide +kernel
theorem dJR_init4_3 : decode cJR_init4 3 = .ok (.iload_n 3, 1) := by decide +kernel
theorem dJR_init4_4 : decode cJR_init4 4 = .ok (.iload 4, 2) := by decide +kernel
theorem k_10_12 : Jvm.Cond.code ({ cls := "java/lang/Exception", name := "<init>", desc := "(Ljava/lang/String;Ljava/lang/Throwable;ZZ)V" } : Jvm.MethodName) prog_18_method_5_code (5 : Nat) (Option.none : Option Jvm.ClassFile.FieldType) ∈ tb := tb10 12 (by decide +kernel) (by decide +kernel)
theorem k_1_19 : Jvm.Cond.initialized "java/lang/Exception" ∈ tb := tb1 19 (by decide +kernel) (by decide +kernel)
theorem k_10_10 : Jvm.Cond.methodLink "java/lang/RuntimeException" (16 : Nat) ({ cls := "java/lang/Exception", name := "<init>", desc := "(Ljava/lang/String;Ljava/lang/Throwable;ZZ)V" } : Jvm.MethodName) ∈ tb := tb10 10 (by decide +kernel) (by decide +kernel)
theorem k_10_11 : Jvm.Cond.instanceMethod ({ cls := "java/lang/Exception", name := "<init>", desc := "(Ljava/lang/String;Ljava/lang/Throwable;ZZ)V" } : Jvm.MethodName) ∈ tb := tb10 11 (by decide +kernel) (by decide +kernel)
theorem dJR_init4_6 : decode cJR_init4 6 = .ok (.invokespecial 16, 3) := by decide +kernel
theorem dJR_init4_9 : decode cJR_init4 9 = .ok (.return_, 1) := by decide +kernel
theorem dX13_init_0 : decode cX13_init 0 = .ok (.aload_n 0, 1) := by decide +kernel
theorem dX13_init_1 : decode cX13_init 1 = .ok (.aconst_null, 1) := by decide +kernel
theorem dX13_init_2 : decode cX13_init 2 = .ok (.aconst_null, 1) := by decide +kernel
theorem dX13_init_3 : decode cX13_init 3 = .ok (.iconst 0, 1) := by decide +kernel
theorem dX13_init_4 : decode cX13_init 4 = .ok (.iconst 0, 1) := by decide +kernel
theorem k_10_9 : Jvm.Cond.code ({ cls := "java/lang/RuntimeException", name := "<init>", desc := "(Ljava/lang/String;Ljava/lang/Throwable;ZZ)V" } : Jvm.MethodName) prog_23_method_5_code (5 : Nat) (Option.none : Option Jvm.ClassFile.FieldType) ∈ tb := tb10 9 (by decide +kernel) (by decide +kernel)
theorem k_1_20 : Jvm.Cond.initialized "java/lang/RuntimeException" ∈ tb := tb1 20 (by decide +kernel) (by decide +kernel)
theorem k_10_7 : Jvm.Cond.methodLink "FinderHouseModel$Bad" (1 : Nat) ({ cls := "java/lang/RuntimeException", name := "<init>", desc := "(Ljava/lang/String;Ljava/lang/Throwable;ZZ)V" } : Jvm.MethodName) ∈ tb := tb10 7 (by decide +kernel) (by decide +kernel)
theorem k_10_8 : Jvm.Cond.instanceMethod ({ cls := "java/lang/RuntimeException", name := "<init>", desc := "(Ljava/lang/String;Ljava/lang/Throwable;ZZ)V" } : Jvm.MethodName) ∈ tb := tb10 8 (by decide +kernel) (by decide +kernel)
theorem dX13_init_5 : decode cX13_init 5 = .ok (.invokespecial 1, 3) := by decide +kernel
theorem dX13_init_8 : decode cX13_init 8 = .ok (.return_, 1) := by decide +kernel
/-- a loop: what holds at its head, and a measure that falls -/
theorem lp_rule {α : Type} (G : Heap → List Loc → Array Slot → Prop) (I : α → Heap → List Loc → Array Slot → Prop) (μ : α → Nat) (step : ∀ (z : α) (H : Heap) (locs : List Loc) (ls : Array Slot), I z H locs ls → (∀ (z' : α) (H' : Heap) (locs' : List Loc) (ls' : Array Slot), μ z' < μ z → I z' H' locs' ls' → G H' locs' ls') → G H locs ls) : ∀ (z : α) (H : Heap) (locs : List Loc) (ls : Array Slot), I z H locs ls → G H locs ls := by
  have h : ∀ (n : Nat) (z : α) (H : Heap) (locs : List Loc) (ls : Array Slot), μ z < n → I z H locs ls → G H locs ls := by
    intro n
    induction n with
    | zero => intro z H locs ls h; exact absurd h (Nat.not_lt_zero _)
    | succ n ih => intro z H locs ls h hI; exact step z H locs ls hI (fun z' H' locs' ls' hm hI' => ih z' H' locs' ls' (by omega) hI')
  intro z H locs ls hI
  exact h (μ z + 1) z H locs ls (Nat.lt_succ_self _) hI
theorem st_recv {E : String} {q : Nat} {A : Nat → Prop} {s : State} {H : Heap} {locs : List Loc} (h : va_O E q A s s.heap) (hS : va_S A s.heap H locs) : ∃ cell : Cell, H[q]? = some cell ∧ cell.vm.isStatics = false ∧ s.vm.findClass E = some cell.cls := by
  obtain ⟨cell, h1, h2, h3, -⟩ := h.kept hS.2.1
  exact ⟨cell, h1, h2, h3⟩
/-- a letter of a text -/
def chr (bs : List Int32) (i : Int32) : Int32 := ((bs.getD i.toNatClampNeg 0 &&& 255).toUInt32 % 65536).toInt32
set_option maxHeartbeats 4000000 in
set_option maxRecDepth 100000 in
theorem j_coder (l : Launch) (dC : Nat → ClassId) (dI : Nat → Nat → Nat) (sz : Nat) (sq : Nat) (sv : Nat) (bs : List Int32)  : Met l yJ0_coder_7d493 (Cond.code yJ0_coder_7d493 cJ0_coder_7d493 1 (some .byte) :: tb) ({ frames := 0, cells := 0, slots := 0, locals := 0 }) (pcx [.inr (.inr (.inl (sq, sv, bs))), .inl ("java/lang/String", "COMPACT_STRINGS", "Z", .int 1)] [.ref sq] (dC, dI) [] [] sz) (va_Qi (fun (r : Int32) => (fun (_ : Unit) => r = 0)) (bw (dC, dI) (va_A [] sz) (fun (_ : Unit) => []) (fun (_ : Unit) => [])) (va_A [] sz)) 0 0 (va_A [] sz) := by
  refine Met.ofW (cc := cJ0_coder_7d493) (maxL := 1) (ret := (some .byte)) (by decide) rfl ?_
  intro p e s m args below meth c s₁ B hml hv
  obtain ⟨rfl, hsz, hP, hK, hD0, hE⟩ := hv
  have hx := B.exec
  have hb := B.bytes
  have hr := B.returns
  have hts := atoms_spec (ws := Cond.code yJ0_coder_7d493 cJ0_coder_7d493 1 (some .byte) :: tb) B.pre
  have ht : ∀ w ∈ tb, w.before _ s = true := fun w h => hts w (List.mem_cons_of_mem _ h)
  have hown : s.vm.findClass RJ0 = some m.cls := findClass_of_methodNamed B.named
  have hlocks := B.notSynchronized
  subst hsz
  have hD := hD0.self (sz := s.heap.size)
  generalize hAe : va_A [] s.heap.size = A at hD hE ⊢
  have hA : ∀ q : Nat, s.heap.size ≤ q → A q := fun q h => by rw [← hAe]; exact Or.inr h
  have hS : va_S A s.heap s.heap [] := va_S.rf
  have hl := lv_entry ([.ref sq]) (n := 1) (Nat.le_of_ble_eq_true rfl)
  rw [lg_entry_eq]
  generalize (lg_sl ([.ref sq]) ++ List.replicate (1 - (lg_sl ([.ref sq])).length) Slot.unset).toArray = ls at hl ⊢
  have hl : lv_has ls 1 [(0, .ref sq)] := hl
  have hP : va_P (dC, dI) cls [] s.heap := hP
  refine va_gets (v := .int 1) hx hb (xf_z hE 1 rfl) hS hown (ht _ k_1_55) (fun _ h9 => h9) dJ0_coder_7d493_0 ?_
  refine lv_if_eq (tgt := 13) hx hb dJ0_coder_7d493_3 (by decide) (fun c0 => absurd c0 (by decide)) (fun _ => ?_)
  refine lv_aload_n hx hb dJ0_coder_7d493_6 rfl (lv_at hl 0 rfl) ?_
  refine vk_getf (v := .int 0) hx hb (xf_s hE 0 rfl).2.1 hS hown (ht _ k_16_116) (fun _ h9 => h9) dJ0_coder_7d493_7 ?_
  refine lv_goto (tgt := 14) hx hb dJ0_coder_7d493_10 (by decide) ?_
  exact W.zret (v := 0) hx hb hr rfl (fun t ht9 hW => ⟨⟨0, (), rfl, rfl, by rw [ht9]; exact hP.sub [] rfl, va_K.moved hW.alike (hK.sub [] rfl), hD.sub [] (by decide) rfl⟩, hS.F ht9⟩) hS.2.2 dJ0_coder_7d493_14
set_option maxHeartbeats 4000000 in
set_option maxRecDepth 100000 in
theorem j_isLatin1 (l : Launch) (dC : Nat → ClassId) (dI : Nat → Nat → Nat) (sz : Nat) (sq : Nat) (sv : Nat) (bs : List Int32)  : Met l yJ0_isLatin1_aae02 (Cond.code yJ0_isLatin1_aae02 cJ0_isLatin1_aae02 1 (some .boolean) :: tb) ({ frames := 0, cells := 0, slots := 0, locals := 0 }) (pcx [.inr (.inr (.inl (sq, sv, bs))), .inl ("java/lang/String", "COMPACT_STRINGS", "Z", .int 1)] [.ref sq] (dC, dI) [] [] sz) (va_Qi (fun (r : Int32) => (fun (_ : Unit) => r = 1)) (bw (dC, dI) (va_A [] sz) (fun (_ : Unit) => []) (fun (_ : Unit) => [])) (va_A [] sz)) 0 0 (va_A [] sz) := by
  refine Met.ofW (cc := cJ0_isLatin1_aae02) (maxL := 1) (ret := (some .boolean)) (by decide) rfl ?_
  intro p e s m args below meth c s₁ B hml hv
  obtain ⟨rfl, hsz, hP, hK, hD0, hE⟩ := hv
  have hx := B.exec
  have hb := B.bytes
  have hr := B.returns
  have hts := atoms_spec (ws := Cond.code yJ0_isLatin1_aae02 cJ0_isLatin1_aae02 1 (some .boolean) :: tb) B.pre
  have ht : ∀ w ∈ tb, w.before _ s = true := fun w h => hts w (List.mem_cons_of_mem _ h)
  have hown : s.vm.findClass RJ0 = some m.cls := findClass_of_methodNamed B.named
  have hlocks := B.notSynchronized
  subst hsz
  have hD := hD0.self (sz := s.heap.size)
  generalize hAe : va_A [] s.heap.size = A at hD hE ⊢
  have hA : ∀ q : Nat, s.heap.size ≤ q → A q := fun q h => by rw [← hAe]; exact Or.inr h
  have hS : va_S A s.heap s.heap [] := va_S.rf
  have hl := lv_entry ([.ref sq]) (n := 1) (Nat.le_of_ble_eq_true rfl)
  rw [lg_entry_eq]
  generalize (lg_sl ([.ref sq]) ++ List.replicate (1 - (lg_sl ([.ref sq])).length) Slot.unset).toArray = ls at hl ⊢
  have hl : lv_has ls 1 [(0, .ref sq)] := hl
  have hP : va_P (dC, dI) cls [] s.heap := hP
  refine va_gets (v := .int 1) hx hb (xf_z hE 1 rfl) hS hown (ht _ k_1_55) (fun _ h9 => h9) dJ0_isLatin1_aae02_0 ?_
  refine lv_if_eq (tgt := 17) hx hb dJ0_isLatin1_aae02_3 (by decide) (fun c0 => absurd c0 (by decide)) (fun _ => ?_)
  refine lv_aload_n hx hb dJ0_isLatin1_aae02_6 rfl (lv_at hl 0 rfl) ?_
  refine vk_getf (v := .int 0) hx hb (xf_s hE 0 rfl).2.1 hS hown (ht _ k_16_116) (fun _ h9 => h9) dJ0_isLatin1_aae02_7 ?_
  refine lv_if_ne (tgt := 17) hx hb dJ0_isLatin1_aae02_10 (by decide) (fun c0 => absurd c0 (by decide)) (fun _ => ?_)
  refine lv_iconst (v := 1) hx hb dJ0_isLatin1_aae02_13 (by decide) ?_
  refine lv_goto (tgt := 18) hx hb dJ0_isLatin1_aae02_14 (by decide) ?_
  exact W.zret (v := 1) hx hb hr rfl (fun t ht9 hW => ⟨⟨1, (), rfl, rfl, by rw [ht9]; exact hP.sub [] rfl, va_K.moved hW.alike (hK.sub [] rfl), hD.sub [] (by decide) rfl⟩, hS.F ht9⟩) hS.2.2 dJ0_isLatin1_aae02_18
set_option maxHeartbeats 4000000 in
set_option maxRecDepth 100000 in
theorem j_length (l : Launch) (dC : Nat → ClassId) (dI : Nat → Nat → Nat) (sz : Nat) (sq : Nat) (sv : Nat) (bs : List Int32) (hbs : bs.length < 2 ^ 31) : Met l yJ0_length_8abf5 (Cond.code yJ0_length_8abf5 cJ0_length_8abf5 1 (some .int) :: tb) ({ frames := 1, cells := 0, slots := 0, locals := 20 }) (pcx [.inr (.inr (.inl (sq, sv, bs))), .inl ("java/lang/String", "COMPACT_STRINGS", "Z", .int 1)] [.ref sq] (dC, dI) [] [] sz) (va_Qi (fun (r : Int32) => (fun (_ : Unit) => r = nI bs.length)) (bw (dC, dI) (va_A [] sz) (fun (_ : Unit) => []) (fun (_ : Unit) => [])) (va_A [] sz)) 0 0 (va_A [] sz) := by
  refine Met.ofW (cc := cJ0_length_8abf5) (maxL := 1) (ret := (some .int)) (by decide) rfl ?_
  intro p e s m args below meth c s₁ B hml hv
  obtain ⟨rfl, hsz, hP, hK, hD0, hE⟩ := hv
  have hx := B.exec
  have hb := B.bytes
  have hr := B.returns
  have hts := atoms_spec (ws := Cond.code yJ0_length_8abf5 cJ0_length_8abf5 1 (some .int) :: tb) B.pre
  have ht : ∀ w ∈ tb, w.before _ s = true := fun w h => hts w (List.mem_cons_of_mem _ h)
  have hown : s.vm.findClass RJ0 = some m.cls := findClass_of_methodNamed B.named
  have hlocks := B.notSynchronized
  subst hsz
  have hD := hD0.self (sz := s.heap.size)
  generalize hAe : va_A [] s.heap.size = A at hD hE ⊢
  have hA : ∀ q : Nat, s.heap.size ≤ q → A q := fun q h => by rw [← hAe]; exact Or.inr h
  have hS : va_S A s.heap s.heap [] := va_S.rf
  have hl := lv_entry ([.ref sq]) (n := 1) (Nat.le_of_ble_eq_true rfl)
  rw [lg_entry_eq]
  generalize (lg_sl ([.ref sq]) ++ List.replicate (1 - (lg_sl ([.ref sq])).length) Slot.unset).toArray = ls at hl ⊢
  have hl : lv_has ls 1 [(0, .ref sq)] := hl
  have hP : va_P (dC, dI) cls [] s.heap := hP
  refine lv_aload_n hx hb dJ0_length_8abf5_0 rfl (lv_at hl 0 rfl) ?_
  refine vk_getf (v := .ref sv) hx hb (xf_s hE 0 rfl).2.2.1 hS hown (ht _ k_16_115) (fun _ h9 => h9) dJ0_length_8abf5_1 ?_
  refine va_tlen (v := nI bs.length) hx hb (xf_s hE 0 rfl).2.2.2 hS rfl dJ0_length_8abf5_4 ?_
  refine lv_aload_n hx hb dJ0_length_8abf5_5 rfl (lv_at hl 0 rfl) ?_
  refine ca_i (wr := []) (va_runV (As := []) (rest := [.int (nI bs.length)]) ⟨hx, hb, hml, hown, ht⟩ (j_coder l dC dI s.heap.size sq sv bs  ) (cwV 0 ht (gdV k_1_54 k_1_51 k_1_52 k_1_53 k_1_3) rfl rfl rfl (by decide +kernel) ⟨Nat.le_of_ble_eq_true rfl, Nat.le_of_ble_eq_true rfl⟩) ⟨pcx_blind, st_recv (xf_s hE 0 rfl).1 hS, pcx_at hP hD hK hS hA hE [] [] [0, 1] (by decide) rfl rfl rfl rfl⟩ rfl rfl hl.1 rfl (lv_room (Nat.le_of_ble_eq_true rfl)) dJ0_length_8abf5_6 ⟨Nat.le_of_ble_eq_true rfl, Nat.le_of_ble_eq_true rfl⟩) hP hD hK hS hA [] [] rfl rfl (by decide) (by decide) (fun r_1 u H locs w_2 hK hP hD hS => ?_)
  have hK : va_K (dC, dI) cls [] s := hK
  have hP : va_P (dC, dI) cls [] H := hP
  have hD : va_D A [] := hD
  obtain rfl : r_1 = 0 := w_2
  refine lv_ishr hx hb dJ0_length_8abf5_9 ?_
  refine lv_topi (fun x_3 ex_3 => ?_)
  exact W.iret (v := x_3) hx hb hr (fun t ht9 hW => ⟨⟨x_3, (), rfl, (by rw [ex_3]; exact sc_shr0 hbs), by rw [ht9]; exact hP.sub [] rfl, va_K.moved hW.alike (hK.sub [] rfl), hD.sub [] (by decide) rfl⟩, hS.F ht9⟩) hS.2.2 dJ0_length_8abf5_10
theorem in_lt0 {i : Int32} {n : Nat} (h : vp_in i n) : ¬ i < 0 := fun h1 => h (Or.inl h1)
theorem in_lt1 {i : Int32} {n : Nat} (h : vp_in i n) (hn : n < 2 ^ 31) : i < nI n := by
  obtain ⟨j, hj, rfl⟩ := vp_in_of h hn
  exact nI_lt hj hn
set_option maxHeartbeats 4000000 in
set_option maxRecDepth 100000 in
theorem j_pre_n (l : Launch) (dC : Nat → ClassId) (dI : Nat → Nat → Nat) (sz : Nat) (p0 : Int32) (p1 : Int32) (h0 : ¬ p0 < 0) (h1 : p0 < p1) : Met l yJ3_checkIndex_8e157 (Cond.code yJ3_checkIndex_8e157 cJ3_checkIndex_8e157 3 (some .int) :: tb) ({ frames := 0, cells := 0, slots := 0, locals := 0 }) (pcw [.int p0, .int p1, .null] (dC, dI) [] [] sz) (va_Qi (fun (r : Int32) => (fun (_ : Unit) => r = p0)) (bw (dC, dI) (va_A [] sz) (fun (_ : Unit) => []) (fun (_ : Unit) => [])) (va_A [] sz)) 0 0 (va_A [] sz) := by
  refine Met.ofW (cc := cJ3_checkIndex_8e157) (maxL := 3) (ret := (some .int)) (by decide) rfl ?_
  intro p e s m args below meth c s₁ B hml hv
  obtain ⟨rfl, hsz, hP, hK, hD0⟩ := hv
  have hx := B.exec
  have hb := B.bytes
  have hr := B.returns
  have hts := atoms_spec (ws := Cond.code yJ3_checkIndex_8e157 cJ3_checkIndex_8e157 3 (some .int) :: tb) B.pre
  have ht : ∀ w ∈ tb, w.before _ s = true := fun w h => hts w (List.mem_cons_of_mem _ h)
  have hown : s.vm.findClass RJ3 = some m.cls := findClass_of_methodNamed B.named
  have hlocks := B.notSynchronized
  subst hsz
  have hD := hD0.self (sz := s.heap.size)
  generalize hAe : va_A [] s.heap.size = A at hD ⊢
  have hA : ∀ q : Nat, s.heap.size ≤ q → A q := fun q h => by rw [← hAe]; exact Or.inr h
  have hS : va_S A s.heap s.heap [] := va_S.rf
  have hl := lv_entry ([.int p0, .int p1, .null]) (n := 3) (Nat.le_of_ble_eq_true rfl)
  rw [lg_entry_eq]
  generalize (lg_sl ([.int p0, .int p1, .null]) ++ List.replicate (3 - (lg_sl ([.int p0, .int p1, .null])).length) Slot.unset).toArray = ls at hl ⊢
  have hl : lv_has ls 3 [(0, .int p0), (1, .int p1), (2, .null)] := hl
  have hP : va_P (dC, dI) cls [] s.heap := hP
  refine lv_iload_n hx hb dJ3_checkIndex_8e157_0 rfl (lv_at hl 0 rfl) ?_
  refine lv_if_lt (tgt := 9) hx hb dJ3_checkIndex_8e157_1 (by decide) (fun c0 => absurd c0 (h0)) (fun _ => ?_)
  refine lv_iload_n hx hb dJ3_checkIndex_8e157_4 rfl (lv_at hl 0 rfl) ?_
  refine lv_iload_n hx hb dJ3_checkIndex_8e157_5 rfl (lv_at hl 1 rfl) ?_
  refine lv_icmp_lt (tgt := 16) hx hb dJ3_checkIndex_8e157_6 (by decide) (fun _ => ?_) (fun c0 => absurd (h1) c0)
  refine lv_iload_n hx hb dJ3_checkIndex_8e157_16 rfl (lv_at hl 0 rfl) ?_
  exact W.iret (v := p0) hx hb hr (fun t ht9 hW => ⟨⟨p0, (), rfl, rfl, by rw [ht9]; exact hP.sub [] rfl, va_K.moved hW.alike (hK.sub [] rfl), hD.sub [] (by decide) rfl⟩, hS.F ht9⟩) hS.2.2 dJ3_checkIndex_8e157_17
set_option maxHeartbeats 4000000 in
set_option maxRecDepth 100000 in
theorem j_pre_r (l : Launch) (dC : Nat → ClassId) (dI : Nat → Nat → Nat) (sz : Nat) (p0 : Int32) (p1 : Int32) (fm : Nat) (h0 : ¬ p0 < 0) (h1 : p0 < p1) : Met l yJ3_checkIndex_8e157 (Cond.code yJ3_checkIndex_8e157 cJ3_checkIndex_8e157 3 (some .int) :: tb) ({ frames := 0, cells := 0, slots := 0, locals := 0 }) (pcw [.int p0, .int p1, .ref fm] (dC, dI) [] [] sz) (va_Qi (fun (r : Int32) => (fun (_ : Unit) => r = p0)) (bw (dC, dI) (va_A [] sz) (fun (_ : Unit) => []) (fun (_ : Unit) => [])) (va_A [] sz)) 0 0 (va_A [] sz) := by
  refine Met.ofW (cc := cJ3_checkIndex_8e157) (maxL := 3) (ret := (some .int)) (by decide) rfl ?_
  intro p e s m args below meth c s₁ B hml hv
  obtain ⟨rfl, hsz, hP, hK, hD0⟩ := hv
  have hx := B.exec
  have hb := B.bytes
  have hr := B.returns
  have hts := atoms_spec (ws := Cond.code yJ3_checkIndex_8e157 cJ3_checkIndex_8e157 3 (some .int) :: tb) B.pre
  have ht : ∀ w ∈ tb, w.before _ s = true := fun w h => hts w (List.mem_cons_of_mem _ h)
  have hown : s.vm.findClass RJ3 = some m.cls := findClass_of_methodNamed B.named
  have hlocks := B.notSynchronized
  subst hsz
  have hD := hD0.self (sz := s.heap.size)
  generalize hAe : va_A [] s.heap.size = A at hD ⊢
  have hA : ∀ q : Nat, s.heap.size ≤ q → A q := fun q h => by rw [← hAe]; exact Or.inr h
  have hS : va_S A s.heap s.heap [] := va_S.rf
  have hl := lv_entry ([.int p0, .int p1, .ref fm]) (n := 3) (Nat.le_of_ble_eq_true rfl)
  rw [lg_entry_eq]
  generalize (lg_sl ([.int p0, .int p1, .ref fm]) ++ List.replicate (3 - (lg_sl ([.int p0, .int p1, .ref fm])).length) Slot.unset).toArray = ls at hl ⊢
  have hl : lv_has ls 3 [(0, .int p0), (1, .int p1), (2, .ref fm)] := hl
  have hP : va_P (dC, dI) cls [] s.heap := hP
  refine lv_iload_n hx hb dJ3_checkIndex_8e157_0 rfl (lv_at hl 0 rfl) ?_
  refine lv_if_lt (tgt := 9) hx hb dJ3_checkIndex_8e157_1 (by decide) (fun c0 => absurd c0 (h0)) (fun _ => ?_)
  refine lv_iload_n hx hb dJ3_checkIndex_8e157_4 rfl (lv_at hl 0 rfl) ?_
  refine lv_iload_n hx hb dJ3_checkIndex_8e157_5 rfl (lv_at hl 1 rfl) ?_
  refine lv_icmp_lt (tgt := 16) hx hb dJ3_checkIndex_8e157_6 (by decide) (fun _ => ?_) (fun c0 => absurd (h1) c0)
  refine lv_iload_n hx hb dJ3_checkIndex_8e157_16 rfl (lv_at hl 0 rfl) ?_
  exact W.iret (v := p0) hx hb hr (fun t ht9 hW => ⟨⟨p0, (), rfl, rfl, by rw [ht9]; exact hP.sub [] rfl, va_K.moved hW.alike (hK.sub [] rfl), hD.sub [] (by decide) rfl⟩, hS.F ht9⟩) hS.2.2 dJ3_checkIndex_8e157_17
set_option maxHeartbeats 4000000 in
set_option maxRecDepth 100000 in
theorem j_checkIndex (l : Launch) (dC : Nat → ClassId) (dI : Nat → Nat → Nat) (sz : Nat) (p0 : Int32) (p1 : Int32) (h0 : ¬ p0 < 0) (h1 : p0 < p1) : Met l yJ0_checkIndex_df160 (Cond.code yJ0_checkIndex_df160 cJ0_checkIndex_df160 2 none :: tb) ({ frames := 1, cells := 0, slots := 0, locals := 22 }) (pcx [.inr (.inr (.inr (.inr (.inl ("jdk/internal/util/Preconditions", "SIOOBE_FORMATTER", "Ljava/util/function/BiFunction;")))))] [.int p0, .int p1] (dC, dI) [] [] sz) (va_Qv (fun (_ : Unit) => True) (bw (dC, dI) (va_A [] sz) (fun (_ : Unit) => []) (fun (_ : Unit) => [])) (va_A [] sz)) 0 0 (va_A [] sz) := by
  refine Met.ofW (cc := cJ0_checkIndex_df160) (maxL := 2) (ret := none) (by decide) rfl ?_
  intro p e s m args below meth c s₁ B hml hv
  obtain ⟨rfl, hsz, hP, hK, hD0, hE⟩ := hv
  have hx := B.exec
  have hb := B.bytes
  have hr := B.returns
  have hts := atoms_spec (ws := Cond.code yJ0_checkIndex_df160 cJ0_checkIndex_df160 2 none :: tb) B.pre
  have ht : ∀ w ∈ tb, w.before _ s = true := fun w h => hts w (List.mem_cons_of_mem _ h)
  have hown : s.vm.findClass RJ0 = some m.cls := findClass_of_methodNamed B.named
  have hlocks := B.notSynchronized
  subst hsz
  have hD := hD0.self (sz := s.heap.size)
  generalize hAe : va_A [] s.heap.size = A at hD hE ⊢
  have hA : ∀ q : Nat, s.heap.size ≤ q → A q := fun q h => by rw [← hAe]; exact Or.inr h
  have hS : va_S A s.heap s.heap [] := va_S.rf
  have hl := lv_entry ([.int p0, .int p1]) (n := 2) (Nat.le_of_ble_eq_true rfl)
  rw [lg_entry_eq]
  generalize (lg_sl ([.int p0, .int p1]) ++ List.replicate (2 - (lg_sl ([.int p0, .int p1])).length) Slot.unset).toArray = ls at hl ⊢
  have hl : lv_has ls 2 [(0, .int p0), (1, .int p1)] := hl
  have hP : va_P (dC, dI) cls [] s.heap := hP
  refine lv_iload_n hx hb dJ0_checkIndex_df160_0 rfl (lv_at hl 0 rfl) ?_
  refine lv_iload_n hx hb dJ0_checkIndex_df160_1 rfl (lv_at hl 1 rfl) ?_
  rcases (xf_q hE 0 rfl).1 with hZ | ⟨o_1, hZ⟩
  · refine va_gets (v := .null) hx hb hZ hS hown (ht _ k_1_71) (fun _ h9 => h9) dJ0_checkIndex_df160_2 ?_
    refine ca_i (wr := []) (va_runS (As := [.int p0, .int p1, .null]) (rest := []) ⟨hx, hb, hml, hown, ht⟩ (j_pre_n l dC dI s.heap.size p0 p1  (by assumption) (by assumption)) (cwS2 3 ht (gdI k_1_75) rfl rfl rfl (ht _ k_1_5) (ht _ k_1_73) (ht _ k_1_74) (by decide +kernel) ⟨Nat.le_of_ble_eq_true rfl, Nat.le_of_ble_eq_true rfl⟩) ⟨pcw_blind, pcw_at hP hD hK [] [] (by decide) rfl rfl rfl⟩ rfl rfl hl.1 rfl (lv_room (Nat.le_of_ble_eq_true rfl)) dJ0_checkIndex_df160_5 ⟨Nat.le_of_ble_eq_true rfl, Nat.le_of_ble_eq_true rfl⟩) hP hD hK hS hA [] [] rfl rfl (by decide) (by decide) (fun r_2 u H locs w_3 hK hP hD hS => ?_)
    have hK : va_K (dC, dI) cls [] s := hK
    have hP : va_P (dC, dI) cls [] H := hP
    have hD : va_D A [] := hD
    refine lv_pop hx hb dJ0_checkIndex_df160_8 rfl ?_
    exact W.vret hx hb hr (fun t ht9 hW => ⟨⟨(), rfl, trivial, by rw [ht9]; exact hP.sub [] rfl, va_K.moved hW.alike (hK.sub [] rfl), hD.sub [] (by decide) rfl⟩, hS.F ht9⟩) hS.2.2 dJ0_checkIndex_df160_9
  · refine va_gets (v := .ref o_1) hx hb hZ hS hown (ht _ k_1_71) (fun _ h9 => h9) dJ0_checkIndex_df160_2 ?_
    refine ca_i (wr := []) (va_runS (As := [.int p0, .int p1, .ref o_1]) (rest := []) ⟨hx, hb, hml, hown, ht⟩ (j_pre_r l dC dI s.heap.size p0 p1 o_1  (by assumption) (by assumption)) (cwS2 3 ht (gdI k_1_75) rfl rfl rfl (ht _ k_1_5) (ht _ k_1_73) (ht _ k_1_74) (by decide +kernel) ⟨Nat.le_of_ble_eq_true rfl, Nat.le_of_ble_eq_true rfl⟩) ⟨pcw_blind, pcw_at hP hD hK [] [] (by decide) rfl rfl rfl⟩ rfl rfl hl.1 rfl (lv_room (Nat.le_of_ble_eq_true rfl)) dJ0_checkIndex_df160_5 ⟨Nat.le_of_ble_eq_true rfl, Nat.le_of_ble_eq_true rfl⟩) hP hD hK hS hA [] [] rfl rfl (by decide) (by decide) (fun r_4 u H locs w_5 hK hP hD hS => ?_)
    have hK : va_K (dC, dI) cls [] s := hK
    have hP : va_P (dC, dI) cls [] H := hP
    have hD : va_D A [] := hD
    refine lv_pop hx hb dJ0_checkIndex_df160_8 rfl ?_
    exact W.vret hx hb hr (fun t ht9 hW => ⟨⟨(), rfl, trivial, by rw [ht9]; exact hP.sub [] rfl, va_K.moved hW.alike (hK.sub [] rfl), hD.sub [] (by decide) rfl⟩, hS.F ht9⟩) hS.2.2 dJ0_checkIndex_df160_9
set_option maxHeartbeats 4000000 in
set_option maxRecDepth 100000 in
theorem j_charAt1 (l : Launch) (dC : Nat → ClassId) (dI : Nat → Nat → Nat) (sz : Nat) (sq : Nat) (sv : Nat) (bs : List Int32) (p0 : Int32) (hin : vp_in p0 bs.length) (hbs : bs.length < 2 ^ 31) : Met l yJ1_charAt_3b067 (Cond.code yJ1_charAt_3b067 cJ1_charAt_3b067 2 (some .char) :: tb) ({ frames := 2, cells := 0, slots := 0, locals := 43 }) (pcx [.inr (.inr (.inl (sq, sv, bs))), .inl ("java/lang/String", "COMPACT_STRINGS", "Z", .int 1), .inr (.inr (.inr (.inr (.inl ("jdk/internal/util/Preconditions", "SIOOBE_FORMATTER", "Ljava/util/function/BiFunction;")))))] [.ref sv, .int p0] (dC, dI) [] [] sz) (va_Qi (fun (r : Int32) => (fun (_ : Unit) => r = chr bs p0)) (bw (dC, dI) (va_A [] sz) (fun (_ : Unit) => []) (fun (_ : Unit) => [])) (va_A [] sz)) 0 0 (va_A [] sz) := by
  refine Met.ofW (cc := cJ1_charAt_3b067) (maxL := 2) (ret := (some .char)) (by decide) rfl ?_
  intro p e s m args below meth c s₁ B hml hv
  obtain ⟨rfl, hsz, hP, hK, hD0, hE⟩ := hv
  have hx := B.exec
  have hb := B.bytes
  have hr := B.returns
  have hts := atoms_spec (ws := Cond.code yJ1_charAt_3b067 cJ1_charAt_3b067 2 (some .char) :: tb) B.pre
  have ht : ∀ w ∈ tb, w.before _ s = true := fun w h => hts w (List.mem_cons_of_mem _ h)
  have hown : s.vm.findClass RJ1 = some m.cls := findClass_of_methodNamed B.named
  have hlocks := B.notSynchronized
  subst hsz
  have hD := hD0.self (sz := s.heap.size)
  generalize hAe : va_A [] s.heap.size = A at hD hE ⊢
  have hA : ∀ q : Nat, s.heap.size ≤ q → A q := fun q h => by rw [← hAe]; exact Or.inr h
  have hS : va_S A s.heap s.heap [] := va_S.rf
  have hl := lv_entry ([.ref sv, .int p0]) (n := 2) (Nat.le_of_ble_eq_true rfl)
  rw [lg_entry_eq]
  generalize (lg_sl ([.ref sv, .int p0]) ++ List.replicate (2 - (lg_sl ([.ref sv, .int p0])).length) Slot.unset).toArray = ls at hl ⊢
  have hl : lv_has ls 2 [(0, .ref sv), (1, .int p0)] := hl
  have hP : va_P (dC, dI) cls [] s.heap := hP
  refine lv_iload_n hx hb dJ1_charAt_3b067_0 rfl (lv_at hl 1 rfl) ?_
  refine lv_aload_n hx hb dJ1_charAt_3b067_1 rfl (lv_at hl 0 rfl) ?_
  refine va_tlen (v := nI bs.length) hx hb (xf_s hE 0 rfl).2.2.2 hS rfl dJ1_charAt_3b067_2 ?_
  refine ca_v (wr := []) (va_runS (As := [.int p0, .int (nI bs.length)]) (rest := []) ⟨hx, hb, hml, hown, ht⟩ (j_checkIndex l dC dI s.heap.size p0 (nI bs.length)  (in_lt0 hin) (in_lt1 hin hbs)) (cwS2 2 ht (gdI k_1_70) rfl rfl rfl (ht _ k_1_3) (ht _ k_1_68) (ht _ k_1_69) (by decide +kernel) ⟨Nat.le_of_ble_eq_true rfl, Nat.le_of_ble_eq_true rfl⟩) ⟨pcx_blind, pcx_at hP hD hK hS hA hE [] [] [2] (by decide) rfl rfl rfl rfl⟩ rfl rfl hl.1 rfl (lv_room (Nat.le_of_ble_eq_true rfl)) dJ1_charAt_3b067_3 ⟨Nat.le_of_ble_eq_true rfl, Nat.le_of_ble_eq_true rfl⟩) hP hD hK hS hA [] [] rfl rfl (by decide) (by decide) (fun u H locs w_2 hK hP hD hS => ?_)
  have hK : va_K (dC, dI) cls [] s := hK
  have hP : va_P (dC, dI) cls [] H := hP
  have hD : va_D A [] := hD
  refine lv_aload_n hx hb dJ1_charAt_3b067_6 rfl (lv_at hl 0 rfl) ?_
  refine lv_iload_n hx hb dJ1_charAt_3b067_7 rfl (lv_at hl 1 rfl) ?_
  refine va_tb (v := .int (bs.getD p0.toNatClampNeg 0)) hx hb (xf_s hE 0 rfl).2.2.2 hS hin rfl dJ1_charAt_3b067_8 ?_
  refine lv_topi (fun x_3 ex_3 => ?_)
  refine lv_sipush (v := 255) hx hb dJ1_charAt_3b067_9 (by decide) ?_
  refine lv_iand hx hb dJ1_charAt_3b067_12 ?_
  refine lv_topi (fun x_4 ex_4 => ?_)
  refine lv_i2c hx hb dJ1_charAt_3b067_13 rfl ?_
  refine lv_topi (fun x_5 ex_5 => ?_)
  exact W.zret (v := x_5) hx hb hr (by rw [ex_5]; exact pk_nc _) (fun t ht9 hW => ⟨⟨x_5, (), rfl, (by rw [ex_5, ex_4, ex_3]; rfl), by rw [ht9]; exact hP.sub [] rfl, va_K.moved hW.alike (hK.sub [] rfl), hD.sub [] (by decide) rfl⟩, hS.F ht9⟩) hS.2.2 dJ1_charAt_3b067_14
set_option maxHeartbeats 4000000 in
set_option maxRecDepth 100000 in
theorem j_charAt (l : Launch) (dC : Nat → ClassId) (dI : Nat → Nat → Nat) (sz : Nat) (sq : Nat) (sv : Nat) (bs : List Int32) (p0 : Int32) (hin : vp_in p0 bs.length) (hbs : bs.length < 2 ^ 31) : Met l yJ0_charAt_5068e (Cond.code yJ0_charAt_5068e cJ0_charAt_5068e 2 (some .char) :: tb) ({ frames := 3, cells := 0, slots := 0, locals := 64 }) (pcx [.inr (.inr (.inl (sq, sv, bs))), .inl ("java/lang/String", "COMPACT_STRINGS", "Z", .int 1), .inr (.inr (.inr (.inr (.inl ("jdk/internal/util/Preconditions", "SIOOBE_FORMATTER", "Ljava/util/function/BiFunction;")))))] [.ref sq, .int p0] (dC, dI) [] [] sz) (va_Qi (fun (r : Int32) => (fun (_ : Unit) => r = chr bs p0)) (bw (dC, dI) (va_A [] sz) (fun (_ : Unit) => []) (fun (_ : Unit) => [])) (va_A [] sz)) 0 0 (va_A [] sz) := by
  refine Met.ofW (cc := cJ0_charAt_5068e) (maxL := 2) (ret := (some .char)) (by decide) rfl ?_
  intro p e s m args below meth c s₁ B hml hv
  obtain ⟨rfl, hsz, hP, hK, hD0, hE⟩ := hv
  have hx := B.exec
  have hb := B.bytes
  have hr := B.returns
  have hts := atoms_spec (ws := Cond.code yJ0_charAt_5068e cJ0_charAt_5068e 2 (some .char) :: tb) B.pre
  have ht : ∀ w ∈ tb, w.before _ s = true := fun w h => hts w (List.mem_cons_of_mem _ h)
  have hown : s.vm.findClass RJ0 = some m.cls := findClass_of_methodNamed B.named
  have hlocks := B.notSynchronized
  subst hsz
  have hD := hD0.self (sz := s.heap.size)
  generalize hAe : va_A [] s.heap.size = A at hD hE ⊢
  have hA : ∀ q : Nat, s.heap.size ≤ q → A q := fun q h => by rw [← hAe]; exact Or.inr h
  have hS : va_S A s.heap s.heap [] := va_S.rf
  have hl := lv_entry ([.ref sq, .int p0]) (n := 2) (Nat.le_of_ble_eq_true rfl)
  rw [lg_entry_eq]
  generalize (lg_sl ([.ref sq, .int p0]) ++ List.replicate (2 - (lg_sl ([.ref sq, .int p0])).length) Slot.unset).toArray = ls at hl ⊢
  have hl : lv_has ls 2 [(0, .ref sq), (1, .int p0)] := hl
  have hP : va_P (dC, dI) cls [] s.heap := hP
  refine lv_aload_n hx hb dJ0_charAt_5068e_0 rfl (lv_at hl 0 rfl) ?_
  refine ca_i (wr := []) (va_runV (As := []) (rest := []) ⟨hx, hb, hml, hown, ht⟩ (j_isLatin1 l dC dI s.heap.size sq sv bs  ) (cwV 0 ht (gdV k_1_64 k_1_61 k_1_62 k_1_63 k_1_3) rfl rfl rfl (by decide +kernel) ⟨Nat.le_of_ble_eq_true rfl, Nat.le_of_ble_eq_true rfl⟩) ⟨pcx_blind, st_recv (xf_s hE 0 rfl).1 hS, pcx_at hP hD hK hS hA hE [] [] [0, 1] (by decide) rfl rfl rfl rfl⟩ rfl rfl hl.1 rfl (lv_room (Nat.le_of_ble_eq_true rfl)) dJ0_charAt_5068e_1 ⟨Nat.le_of_ble_eq_true rfl, Nat.le_of_ble_eq_true rfl⟩) hP hD hK hS hA [] [] rfl rfl (by decide) (by decide) (fun r_1 u H locs w_2 hK hP hD hS => ?_)
  have hK : va_K (dC, dI) cls [] s := hK
  have hP : va_P (dC, dI) cls [] H := hP
  have hD : va_D A [] := hD
  obtain rfl : r_1 = 1 := w_2
  refine lv_if_eq (tgt := 16) hx hb dJ0_charAt_5068e_4 (by decide) (fun c0 => absurd c0 (by decide)) (fun _ => ?_)
  refine lv_aload_n hx hb dJ0_charAt_5068e_7 rfl (lv_at hl 0 rfl) ?_
  refine vk_getf (v := .ref sv) hx hb (xf_s hE 0 rfl).2.2.1 hS hown (ht _ k_16_115) (fun _ h9 => h9) dJ0_charAt_5068e_8 ?_
  refine lv_iload_n hx hb dJ0_charAt_5068e_11 rfl (lv_at hl 1 rfl) ?_
  refine ca_i (wr := []) (va_runS (As := [.ref sv, .int p0]) (rest := []) ⟨hx, hb, hml, hown, ht⟩ (j_charAt1 l dC dI H.size sq sv bs p0  hin hbs) (cwS2 2 ht (gdI k_1_67) rfl rfl rfl (ht _ k_1_4) (ht _ k_1_65) (ht _ k_1_66) (by decide +kernel) ⟨Nat.le_of_ble_eq_true rfl, Nat.le_of_ble_eq_true rfl⟩) ⟨pcx_blind, pcx_at hP hD hK hS hA hE [] [] [0, 1, 2] (by decide) rfl rfl rfl rfl⟩ rfl rfl hl.1 rfl (lv_room (Nat.le_of_ble_eq_true rfl)) dJ0_charAt_5068e_12 ⟨Nat.le_of_ble_eq_true rfl, Nat.le_of_ble_eq_true rfl⟩) hP hD hK hS hA [] [] rfl rfl (by decide) (by decide) (fun r_3 u H locs w_4 hK hP hD hS => ?_)
  have hK : va_K (dC, dI) cls [] s := hK
  have hP : va_P (dC, dI) cls [] H := hP
  have hD : va_D A [] := hD
  exact W.zret (v := r_3) hx hb hr (by rw [w_4]; exact pk_nc _) (fun t ht9 hW => ⟨⟨r_3, (), rfl, w_4, by rw [ht9]; exact hP.sub [] rfl, va_K.moved hW.alike (hK.sub [] rfl), hD.sub [] (by decide) rfl⟩, hS.F ht9⟩) hS.2.2 dJ0_charAt_5068e_15
set_option maxHeartbeats 4000000 in
set_option maxRecDepth 100000 in
theorem j_newT (l : Launch) (dC : Nat → ClassId) (dI : Nat → Nat → Nat) (sz : Nat) (q : Nat)  : Met l yJT_init4 (Cond.code yJT_init4 cJT_init4 5 none :: tb) ({ frames := 1, cells := 0, slots := 0, locals := 12 }) (pcx [.inr (.inr (.inr (.inr (.inl ("java/lang/Throwable", "UNASSIGNED_STACK", "[Ljava/lang/StackTraceElement;"))))), .inr (.inr (.inr (.inr (.inl ("java/lang/Throwable", "SUPPRESSED_SENTINEL", "Ljava/util/List;")))))] [.ref q, .null, .null, .int 0, .int 0] (dC, dI) [(q, .inr (13, [.null, .null, .null, .null, .null, .int 0, .int 0, .int 0]))] [] sz) (va_Qv (fun (_ : Unit) => True) (bw (dC, dI) (va_A [(q, .inr (13, [.null, .null, .null, .null, .null, .int 0, .int 0, .int 0]))] sz) (fun (_ : Unit) => [(q, .inr (13, [.null, .null, .null, .null, .null, .int 0, .int 0, .int 0]))]) (fun (_ : Unit) => [])) (va_A [(q, .inr (13, [.null, .null, .null, .null, .null, .int 0, .int 0, .int 0]))] sz)) 0 0 (va_A [(q, .inr (13, [.null, .null, .null, .null, .null, .int 0, .int 0, .int 0]))] sz) := by
  refine Met.ofW (cc := cJT_init4) (maxL := 5) (ret := none) (by decide) rfl ?_
  intro p e s m args below meth c s₁ B hml hv
  obtain ⟨rfl, hsz, hP, hK, hD0, hE⟩ := hv
  have hx := B.exec
  have hb := B.bytes
  have hr := B.returns
  have hts := atoms_spec (ws := Cond.code yJT_init4 cJT_init4 5 none :: tb) B.pre
  have ht : ∀ w ∈ tb, w.before _ s = true := fun w h => hts w (List.mem_cons_of_mem _ h)
  have hown : s.vm.findClass RJT = some m.cls := findClass_of_methodNamed B.named
  have hlocks := B.notSynchronized
  have hin : meth.name = "<init>" := (name_of_methodNamed B.named B.method).1
  subst hsz
  have hD := hD0.self (sz := s.heap.size)
  generalize hAe : va_A [(q, .inr (13, [.null, .null, .null, .null, .null, .int 0, .int 0, .int 0]))] s.heap.size = A at hD hE ⊢
  have hA : ∀ q : Nat, s.heap.size ≤ q → A q := fun q h => by rw [← hAe]; exact Or.inr h
  have hS : va_S A s.heap s.heap [] := va_S.rf
  have hl := lv_entry ([.ref q, .null, .null, .int 0, .int 0]) (n := 5) (Nat.le_of_ble_eq_true rfl)
  rw [lg_entry_eq]
  generalize (lg_sl ([.ref q, .null, .null, .int 0, .int 0]) ++ List.replicate (5 - (lg_sl ([.ref q, .null, .null, .int 0, .int 0])).length) Slot.unset).toArray = ls at hl ⊢
  have hl : lv_has ls 5 [(0, .ref q), (1, .null), (2, .null), (3, .int 0), (4, .int 0)] := hl
  have hP : va_P (dC, dI) cls [(q, .inr (13, [.null, .null, .null, .null, .null, .int 0, .int 0, .int 0]))] s.heap := hP
  refine lv_aload_n hx hb dJT_init4_0 rfl (lv_at hl 0 rfl) ?_
  refine tk_o hx hb hown ht k_9_122 k_1_36 k_1_37 hml hl.1 dJT_init4_1 (Nat.le_of_ble_eq_true rfl) (Nat.le_of_ble_eq_true rfl) ?_
  refine lv_aload_n hx hb dJT_init4_4 rfl (lv_at hl 0 rfl) ?_
  refine lv_aload_n hx hb dJT_init4_5 rfl (lv_at hl 0 rfl) ?_
  refine va_put (D := (dC, dI)) (ci := 13) (v := .ref q) (ty := .object "java/lang/Throwable") (C := RX13) (T := TX13) (N := 8) hx hb ht uX13 tyX13 tkX13 nmX13 hown hK hP hD hS 0 rfl rfl 0 (by decide) (ht _ k_9_154) (fun _ h9 => h9) rfl (by decide +kernel) rfl rfl (Nat.le_of_ble_eq_true rfl) dJT_init4_6 (fun H locs hP hD hS => ?_)
  have hP : va_P (dC, dI) cls [(q, .inr (13, [.ref q, .null, .null, .null, .null, .int 0, .int 0, .int 0]))] H := hP
  have hD : va_D A [(q, .inr (13, [.ref q, .null, .null, .null, .null, .int 0, .int 0, .int 0]))] := hD
  refine lv_aload_n hx hb dJT_init4_9 rfl (lv_at hl 0 rfl) ?_
  rcases (xf_q hE 0 rfl).1 with hZ | ⟨o_1, hZ⟩
  · refine va_gets (v := .null) hx hb hZ hS hown (ht _ k_9_123) (fun _ h9 => h9) dJT_init4_10 ?_
    refine va_put (D := (dC, dI)) (ci := 13) (v := .null) (ty := .array (.object "java/lang/StackTraceElement")) (C := RX13) (T := TX13) (N := 8) hx hb ht uX13 tyX13 tkX13 nmX13 hown hK hP hD hS 0 rfl rfl 1 (by decide) (ht _ k_9_155) (fun _ h9 => h9) rfl (by decide +kernel) rfl rfl (Nat.le_of_ble_eq_true rfl) dJT_init4_13 (fun H locs hP hD hS => ?_)
    have hP : va_P (dC, dI) cls [(q, .inr (13, [.ref q, .null, .null, .null, .null, .int 0, .int 0, .int 0]))] H := hP
    have hD : va_D A [(q, .inr (13, [.ref q, .null, .null, .null, .null, .int 0, .int 0, .int 0]))] := hD
    refine lv_aload_n hx hb dJT_init4_16 rfl (lv_at hl 0 rfl) ?_
    rcases (xf_q hE 1 rfl).1 with hZ | ⟨o_2, hZ⟩
    · refine va_gets (v := .null) hx hb hZ hS hown (ht _ k_9_125) (fun _ h9 => h9) dJT_init4_17 ?_
      refine va_put (D := (dC, dI)) (ci := 13) (v := .null) (ty := .object "java/util/List") (C := RX13) (T := TX13) (N := 8) hx hb ht uX13 tyX13 tkX13 nmX13 hown hK hP hD hS 0 rfl rfl 2 (by decide) (ht _ k_9_156) (fun _ h9 => h9) rfl (by decide +kernel) rfl rfl (Nat.le_of_ble_eq_true rfl) dJT_init4_20 (fun H locs hP hD hS => ?_)
      have hP : va_P (dC, dI) cls [(q, .inr (13, [.ref q, .null, .null, .null, .null, .int 0, .int 0, .int 0]))] H := hP
      have hD : va_D A [(q, .inr (13, [.ref q, .null, .null, .null, .null, .int 0, .int 0, .int 0]))] := hD
      refine lv_iload hx hb dJT_init4_23 (lv_at hl 4 rfl) ?_
      refine lv_if_eq (tgt := 36) hx hb dJT_init4_25 (by decide) (fun _ => ?_) (fun c0 => absurd c0 (by decide))
      refine lv_aload_n hx hb dJT_init4_36 rfl (lv_at hl 0 rfl) ?_
      refine lv_null hx hb dJT_init4_37 ?_
      refine va_put (D := (dC, dI)) (ci := 13) (v := .null) (ty := .array (.object "java/lang/StackTraceElement")) (C := RX13) (T := TX13) (N := 8) hx hb ht uX13 tyX13 tkX13 nmX13 hown hK hP hD hS 0 rfl rfl 1 (by decide) (ht _ k_9_155) (fun _ h9 => h9) rfl (by decide +kernel) rfl rfl (Nat.le_of_ble_eq_true rfl) dJT_init4_38 (fun H locs hP hD hS => ?_)
      have hP : va_P (dC, dI) cls [(q, .inr (13, [.ref q, .null, .null, .null, .null, .int 0, .int 0, .int 0]))] H := hP
      have hD : va_D A [(q, .inr (13, [.ref q, .null, .null, .null, .null, .int 0, .int 0, .int 0]))] := hD
      refine lv_aload_n hx hb dJT_init4_41 rfl (lv_at hl 0 rfl) ?_
      refine lv_aload_nN hx hb dJT_init4_42 rfl (lv_at hl 1 rfl) ?_
      refine va_put (D := (dC, dI)) (ci := 13) (v := .null) (ty := .object "java/lang/String") (C := RX13) (T := TX13) (N := 8) hx hb ht uX13 tyX13 tkX13 nmX13 hown hK hP hD hS 0 rfl rfl 3 (by decide) (ht _ k_9_153) (fun _ h9 => h9) rfl (by decide +kernel) rfl rfl (Nat.le_of_ble_eq_true rfl) dJT_init4_43 (fun H locs hP hD hS => ?_)
      have hP : va_P (dC, dI) cls [(q, .inr (13, [.ref q, .null, .null, .null, .null, .int 0, .int 0, .int 0]))] H := hP
      have hD : va_D A [(q, .inr (13, [.ref q, .null, .null, .null, .null, .int 0, .int 0, .int 0]))] := hD
      refine lv_aload_n hx hb dJT_init4_46 rfl (lv_at hl 0 rfl) ?_
      refine lv_aload_nN hx hb dJT_init4_47 rfl (lv_at hl 2 rfl) ?_
      refine va_put (D := (dC, dI)) (ci := 13) (v := .null) (ty := .object "java/lang/Throwable") (C := RX13) (T := TX13) (N := 8) hx hb ht uX13 tyX13 tkX13 nmX13 hown hK hP hD hS 0 rfl rfl 0 (by decide) (ht _ k_9_154) (fun _ h9 => h9) rfl (by decide +kernel) rfl rfl (Nat.le_of_ble_eq_true rfl) dJT_init4_48 (fun H locs hP hD hS => ?_)
      have hP : va_P (dC, dI) cls [(q, .inr (13, [.null, .null, .null, .null, .null, .int 0, .int 0, .int 0]))] H := hP
      have hD : va_D A [(q, .inr (13, [.null, .null, .null, .null, .null, .int 0, .int 0, .int 0]))] := hD
      refine lv_iload_n hx hb dJT_init4_51 rfl (lv_at hl 3 rfl) ?_
      refine lv_if_ne (tgt := 60) hx hb dJT_init4_52 (by decide) (fun c0 => absurd c0 (by decide)) (fun _ => ?_)
      refine lv_aload_n hx hb dJT_init4_55 rfl (lv_at hl 0 rfl) ?_
      refine lv_null hx hb dJT_init4_56 ?_
      refine va_put (D := (dC, dI)) (ci := 13) (v := .null) (ty := .object "java/util/List") (C := RX13) (T := TX13) (N := 8) hx hb ht uX13 tyX13 tkX13 nmX13 hown hK hP hD hS 0 rfl rfl 2 (by decide) (ht _ k_9_156) (fun _ h9 => h9) rfl (by decide +kernel) rfl rfl (Nat.le_of_ble_eq_true rfl) dJT_init4_57 (fun H locs hP hD hS => ?_)
      have hP : va_P (dC, dI) cls [(q, .inr (13, [.null, .null, .null, .null, .null, .int 0, .int 0, .int 0]))] H := hP
      have hD : va_D A [(q, .inr (13, [.null, .null, .null, .null, .null, .int 0, .int 0, .int 0]))] := hD
      exact W.vret hx hb hr (fun t ht9 hW => ⟨⟨(), rfl, trivial, by rw [ht9]; exact hP.sub [0] rfl, va_K.moved hW.alike (hK.sub [] rfl), hD.sub [0] (by decide) rfl⟩, hS.F ht9⟩) hS.2.2 dJT_init4_60
    · refine va_gets (v := .ref o_2) hx hb hZ hS hown (ht _ k_9_125) (fun _ h9 => h9) dJT_init4_17 ?_
      refine va_put (D := (dC, dI)) (ci := 13) (v := .ref o_2) (ty := .object "java/util/List") (C := RX13) (T := TX13) (N := 8) hx hb ht uX13 tyX13 tkX13 nmX13 hown hK hP hD hS 0 rfl rfl 2 (by decide) (ht _ k_9_156) (fun _ h9 => h9) rfl (by decide +kernel) rfl rfl (Nat.le_of_ble_eq_true rfl) dJT_init4_20 (fun H locs hP hD hS => ?_)
      have hP : va_P (dC, dI) cls [(q, .inr (13, [.ref q, .null, .ref o_2, .null, .null, .int 0, .int 0, .int 0]))] H := hP
      have hD : va_D A [(q, .inr (13, [.ref q, .null, .ref o_2, .null, .null, .int 0, .int 0, .int 0]))] := hD
      refine lv_iload hx hb dJT_init4_23 (lv_at hl 4 rfl) ?_
      refine lv_if_eq (tgt := 36) hx hb dJT_init4_25 (by decide) (fun _ => ?_) (fun c0 => absurd c0 (by decide))
      refine lv_aload_n hx hb dJT_init4_36 rfl (lv_at hl 0 rfl) ?_
      refine lv_null hx hb dJT_init4_37 ?_
      refine va_put (D := (dC, dI)) (ci := 13) (v := .null) (ty := .array (.object "java/lang/StackTraceElement")) (C := RX13) (T := TX13) (N := 8) hx hb ht uX13 tyX13 tkX13 nmX13 hown hK hP hD hS 0 rfl rfl 1 (by decide) (ht _ k_9_155) (fun _ h9 => h9) rfl (by decide +kernel) rfl rfl (Nat.le_of_ble_eq_true rfl) dJT_init4_38 (fun H locs hP hD hS => ?_)
      have hP : va_P (dC, dI) cls [(q, .inr (13, [.ref q, .null, .ref o_2, .null, .null, .int 0, .int 0, .int 0]))] H := hP
      have hD : va_D A [(q, .inr (13, [.ref q, .null, .ref o_2, .null, .null, .int 0, .int 0, .int 0]))] := hD
      refine lv_aload_n hx hb dJT_init4_41 rfl (lv_at hl 0 rfl) ?_
      refine lv_aload_nN hx hb dJT_init4_42 rfl (lv_at hl 1 rfl) ?_
      refine va_put (D := (dC, dI)) (ci := 13) (v := .null) (ty := .object "java/lang/String") (C := RX13) (T := TX13) (N := 8) hx hb ht uX13 tyX13 tkX13 nmX13 hown hK hP hD hS 0 rfl rfl 3 (by decide) (ht _ k_9_153) (fun _ h9 => h9) rfl (by decide +kernel) rfl rfl (Nat.le_of_ble_eq_true rfl) dJT_init4_43 (fun H locs hP hD hS => ?_)
      have hP : va_P (dC, dI) cls [(q, .inr (13, [.ref q, .null, .ref o_2, .null, .null, .int 0, .int 0, .int 0]))] H := hP
      have hD : va_D A [(q, .inr (13, [.ref q, .null, .ref o_2, .null, .null, .int 0, .int 0, .int 0]))] := hD
      refine lv_aload_n hx hb dJT_init4_46 rfl (lv_at hl 0 rfl) ?_
      refine lv_aload_nN hx hb dJT_init4_47 rfl (lv_at hl 2 rfl) ?_
      refine va_put (D := (dC, dI)) (ci := 13) (v := .null) (ty := .object "java/lang/Throwable") (C := RX13) (T := TX13) (N := 8) hx hb ht uX13 tyX13 tkX13 nmX13 hown hK hP hD hS 0 rfl rfl 0 (by decide) (ht _ k_9_154) (fun _ h9 => h9) rfl (by decide +kernel) rfl rfl (Nat.le_of_ble_eq_true rfl) dJT_init4_48 (fun H locs hP hD hS => ?_)
      have hP : va_P (dC, dI) cls [(q, .inr (13, [.null, .null, .ref o_2, .null, .null, .int 0, .int 0, .int 0]))] H := hP
      have hD : va_D A [(q, .inr (13, [.null, .null, .ref o_2, .null, .null, .int 0, .int 0, .int 0]))] := hD
      refine lv_iload_n hx hb dJT_init4_51 rfl (lv_at hl 3 rfl) ?_
      refine lv_if_ne (tgt := 60) hx hb dJT_init4_52 (by decide) (fun c0 => absurd c0 (by decide)) (fun _ => ?_)
      refine lv_aload_n hx hb dJT_init4_55 rfl (lv_at hl 0 rfl) ?_
      refine lv_null hx hb dJT_init4_56 ?_
      refine va_put (D := (dC, dI)) (ci := 13) (v := .null) (ty := .object "java/util/List") (C := RX13) (T := TX13) (N := 8) hx hb ht uX13 tyX13 tkX13 nmX13 hown hK hP hD hS 0 rfl rfl 2 (by decide) (ht _ k_9_156) (fun _ h9 => h9) rfl (by decide +kernel) rfl rfl (Nat.le_of_ble_eq_true rfl) dJT_init4_57 (fun H locs hP hD hS => ?_)
      have hP : va_P (dC, dI) cls [(q, .inr (13, [.null, .null, .null, .null, .null, .int 0, .int 0, .int 0]))] H := hP
      have hD : va_D A [(q, .inr (13, [.null, .null, .null, .null, .null, .int 0, .int 0, .int 0]))] := hD
      exact W.vret hx hb hr (fun t ht9 hW => ⟨⟨(), rfl, trivial, by rw [ht9]; exact hP.sub [0] rfl, va_K.moved hW.alike (hK.sub [] rfl), hD.sub [0] (by decide) rfl⟩, hS.F ht9⟩) hS.2.2 dJT_init4_60
  · refine va_gets (v := .ref o_1) hx hb hZ hS hown (ht _ k_9_123) (fun _ h9 => h9) dJT_init4_10 ?_
    refine va_put (D := (dC, dI)) (ci := 13) (v := .ref o_1) (ty := .array (.object "java/lang/StackTraceElement")) (C := RX13) (T := TX13) (N := 8) hx hb ht uX13 tyX13 tkX13 nmX13 hown hK hP hD hS 0 rfl rfl 1 (by decide) (ht _ k_9_155) (fun _ h9 => h9) rfl (by decide +kernel) rfl rfl (Nat.le_of_ble_eq_true rfl) dJT_init4_13 (fun H locs hP hD hS => ?_)
    have hP : va_P (dC, dI) cls [(q, .inr (13, [.ref q, .ref o_1, .null, .null, .null, .int 0, .int 0, .int 0]))] H := hP
    have hD : va_D A [(q, .inr (13, [.ref q, .ref o_1, .null, .null, .null, .int 0, .int 0, .int 0]))] := hD
    refine lv_aload_n hx hb dJT_init4_16 rfl (lv_at hl 0 rfl) ?_
    rcases (xf_q hE 1 rfl).1 with hZ | ⟨o_3, hZ⟩
    · refine va_gets (v := .null) hx hb hZ hS hown (ht _ k_9_125) (fun _ h9 => h9) dJT_init4_17 ?_
      refine va_put (D := (dC, dI)) (ci := 13) (v := .null) (ty := .object "java/util/List") (C := RX13) (T := TX13) (N := 8) hx hb ht uX13 tyX13 tkX13 nmX13 hown hK hP hD hS 0 rfl rfl 2 (by decide) (ht _ k_9_156) (fun _ h9 => h9) rfl (by decide +kernel) rfl rfl (Nat.le_of_ble_eq_true rfl) dJT_init4_20 (fun H locs hP hD hS => ?_)
      have hP : va_P (dC, dI) cls [(q, .inr (13, [.ref q, .ref o_1, .null, .null, .null, .int 0, .int 0, .int 0]))] H := hP
      have hD : va_D A [(q, .inr (13, [.ref q, .ref o_1, .null, .null, .null, .int 0, .int 0, .int 0]))] := hD
      refine lv_iload hx hb dJT_init4_23 (lv_at hl 4 rfl) ?_
      refine lv_if_eq (tgt := 36) hx hb dJT_init4_25 (by decide) (fun _ => ?_) (fun c0 => absurd c0 (by decide))
      refine lv_aload_n hx hb dJT_init4_36 rfl (lv_at hl 0 rfl) ?_
      refine lv_null hx hb dJT_init4_37 ?_
      refine va_put (D := (dC, dI)) (ci := 13) (v := .null) (ty := .array (.object "java/lang/StackTraceElement")) (C := RX13) (T := TX13) (N := 8) hx hb ht uX13 tyX13 tkX13 nmX13 hown hK hP hD hS 0 rfl rfl 1 (by decide) (ht _ k_9_155) (fun _ h9 => h9) rfl (by decide +kernel) rfl rfl (Nat.le_of_ble_eq_true rfl) dJT_init4_38 (fun H locs hP hD hS => ?_)
      have hP : va_P (dC, dI) cls [(q, .inr (13, [.ref q, .null, .null, .null, .null, .int 0, .int 0, .int 0]))] H := hP
      have hD : va_D A [(q, .inr (13, [.ref q, .null, .null, .null, .null, .int 0, .int 0, .int 0]))] := hD
      refine lv_aload_n hx hb dJT_init4_41 rfl (lv_at hl 0 rfl) ?_
      refine lv_aload_nN hx hb dJT_init4_42 rfl (lv_at hl 1 rfl) ?_
      refine va_put (D := (dC, dI)) (ci := 13) (v := .null) (ty := .object "java/lang/String") (C := RX13) (T := TX13) (N := 8) hx hb ht uX13 tyX13 tkX13 nmX13 hown hK hP hD hS 0 rfl rfl 3 (by decide) (ht _ k_9_153) (fun _ h9 => h9) rfl (by decide +kernel) rfl rfl (Nat.le_of_ble_eq_true rfl) dJT_init4_43 (fun H locs hP hD hS => ?_)
      have hP : va_P (dC, dI) cls [(q, .inr (13, [.ref q, .null, .null, .null, .null, .int 0, .int 0, .int 0]))] H := hP
      have hD : va_D A [(q, .inr (13, [.ref q, .null, .null, .null, .null, .int 0, .int 0, .int 0]))] := hD
      refine lv_aload_n hx hb dJT_init4_46 rfl (lv_at hl 0 rfl) ?_
      refine lv_aload_nN hx hb dJT_init4_47 rfl (lv_at hl 2 rfl) ?_
      refine va_put (D := (dC, dI)) (ci := 13) (v := .null) (ty := .object "java/lang/Throwable") (C := RX13) (T := TX13) (N := 8) hx hb ht uX13 tyX13 tkX13 nmX13 hown hK hP hD hS 0 rfl rfl 0 (by decide) (ht _ k_9_154) (fun _ h9 => h9) rfl (by decide +kernel) rfl rfl (Nat.le_of_ble_eq_true rfl) dJT_init4_48 (fun H locs hP hD hS => ?_)
      have hP : va_P (dC, dI) cls [(q, .inr (13, [.null, .null, .null, .null, .null, .int 0, .int 0, .int 0]))] H := hP
      have hD : va_D A [(q, .inr (13, [.null, .null, .null, .null, .null, .int 0, .int 0, .int 0]))] := hD
      refine lv_iload_n hx hb dJT_init4_51 rfl (lv_at hl 3 rfl) ?_
      refine lv_if_ne (tgt := 60) hx hb dJT_init4_52 (by decide) (fun c0 => absurd c0 (by decide)) (fun _ => ?_)
      refine lv_aload_n hx hb dJT_init4_55 rfl (lv_at hl 0 rfl) ?_
      refine lv_null hx hb dJT_init4_56 ?_
      refine va_put (D := (dC, dI)) (ci := 13) (v := .null) (ty := .object "java/util/List") (C := RX13) (T := TX13) (N := 8) hx hb ht uX13 tyX13 tkX13 nmX13 hown hK hP hD hS 0 rfl rfl 2 (by decide) (ht _ k_9_156) (fun _ h9 => h9) rfl (by decide +kernel) rfl rfl (Nat.le_of_ble_eq_true rfl) dJT_init4_57 (fun H locs hP hD hS => ?_)
      have hP : va_P (dC, dI) cls [(q, .inr (13, [.null, .null, .null, .null, .null, .int 0, .int 0, .int 0]))] H := hP
      have hD : va_D A [(q, .inr (13, [.null, .null, .null, .null, .null, .int 0, .int 0, .int 0]))] := hD
      exact W.vret hx hb hr (fun t ht9 hW => ⟨⟨(), rfl, trivial, by rw [ht9]; exact hP.sub [0] rfl, va_K.moved hW.alike (hK.sub [] rfl), hD.sub [0] (by decide) rfl⟩, hS.F ht9⟩) hS.2.2 dJT_init4_60
    · refine va_gets (v := .ref o_3) hx hb hZ hS hown (ht _ k_9_125) (fun _ h9 => h9) dJT_init4_17 ?_
      refine va_put (D := (dC, dI)) (ci := 13) (v := .ref o_3) (ty := .object "java/util/List") (C := RX13) (T := TX13) (N := 8) hx hb ht uX13 tyX13 tkX13 nmX13 hown hK hP hD hS 0 rfl rfl 2 (by decide) (ht _ k_9_156) (fun _ h9 => h9) rfl (by decide +kernel) rfl rfl (Nat.le_of_ble_eq_true rfl) dJT_init4_20 (fun H locs hP hD hS => ?_)
      have hP : va_P (dC, dI) cls [(q, .inr (13, [.ref q, .ref o_1, .ref o_3, .null, .null, .int 0, .int 0, .int 0]))] H := hP
      have hD : va_D A [(q, .inr (13, [.ref q, .ref o_1, .ref o_3, .null, .null, .int 0, .int 0, .int 0]))] := hD
      refine lv_iload hx hb dJT_init4_23 (lv_at hl 4 rfl) ?_
      refine lv_if_eq (tgt := 36) hx hb dJT_init4_25 (by decide) (fun _ => ?_) (fun c0 => absurd c0 (by decide))
      refine lv_aload_n hx hb dJT_init4_36 rfl (lv_at hl 0 rfl) ?_
      refine lv_null hx hb dJT_init4_37 ?_
      refine va_put (D := (dC, dI)) (ci := 13) (v := .null) (ty := .array (.object "java/lang/StackTraceElement")) (C := RX13) (T := TX13) (N := 8) hx hb ht uX13 tyX13 tkX13 nmX13 hown hK hP hD hS 0 rfl rfl 1 (by decide) (ht _ k_9_155) (fun _ h9 => h9) rfl (by decide +kernel) rfl rfl (Nat.le_of_ble_eq_true rfl) dJT_init4_38 (fun H locs hP hD hS => ?_)
      have hP : va_P (dC, dI) cls [(q, .inr (13, [.ref q, .null, .ref o_3, .null, .null, .int 0, .int 0, .int 0]))] H := hP
      have hD : va_D A [(q, .inr (13, [.ref q, .null, .ref o_3, .null, .null, .int 0, .int 0, .int 0]))] := hD
      refine lv_aload_n hx hb dJT_init4_41 rfl (lv_at hl 0 rfl) ?_
      refine lv_aload_nN hx hb dJT_init4_42 rfl (lv_at hl 1 rfl) ?_
      refine va_put (D := (dC, dI)) (ci := 13) (v := .null) (ty := .object "java/lang/String") (C := RX13) (T := TX13) (N := 8) hx hb ht uX13 tyX13 tkX13 nmX13 hown hK hP hD hS 0 rfl rfl 3 (by decide) (ht _ k_9_153) (fun _ h9 => h9) rfl (by decide +kernel) rfl rfl (Nat.le_of_ble_eq_true rfl) dJT_init4_43 (fun H locs hP hD hS => ?_)
      have hP : va_P (dC, dI) cls [(q, .inr (13, [.ref q, .null, .ref o_3, .null, .null, .int 0, .int 0, .int 0]))] H := hP
      have hD : va_D A [(q, .inr (13, [.ref q, .null, .ref o_3, .null, .null, .int 0, .int 0, .int 0]))] := hD
      refine lv_aload_n hx hb dJT_init4_46 rfl (lv_at hl 0 rfl) ?_
      refine lv_aload_nN hx hb dJT_init4_47 rfl (lv_at hl 2 rfl) ?_
      refine va_put (D := (dC, dI)) (ci := 13) (v := .null) (ty := .object "java/lang/Throwable") (C := RX13) (T := TX13) (N := 8) hx hb ht uX13 tyX13 tkX13 nmX13 hown hK hP hD hS 0 rfl rfl 0 (by decide) (ht _ k_9_154) (fun _ h9 => h9) rfl (by decide +kernel) rfl rfl (Nat.le_of_ble_eq_true rfl) dJT_init4_48 (fun H locs hP hD hS => ?_)
      have hP : va_P (dC, dI) cls [(q, .inr (13, [.null, .null, .ref o_3, .null, .null, .int 0, .int 0, .int 0]))] H := hP
      have hD : va_D A [(q, .inr (13, [.null, .null, .ref o_3, .null, .null, .int 0, .int 0, .int 0]))] := hD
      refine lv_iload_n hx hb dJT_init4_51 rfl (lv_at hl 3 rfl) ?_
      refine lv_if_ne (tgt := 60) hx hb dJT_init4_52 (by decide) (fun c0 => absurd c0 (by decide)) (fun _ => ?_)
      refine lv_aload_n hx hb dJT_init4_55 rfl (lv_at hl 0 rfl) ?_
      refine lv_null hx hb dJT_init4_56 ?_
      refine va_put (D := (dC, dI)) (ci := 13) (v := .null) (ty := .object "java/util/List") (C := RX13) (T := TX13) (N := 8) hx hb ht uX13 tyX13 tkX13 nmX13 hown hK hP hD hS 0 rfl rfl 2 (by decide) (ht _ k_9_156) (fun _ h9 => h9) rfl (by decide +kernel) rfl rfl (Nat.le_of_ble_eq_true rfl) dJT_init4_57 (fun H locs hP hD hS => ?_)
      have hP : va_P (dC, dI) cls [(q, .inr (13, [.null, .null, .null, .null, .null, .int 0, .int 0, .int 0]))] H := hP
      have hD : va_D A [(q, .inr (13, [.null, .null, .null, .null, .null, .int 0, .int 0, .int 0]))] := hD
      exact W.vret hx hb hr (fun t ht9 hW => ⟨⟨(), rfl, trivial, by rw [ht9]; exact hP.sub [0] rfl, va_K.moved hW.alike (hK.sub [] rfl), hD.sub [0] (by decide) rfl⟩, hS.F ht9⟩) hS.2.2 dJT_init4_60
set_option maxHeartbeats 4000000 in
set_option maxRecDepth 100000 in
theorem j_newE (l : Launch) (dC : Nat → ClassId) (dI : Nat → Nat → Nat) (sz : Nat) (q : Nat)  : Met l yJE_init4 (Cond.code yJE_init4 cJE_init4 5 none :: tb) ({ frames := 2, cells := 0, slots := 0, locals := 36 }) (pcx [.inr (.inr (.inr (.inr (.inl ("java/lang/Throwable", "UNASSIGNED_STACK", "[Ljava/lang/StackTraceElement;"))))), .inr (.inr (.inr (.inr (.inl ("java/lang/Throwable", "SUPPRESSED_SENTINEL", "Ljava/util/List;")))))] [.ref q, .null, .null, .int 0, .int 0] (dC, dI) [(q, .inr (13, [.null, .null, .null, .null, .null, .int 0, .int 0, .int 0]))] [] sz) (va_Qv (fun (_ : Unit) => True) (bw (dC, dI) (va_A [(q, .inr (13, [.null, .null, .null, .null, .null, .int 0, .int 0, .int 0]))] sz) (fun (_ : Unit) => [(q, .inr (13, [.null, .null, .null, .null, .null, .int 0, .int 0, .int 0]))]) (fun (_ : Unit) => [])) (va_A [(q, .inr (13, [.null, .null, .null, .null, .null, .int 0, .int 0, .int 0]))] sz)) 0 0 (va_A [(q, .inr (13, [.null, .null, .null, .null, .null, .int 0, .int 0, .int 0]))] sz) := by
  refine Met.ofW (cc := cJE_init4) (maxL := 5) (ret := none) (by decide) rfl ?_
  intro p e s m args below meth c s₁ B hml hv
  obtain ⟨rfl, hsz, hP, hK, hD0, hE⟩ := hv
  have hx := B.exec
  have hb := B.bytes
  have hr := B.returns
  have hts := atoms_spec (ws := Cond.code yJE_init4 cJE_init4 5 none :: tb) B.pre
  have ht : ∀ w ∈ tb, w.before _ s = true := fun w h => hts w (List.mem_cons_of_mem _ h)
  have hown : s.vm.findClass RJE = some m.cls := findClass_of_methodNamed B.named
  have hlocks := B.notSynchronized
  have hin : meth.name = "<init>" := (name_of_methodNamed B.named B.method).1
  subst hsz
  have hD := hD0.self (sz := s.heap.size)
  generalize hAe : va_A [(q, .inr (13, [.null, .null, .null, .null, .null, .int 0, .int 0, .int 0]))] s.heap.size = A at hD hE ⊢
  have hA : ∀ q : Nat, s.heap.size ≤ q → A q := fun q h => by rw [← hAe]; exact Or.inr h
  have hS : va_S A s.heap s.heap [] := va_S.rf
  have hl := lv_entry ([.ref q, .null, .null, .int 0, .int 0]) (n := 5) (Nat.le_of_ble_eq_true rfl)
  rw [lg_entry_eq]
  generalize (lg_sl ([.ref q, .null, .null, .int 0, .int 0]) ++ List.replicate (5 - (lg_sl ([.ref q, .null, .null, .int 0, .int 0])).length) Slot.unset).toArray = ls at hl ⊢
  have hl : lv_has ls 5 [(0, .ref q), (1, .null), (2, .null), (3, .int 0), (4, .int 0)] := hl
  have hP : va_P (dC, dI) cls [(q, .inr (13, [.null, .null, .null, .null, .null, .int 0, .int 0, .int 0]))] s.heap := hP
  refine lv_aload_n hx hb dJE_init4_0 rfl (lv_at hl 0 rfl) ?_
  refine lv_aload_nN hx hb dJE_init4_1 rfl (lv_at hl 1 rfl) ?_
  refine lv_aload_nN hx hb dJE_init4_2 rfl (lv_at hl 2 rfl) ?_
  refine lv_iload_n hx hb dJE_init4_3 rfl (lv_at hl 3 rfl) ?_
  refine lv_iload hx hb dJE_init4_4 (lv_at hl 4 rfl) ?_
  refine ca_v (wr := []) (va_runI (As := [.null, .null, .int 0, .int 0]) (rest := []) ⟨hx, hb, hml, hown, ht⟩ (j_newT l dC dI s.heap.size q  ) (cwI 4 ht (gdI k_10_15) rfl rfl rfl (ht _ k_1_18) (ht _ k_10_13) (ht _ k_10_14) rfl (by decide +kernel) ⟨Nat.le_of_ble_eq_true rfl, Nat.le_of_ble_eq_true rfl⟩) ⟨pcx_blind, pcx_at hP hD hK hS hA hE [0] [] [0, 1] (by decide) rfl rfl rfl rfl⟩ rfl rfl hl.1 rfl (lv_room (Nat.le_of_ble_eq_true rfl)) dJE_init4_6 ⟨Nat.le_of_ble_eq_true rfl, Nat.le_of_ble_eq_true rfl⟩) hP hD hK hS hA [0] [] rfl rfl (by decide) (by decide) (fun u H locs w_2 hK hP hD hS => ?_)
  have hK : va_K (dC, dI) cls [] s := hK
  have hP : va_P (dC, dI) cls [(q, .inr (13, [.null, .null, .null, .null, .null, .int 0, .int 0, .int 0]))] H := hP
  have hD : va_D A [(q, .inr (13, [.null, .null, .null, .null, .null, .int 0, .int 0, .int 0]))] := hD
  exact W.vret hx hb hr (fun t ht9 hW => ⟨⟨(), rfl, trivial, by rw [ht9]; exact hP.sub [0] rfl, va_K.moved hW.alike (hK.sub [] rfl), hD.sub [0] (by decide) rfl⟩, hS.F ht9⟩) hS.2.2 dJE_init4_9
set_option maxHeartbeats 4000000 in
set_option maxRecDepth 100000 in
theorem j_newR (l : Launch) (dC : Nat → ClassId) (dI : Nat → Nat → Nat) (sz : Nat) (q : Nat)  : Met l yJR_init4 (Cond.code yJR_init4 cJR_init4 5 none :: tb) ({ frames := 3, cells := 0, slots := 0, locals := 60 }) (pcx [.inr (.inr (.inr (.inr (.inl ("java/lang/Throwable", "UNASSIGNED_STACK", "[Ljava/lang/StackTraceElement;"))))), .inr (.inr (.inr (.inr (.inl ("java/lang/Throwable", "SUPPRESSED_SENTINEL", "Ljava/util/List;")))))] [.ref q, .null, .null, .int 0, .int 0] (dC, dI) [(q, .inr (13, [.null, .null, .null, .null, .null, .int 0, .int 0, .int 0]))] [] sz) (va_Qv (fun (_ : Unit) => True) (bw (dC, dI) (va_A [(q, .inr (13, [.null, .null, .null, .null, .null, .int 0, .int 0, .int 0]))] sz) (fun (_ : Unit) => [(q, .inr (13, [.null, .null, .null, .null, .null, .int 0, .int 0, .int 0]))]) (fun (_ : Unit) => [])) (va_A [(q, .inr (13, [.null, .null, .null, .null, .null, .int 0, .int 0, .int 0]))] sz)) 0 0 (va_A [(q, .inr (13, [.null, .null, .null, .null, .null, .int 0, .int 0, .int 0]))] sz) := by
  refine Met.ofW (cc := cJR_init4) (maxL := 5) (ret := none) (by decide) rfl ?_
  intro p e s m args below meth c s₁ B hml hv
  obtain ⟨rfl, hsz, hP, hK, hD0, hE⟩ := hv
  have hx := B.exec
  have hb := B.bytes
  have hr := B.returns
  have hts := atoms_spec (ws := Cond.code yJR_init4 cJR_init4 5 none :: tb) B.pre
  have ht : ∀ w ∈ tb, w.before _ s = true := fun w h => hts w (List.mem_cons_of_mem _ h)
  have hown : s.vm.findClass RJR = some m.cls := findClass_of_methodNamed B.named
  have hlocks := B.notSynchronized
  have hin : meth.name = "<init>" := (name_of_methodNamed B.named B.method).1
  subst hsz
  have hD := hD0.self (sz := s.heap.size)
  generalize hAe : va_A [(q, .inr (13, [.null, .null, .null, .null, .null, .int 0, .int 0, .int 0]))] s.heap.size = A at hD hE ⊢
  have hA : ∀ q : Nat, s.heap.size ≤ q → A q := fun q h => by rw [← hAe]; exact Or.inr h
  have hS : va_S A s.heap s.heap [] := va_S.rf
  have hl := lv_entry ([.ref q, .null, .null, .int 0, .int 0]) (n := 5) (Nat.le_of_ble_eq_true rfl)
  rw [lg_entry_eq]
  generalize (lg_sl ([.ref q, .null, .null, .int 0, .int 0]) ++ List.replicate (5 - (lg_sl ([.ref q, .null, .null, .int 0, .int 0])).length) Slot.unset).toArray = ls at hl ⊢
  have hl : lv_has ls 5 [(0, .ref q), (1, .null), (2, .null), (3, .int 0), (4, .int 0)] := hl
  have hP : va_P (dC, dI) cls [(q, .inr (13, [.null, .null, .null, .null, .null, .int 0, .int 0, .int 0]))] s.heap := hP
  refine lv_aload_n hx hb dJR_init4_0 rfl (lv_at hl 0 rfl) ?_
  refine lv_aload_nN hx hb dJR_init4_1 rfl (lv_at hl 1 rfl) ?_
  refine lv_aload_nN hx hb dJR_init4_2 rfl (lv_at hl 2 rfl) ?_
  refine lv_iload_n hx hb dJR_init4_3 rfl (lv_at hl 3 rfl) ?_
  refine lv_iload hx hb dJR_init4_4 (lv_at hl 4 rfl) ?_
  refine ca_v (wr := []) (va_runI (As := [.null, .null, .int 0, .int 0]) (rest := []) ⟨hx, hb, hml, hown, ht⟩ (j_newE l dC dI s.heap.size q  ) (cwI 4 ht (gdI k_10_12) rfl rfl rfl (ht _ k_1_19) (ht _ k_10_10) (ht _ k_10_11) rfl (by decide +kernel) ⟨Nat.le_of_ble_eq_true rfl, Nat.le_of_ble_eq_true rfl⟩) ⟨pcx_blind, pcx_at hP hD hK hS hA hE [0] [] [0, 1] (by decide) rfl rfl rfl rfl⟩ rfl rfl hl.1 rfl (lv_room (Nat.le_of_ble_eq_true rfl)) dJR_init4_6 ⟨Nat.le_of_ble_eq_true rfl, Nat.le_of_ble_eq_true rfl⟩) hP hD hK hS hA [0] [] rfl rfl (by decide) (by decide) (fun u H locs w_2 hK hP hD hS => ?_)
  have hK : va_K (dC, dI) cls [] s := hK
  have hP : va_P (dC, dI) cls [(q, .inr (13, [.null, .null, .null, .null, .null, .int 0, .int 0, .int 0]))] H := hP
  have hD : va_D A [(q, .inr (13, [.null, .null, .null, .null, .null, .int 0, .int 0, .int 0]))] := hD
  exact W.vret hx hb hr (fun t ht9 hW => ⟨⟨(), rfl, trivial, by rw [ht9]; exact hP.sub [0] rfl, va_K.moved hW.alike (hK.sub [] rfl), hD.sub [0] (by decide) rfl⟩, hS.F ht9⟩) hS.2.2 dJR_init4_9
set_option maxHeartbeats 4000000 in
set_option maxRecDepth 100000 in
theorem k13 (l : Launch) (dC : Nat → ClassId) (dI : Nat → Nat → Nat) (sz : Nat) (q : Nat)  : Met l yX13_init (Cond.code yX13_init cX13_init 1 none :: tb) ({ frames := 4, cells := 0, slots := 0, locals := 84 }) (pcx [.inr (.inr (.inr (.inr (.inl ("java/lang/Throwable", "UNASSIGNED_STACK", "[Ljava/lang/StackTraceElement;"))))), .inr (.inr (.inr (.inr (.inl ("java/lang/Throwable", "SUPPRESSED_SENTINEL", "Ljava/util/List;")))))] [.ref q] (dC, dI) [(q, .inr (13, [.null, .null, .null, .null, .null, .int 0, .int 0, .int 0]))] [] sz) (va_Qv (fun (_ : Unit) => True) (bw (dC, dI) (va_A [(q, .inr (13, [.null, .null, .null, .null, .null, .int 0, .int 0, .int 0]))] sz) (fun (_ : Unit) => [(q, .inr (13, [.null, .null, .null, .null, .null, .int 0, .int 0, .int 0]))]) (fun (_ : Unit) => [])) (va_A [(q, .inr (13, [.null, .null, .null, .null, .null, .int 0, .int 0, .int 0]))] sz)) 0 0 (va_A [(q, .inr (13, [.null, .null, .null, .null, .null, .int 0, .int 0, .int 0]))] sz) := by
  refine Met.ofW (cc := cX13_init) (maxL := 1) (ret := none) (by decide) rfl ?_
  intro p e s m args below meth c s₁ B hml hv
  obtain ⟨rfl, hsz, hP, hK, hD0, hE⟩ := hv
  have hx := B.exec
  have hb := B.bytes
  have hr := B.returns
  have hts := atoms_spec (ws := Cond.code yX13_init cX13_init 1 none :: tb) B.pre
  have ht : ∀ w ∈ tb, w.before _ s = true := fun w h => hts w (List.mem_cons_of_mem _ h)
  have hown : s.vm.findClass RX13 = some m.cls := findClass_of_methodNamed B.named
  have hlocks := B.notSynchronized
  have hin : meth.name = "<init>" := (name_of_methodNamed B.named B.method).1
  subst hsz
  have hD := hD0.self (sz := s.heap.size)
  generalize hAe : va_A [(q, .inr (13, [.null, .null, .null, .null, .null, .int 0, .int 0, .int 0]))] s.heap.size = A at hD hE ⊢
  have hA : ∀ q : Nat, s.heap.size ≤ q → A q := fun q h => by rw [← hAe]; exact Or.inr h
  have hS : va_S A s.heap s.heap [] := va_S.rf
  have hl := lv_entry ([.ref q]) (n := 1) (Nat.le_of_ble_eq_true rfl)
  rw [lg_entry_eq]
  generalize (lg_sl ([.ref q]) ++ List.replicate (1 - (lg_sl ([.ref q])).length) Slot.unset).toArray = ls at hl ⊢
  have hl : lv_has ls 1 [(0, .ref q)] := hl
  have hP : va_P (dC, dI) cls [(q, .inr (13, [.null, .null, .null, .null, .null, .int 0, .int 0, .int 0]))] s.heap := hP
  refine lv_aload_n hx hb dX13_init_0 rfl (lv_at hl 0 rfl) ?_
  refine lv_null hx hb dX13_init_1 ?_
  refine lv_null hx hb dX13_init_2 ?_
  refine lv_iconst (v := 0) hx hb dX13_init_3 (by decide) ?_
  refine lv_iconst (v := 0) hx hb dX13_init_4 (by decide) ?_
  refine ca_v (wr := []) (va_runI (As := [.null, .null, .int 0, .int 0]) (rest := []) ⟨hx, hb, hml, hown, ht⟩ (j_newR l dC dI s.heap.size q  ) (cwI 4 ht (gdI k_10_9) rfl rfl rfl (ht _ k_1_20) (ht _ k_10_7) (ht _ k_10_8) rfl (by decide +kernel) ⟨Nat.le_of_ble_eq_true rfl, Nat.le_of_ble_eq_true rfl⟩) ⟨pcx_blind, pcx_at hP hD hK hS hA hE [0] [] [0, 1] (by decide) rfl rfl rfl rfl⟩ rfl rfl hl.1 rfl (lv_room (Nat.le_of_ble_eq_true rfl)) dX13_init_5 ⟨Nat.le_of_ble_eq_true rfl, Nat.le_of_ble_eq_true rfl⟩) hP hD hK hS hA [0] [] rfl rfl (by decide) (by decide) (fun u H locs w_2 hK hP hD hS => ?_)
  have hK : va_K (dC, dI) cls [] s := hK
  have hP : va_P (dC, dI) cls [(q, .inr (13, [.null, .null, .null, .null, .null, .int 0, .int 0, .int 0]))] H := hP
  have hD : va_D A [(q, .inr (13, [.null, .null, .null, .null, .null, .int 0, .int 0, .int 0]))] := hD
  exact W.vret hx hb hr (fun t ht9 hW => ⟨⟨(), rfl, trivial, by rw [ht9]; exact hP.sub [0] rfl, va_K.moved hW.alike (hK.sub [] rfl), hD.sub [0] (by decide) rfl⟩, hS.F ht9⟩) hS.2.2 dX13_init_8
